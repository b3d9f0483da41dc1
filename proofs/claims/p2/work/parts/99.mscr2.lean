theorem upf_k (d : Nat → Nat → UInt64) (n : Nat) {k j : Nat} (v : UInt64) (h : j ≠ k) : upf d n k v n j = d n j := by
  unfold upf
  rw [va_up_self]
  exact if_neg h
/-- a world stays a number while its steps are well -/
def wfP (d : Nat → Nat → UInt64) (w : Int) (P : Prop) : Prop := P → dfin (d 425 w.toNat)
/-- of the worlds only one is another -/
def w1P (d u : Nat → Nat → UInt64) (w : Int) : Prop := ∀ k : Nat, k ≠ w.toNat → u 425 k = d 425 k
theorem w1P_0 (d : Nat → Nat → UInt64) (w : Int) : w1P d d w := fun _ _ => rfl
theorem w1P_t {d u v : Nat → Nat → UInt64} {w : Int} (h : w1P d u w) (g : w1P u v w) : w1P d v w := fun k hk => (g k hk).trans (h k hk)
theorem dX12_becomes_0 : decode cX12_becomes 0 = .ok (.aload_n 0, 1) := by decide +kernel
theorem dX12_becomes_1 : decode cX12_becomes 1 = .ok (.getfield 442, 3) := by decide +kernel
theorem dX12_becomes_4 : decode cX12_becomes 4 = .ok (.iload_n 1, 1) := by decide +kernel
theorem dX12_becomes_5 : decode cX12_becomes 5 = .ok (.dload_n 2, 1) := by decide +kernel
theorem dX12_becomes_6 : decode cX12_becomes 6 = .ok (.dastore, 1) := by decide +kernel
theorem dX12_becomes_7 : decode cX12_becomes 7 = .ok (.dload_n 2, 1) := by decide +kernel
theorem dX12_becomes_8 : decode cX12_becomes 8 = .ok (.ldc2_w 446, 3) := by decide +kernel
theorem dX12_becomes_11 : decode cX12_becomes 11 = .ok (.dcmp .l, 1) := by decide +kernel
theorem dX12_becomes_12 : decode cX12_becomes 12 = .ok (.ifCond .lt 15, 3) := by decide +kernel
theorem dX12_becomes_27 : decode cX12_becomes 27 = .ok (.iconst 0, 1) := by decide +kernel
theorem dX12_becomes_28 : decode cX12_becomes 28 = .ok (.ireturn, 1) := by decide +kernel
theorem dX12_becomes_15 : decode cX12_becomes 15 = .ok (.dload_n 2, 1) := by decide +kernel
theorem dX12_becomes_16 : decode cX12_becomes 16 = .ok (.ldc2_w 448, 3) := by decide +kernel
theorem dX12_becomes_19 : decode cX12_becomes 19 = .ok (.dcmp .g, 1) := by decide +kernel
theorem dX12_becomes_20 : decode cX12_becomes 20 = .ok (.ifCond .gt 7, 3) := by decide +kernel
theorem dX12_becomes_23 : decode cX12_becomes 23 = .ok (.iconst 1, 1) := by decide +kernel
theorem dX12_becomes_24 : decode cX12_becomes 24 = .ok (.goto 4, 3) := by decide +kernel
theorem dX12_waits_0 : decode cX12_waits 0 = .ok (.iload_n 1, 1) := by decide +kernel
theorem dX12_waits_1 : decode cX12_waits 1 = .ok (.ifCond .gt 5, 3) := by decide +kernel
theorem dX12_waits_6 : decode cX12_waits 6 = .ok (.iload_n 1, 1) := by decide +kernel
theorem dX12_waits_7 : decode cX12_waits 7 = .ok (.bipush 50, 2) := by decide +kernel
theorem dX12_waits_9 : decode cX12_waits 9 = .ok (.aload_n 0, 1) := by decide +kernel
theorem dX12_waits_10 : decode cX12_waits 10 = .ok (.getfield 457, 3) := by decide +kernel
theorem dX12_waits_13 : decode cX12_waits 13 = .ok (.isub, 1) := by decide +kernel
theorem dX12_waits_14 : decode cX12_waits 14 = .ok (.if_icmp .ge 7, 3) := by decide +kernel
theorem dX12_waits_21 : decode cX12_waits 21 = .ok (.bipush 50, 2) := by decide +kernel
theorem dX12_waits_23 : decode cX12_waits 23 = .ok (.aload_n 0, 1) := by decide +kernel
theorem dX12_waits_24 : decode cX12_waits 24 = .ok (.getfield 457, 3) := by decide +kernel
theorem dX12_waits_27 : decode cX12_waits 27 = .ok (.isub, 1) := by decide +kernel
theorem dX12_waits_28 : decode cX12_waits 28 = .ok (.istore_n 2, 1) := by decide +kernel
theorem dX12_waits_29 : decode cX12_waits 29 = .ok (.aload_n 0, 1) := by decide +kernel
theorem dX12_waits_30 : decode cX12_waits 30 = .ok (.dup, 1) := by decide +kernel
theorem dX12_waits_31 : decode cX12_waits 31 = .ok (.getfield 457, 3) := by decide +kernel
theorem dX12_waits_34 : decode cX12_waits 34 = .ok (.iload_n 2, 1) := by decide +kernel
theorem dX12_waits_35 : decode cX12_waits 35 = .ok (.iadd, 1) := by decide +kernel
theorem dX12_waits_36 : decode cX12_waits 36 = .ok (.putfield 457, 3) := by decide +kernel
theorem dX12_waits_39 : decode cX12_waits 39 = .ok (.aload_n 0, 1) := by decide +kernel
theorem dX12_waits_40 : decode cX12_waits 40 = .ok (.dup, 1) := by decide +kernel
theorem dX12_waits_41 : decode cX12_waits 41 = .ok (.getfield 460, 3) := by decide +kernel
theorem dX12_waits_44 : decode cX12_waits 44 = .ok (.iload_n 2, 1) := by decide +kernel
theorem dX12_waits_45 : decode cX12_waits 45 = .ok (.iadd, 1) := by decide +kernel
theorem dX12_waits_46 : decode cX12_waits 46 = .ok (.putfield 460, 3) := by decide +kernel
theorem dX12_waits_49 : decode cX12_waits 49 = .ok (.iload_n 2, 1) := by decide +kernel
theorem dX12_waits_50 : decode cX12_waits 50 = .ok (.iload_n 1, 1) := by decide +kernel
theorem dX12_waits_51 : decode cX12_waits 51 = .ok (.if_icmp .ne 7, 3) := by decide +kernel
theorem dX12_waits_58 : decode cX12_waits 58 = .ok (.iconst 0, 1) := by decide +kernel
theorem dX12_waits_59 : decode cX12_waits 59 = .ok (.ireturn, 1) := by decide +kernel
theorem dX12_waits_54 : decode cX12_waits 54 = .ok (.iconst 1, 1) := by decide +kernel
theorem dX12_waits_55 : decode cX12_waits 55 = .ok (.goto 4, 3) := by decide +kernel
theorem dX12_waits_17 : decode cX12_waits 17 = .ok (.iload_n 1, 1) := by decide +kernel
theorem dX12_waits_18 : decode cX12_waits 18 = .ok (.goto 10, 3) := by decide +kernel
theorem dX12_waits_4 : decode cX12_waits 4 = .ok (.iconst 1, 1) := by decide +kernel
theorem dX12_waits_5 : decode cX12_waits 5 = .ok (.ireturn, 1) := by decide +kernel
set_option maxHeartbeats 2000000 in
set_option maxRecDepth 100000 in
theorem m_becomes (l : Launch) (D : va_G) (g : Nat → Nat) (ka : Nat → ClassId) (ad : Nat → Nat) (i : Nat → Nat → Int32) (r : Nat → Nat → Nat) (L : Nat → Nat → Int64) (d : Nat → Nat → UInt64) (x : Int32) (b : UInt64) (hO : OkI i) (hR : RS r) (sz : Nat) (hx0 : 0 ≤ x.toInt) (hx1 : x.toInt ≤ 2) : Met l yX12_becomes wsX12_becomes ({ frames := 0, cells := 0, slots := 0, locals := 0 }) (va_Pc [.ref (g 36), .int x, .double b] (sj_B D (hwc g ka i r L d) (hT ka) sz (gx ad (va_A (hwc g ka i r L d) sz)))) (sj_Qi (S := (Nat → Nat → UInt64)) D (fun v u => (∀ a, ¬ (a = 425) → u a = d a) ∧ ((0 : Int) ≤ v.toInt ∧ v.toInt ≤ 1) ∧ (wfP u x.toInt (v.toInt = 1)) ∧ (w1P d u x.toInt)) (fun u => hwc g ka i r L u) (fun _ => []) (va_A (hwc g ka i r L d) sz)) 0 0 (va_A (hwc g ka i r L d) sz) := by
  refine x_met (Ex := gx ad) (cc := cX12_becomes) (maxL := 4) (ret := (some .boolean)) (by decide) rfl (Nat.le_of_ble_eq_true rfl) ?_
  intro p e s m below meth c A ls hx hb hr hml hts hown hlocks hA hS hH hK hE hl
  have hown : s.vm.findClass RX12 = some m.cls := hown
  have in12 : ∀ w ∈ wsX120, w ∈ wsX12_becomes := (fun _ h => (List.mem_cons_of_mem _ (List.mem_append_right _ h)))
  have wd0 := hts (.fieldLink RX12 442 "StoryDeskModel" "world" "[D") (List.mem_cons_of_mem _ (List.mem_append_left _ lm0))
  have wd1 := hts (.constantDouble RX12 446 (13965043853221167104)) (List.mem_cons_of_mem _ (List.mem_append_left _ lm1))
  have wd2 := hts (.constantDouble RX12 448 (4741671816366391296)) (List.mem_cons_of_mem _ (List.mem_append_left _ lm2))
  have hl : lv_has ls 4 [(0, .ref (g 36)), (1, .int x), (2, .double b)] := hl
  have hK : va_K D vwCl (hT ka) s := hK
  refine lv_aload_n hx hb dX12_becomes_0 rfl (lv_at hl 0 rfl) ?_
  refine h_getr (ci := 12) (C := RX12) (F := TX12) (N := 86) hx hb hts in12 hown hK hH (by decide) (rfl : kd 36 = 12) (by decide) rfl 73 (by decide) wd0 (fun _ h9 => h9) (by decide) rfl (t := 425) (hR 36 73 rfl) (by decide) dX12_becomes_1 ?_
  refine lv_iload_n hx hb dX12_becomes_4 rfl (lv_at hl 1 rfl) ?_
  refine lv_dload_n hx hb dX12_becomes_5 rfl (lv_at hl 2 rfl) ?_
  refine h_dast hx hb hK hH hS (by decide) (rfl : kd 425 = 17) (s_vin (N := 3) (rfl : x.toInt = _) (rfl : ln 425 = 3) (by omega) (by omega)) dX12_becomes_6 (fun H locs hH hS => ?_)
  refine lv_dload_n hx hb dX12_becomes_7 rfl (lv_at hl 2 rfl) ?_
  refine lv_ldc2d hx hb hown wd1 dX12_becomes_8 ?_
  refine lv_dcmp hx hb dX12_becomes_11 ?_
  refine lv_topi (fun z_1 ez_1 => ?_)
  refine lv_if_lt (tgt := 27) hx hb dX12_becomes_12 (by decide) (fun c_2 => ?_) (fun c_2 => ?_)
  · skip
    have h_3 := s_lt (rfl : z_1.toInt = _) (show (0 : Int32).toInt = 0 from rfl) c_2
    refine lv_iconst (v := 0) hx hb dX12_becomes_27 (by decide) ?_
    exact sj_zret hx hb hr hlocks (by decide +kernel) hS (upf d 425 x.toNatClampNeg b) ⟨(fun a ha => (upf_n _ _ (by omega))), ⟨by decide, by decide⟩, (fun h9 => absurd h9 (by decide)), (fun k hk => upf_k _ _ _ (by rw [show x.toNatClampNeg = x.toInt.toNat from s_cl rfl]; exact hk))⟩ hH (sj_Knil hK) (Nat.le_of_ble_eq_true rfl) (Nat.le_of_ble_eq_true rfl) dX12_becomes_28
  · skip
    have h_4 := s_nlt (rfl : z_1.toInt = _) (show (0 : Int32).toInt = 0 from rfl) c_2
    refine lv_dload_n hx hb dX12_becomes_15 rfl (lv_at hl 2 rfl) ?_
    refine lv_ldc2d hx hb hown wd2 dX12_becomes_16 ?_
    refine lv_dcmp hx hb dX12_becomes_19 ?_
    refine lv_topi (fun z_5 ez_5 => ?_)
    refine lv_if_gt (tgt := 27) hx hb dX12_becomes_20 (by decide) (fun c_6 => ?_) (fun c_6 => ?_)
    · skip
      have h_7 := s_lt (show (0 : Int32).toInt = 0 from rfl) (rfl : z_5.toInt = _) c_6
      refine lv_iconst (v := 0) hx hb dX12_becomes_27 (by decide) ?_
      exact sj_zret hx hb hr hlocks (by decide +kernel) hS (upf d 425 x.toNatClampNeg b) ⟨(fun a ha => (upf_n _ _ (by omega))), ⟨by decide, by decide⟩, (fun h9 => absurd h9 (by decide)), (fun k hk => upf_k _ _ _ (by rw [show x.toNatClampNeg = x.toInt.toNat from s_cl rfl]; exact hk))⟩ hH (sj_Knil hK) (Nat.le_of_ble_eq_true rfl) (Nat.le_of_ble_eq_true rfl) dX12_becomes_28
    · skip
      have h_8 := s_nlt (show (0 : Int32).toInt = 0 from rfl) (rfl : z_5.toInt = _) c_6
      refine lv_iconst (v := 1) hx hb dX12_becomes_23 (by decide) ?_
      refine lv_goto (tgt := 28) hx hb dX12_becomes_24 (by decide) ?_
      exact sj_zret hx hb hr hlocks (by decide +kernel) hS (upf d 425 x.toNatClampNeg b) ⟨(fun a ha => (upf_n _ _ (by omega))), ⟨by decide, by decide⟩, (fun _ => by rw [show x.toInt.toNat = x.toNatClampNeg from (s_cl rfl).symm, upf_at]; exact in_fin ez_1 (by omega) ez_5 (by omega)), (fun k hk => upf_k _ _ _ (by rw [show x.toNatClampNeg = x.toInt.toNat from s_cl rfl]; exact hk))⟩ hH (sj_Knil hK) (Nat.le_of_ble_eq_true rfl) (Nat.le_of_ble_eq_true rfl) dX12_becomes_28
set_option maxHeartbeats 2000000 in
set_option maxRecDepth 100000 in
theorem m_waits (l : Launch) (D : va_G) (g : Nat → Nat) (ka : Nat → ClassId) (ad : Nat → Nat) (i : Nat → Nat → Int32) (r : Nat → Nat → Nat) (L : Nat → Nat → Int64) (d : Nat → Nat → UInt64) (x : Int32) (hO : OkI i) (hR : RS r) (sz : Nat)  : Met l yX12_waits wsX12_waits ({ frames := 0, cells := 0, slots := 0, locals := 0 }) (va_Pc [.ref (g 36), .int x] (sj_B D (hwc g ka i r L d) (hT ka) sz (gx ad (va_A (hwc g ka i r L d) sz)))) (sj_Qi (S := (Nat → Nat → Int32)) D (fun v u => OkI u ∧ (∀ a b, ¬ ((a = 36 ∧ (b = 74 ∨ b = 75))) → u a b = i a b) ∧ ((0 : Int) ≤ v.toInt ∧ v.toInt ≤ 1)) (fun u => hwc g ka u r L d) (fun _ => []) (va_A (hwc g ka i r L d) sz)) 0 0 (va_A (hwc g ka i r L d) sz) := by
  refine x_met (Ex := gx ad) (cc := cX12_waits) (maxL := 3) (ret := (some .boolean)) (by decide) rfl (Nat.le_of_ble_eq_true rfl) ?_
  intro p e s m below meth c A ls hx hb hr hml hts hown hlocks hA hS hH hK hE hl
  have hown : s.vm.findClass RX12 = some m.cls := hown
  have in12 : ∀ w ∈ wsX120, w ∈ wsX12_waits := (fun _ h => (List.mem_cons_of_mem _ (List.mem_append_right _ h)))
  have wd0 := hts (.fieldLink RX12 457 "StoryDeskModel" "waited" "I") (List.mem_cons_of_mem _ (List.mem_append_left _ lm0))
  have wd1 := hts (.fieldLink RX12 460 "StoryDeskModel" "units" "I") (List.mem_cons_of_mem _ (List.mem_append_left _ lm1))
  have hl : lv_has ls 3 [(0, .ref (g 36)), (1, .int x)] := hl
  have hK : va_K D vwCl (hT ka) s := hK
  have hg_1 := s_rng x
  refine lv_iload_n hx hb dX12_waits_0 rfl (lv_at hl 1 rfl) ?_
  refine lv_if_gt (tgt := 6) hx hb dX12_waits_1 (by decide) (fun c_2 => ?_) (fun c_2 => ?_)
  · skip
    have h_3 := s_lt (show (0 : Int32).toInt = 0 from rfl) (rfl : x.toInt = _) c_2
    refine lv_iload_n hx hb dX12_waits_6 rfl (lv_at hl 1 rfl) ?_
    refine lv_bipush (v := 50) hx hb dX12_waits_7 (by decide) ?_
    refine lv_aload_n hx hb dX12_waits_9 rfl (lv_at hl 0 rfl) ?_
    refine h_geti (ci := 12) (C := RX12) (F := TX12) (N := 86) hx hb hts in12 hown hK hH (by decide) (rfl : kd 36 = 12) (by decide) rfl 74 (by decide) wd0 (fun _ h9 => h9) (by decide) rfl dX12_waits_10 ?_
    refine lv_isub hx hb dX12_waits_13 ?_
    obtain ⟨z_4, ez_4⟩ : ∃ z, 50 - (i 36 74) = z := ⟨_, rfl⟩
    refine sj_i ez_4 ?_
    refine lv_icmp_ge (tgt := 21) hx hb dX12_waits_14 (by decide) (fun c_5 => ?_) (fun c_5 => ?_)
    · skip
      have h_6 := s_le (rfl : z_4.toInt = _) (rfl : x.toInt = _) c_5
      refine lv_bipush (v := 50) hx hb dX12_waits_21 (by decide) ?_
      refine lv_aload_n hx hb dX12_waits_23 rfl (lv_at hl 0 rfl) ?_
      refine h_geti (ci := 12) (C := RX12) (F := TX12) (N := 86) hx hb hts in12 hown hK hH (by decide) (rfl : kd 36 = 12) (by decide) rfl 74 (by decide) wd0 (fun _ h9 => h9) (by decide) rfl dX12_waits_24 ?_
      refine lv_isub hx hb dX12_waits_27 ?_
      obtain ⟨z_7, ez_7⟩ : ∃ z, 50 - (i 36 74) = z := ⟨_, rfl⟩
      refine sj_i ez_7 ?_
      refine lv_istore_n (lv' := [(2, .int z_7), (0, .ref (g 36)), (1, .int x)]) hx hb dX12_waits_28 rfl hl (by decide) rfl (fun ls hl => ?_)
      refine lv_aload_n hx hb dX12_waits_29 rfl (lv_at hl 1 rfl) ?_
      refine lv_dup hx hb dX12_waits_30 rfl ?_
      refine h_geti (ci := 12) (C := RX12) (F := TX12) (N := 86) hx hb hts in12 hown hK hH (by decide) (rfl : kd 36 = 12) (by decide) rfl 74 (by decide) wd0 (fun _ h9 => h9) (by decide) rfl dX12_waits_31 ?_
      refine lv_iload_n hx hb dX12_waits_34 rfl (lv_at hl 0 rfl) ?_
      refine lv_iadd hx hb dX12_waits_35 ?_
      obtain ⟨z_8, ez_8⟩ : ∃ z, (i 36 74) + z_7 = z := ⟨_, rfl⟩
      refine sj_i ez_8 ?_
      have hO_9 := okp hO (n := 36) (k := 74) (v := z_8) (show (-2147483648 : Int) ≤ (z_8 : Int32).toInt ∧ (z_8 : Int32).toInt ≤ 2147483647 from s_rng z_8)
      refine h_puti (ty := .int) (ci := 12) (C := RX12) (F := TX12) (N := 86) hx hb hts in12 tyX12 tyX12_ok nmX12 hown hK hH hS (by decide) (rfl : kd 36 = 12) (by decide) rfl 74 (by decide) wd0 (fun _ h9 => h9) rfl (by decide +kernel) rfl rfl (by decide) rfl dX12_waits_36 (fun H locs hH hS => ?_)
      refine lv_aload_n hx hb dX12_waits_39 rfl (lv_at hl 1 rfl) ?_
      refine lv_dup hx hb dX12_waits_40 rfl ?_
      refine h_geti (ci := 12) (C := RX12) (F := TX12) (N := 86) hx hb hts in12 hown hK hH (by decide) (rfl : kd 36 = 12) (by decide) rfl 75 (by decide) wd1 (fun _ h9 => h9) (by decide) rfl dX12_waits_41 ?_
      refine sj_i (y := (i 36 75)) (up2_k _ _ (by decide)) ?_
      refine lv_iload_n hx hb dX12_waits_44 rfl (lv_at hl 0 rfl) ?_
      refine lv_iadd hx hb dX12_waits_45 ?_
      obtain ⟨z_10, ez_10⟩ : ∃ z, (i 36 75) + z_7 = z := ⟨_, rfl⟩
      refine sj_i ez_10 ?_
      have hO_11 := okp hO_9 (n := 36) (k := 75) (v := z_10) (show (-2147483648 : Int) ≤ (z_10 : Int32).toInt ∧ (z_10 : Int32).toInt ≤ 2147483647 from s_rng z_10)
      refine h_puti (ty := .int) (ci := 12) (C := RX12) (F := TX12) (N := 86) hx hb hts in12 tyX12 tyX12_ok nmX12 hown hK hH hS (by decide) (rfl : kd 36 = 12) (by decide) rfl 75 (by decide) wd1 (fun _ h9 => h9) rfl (by decide +kernel) rfl rfl (by decide) rfl dX12_waits_46 (fun H locs hH hS => ?_)
      refine lv_iload_n hx hb dX12_waits_49 rfl (lv_at hl 0 rfl) ?_
      refine lv_iload_n hx hb dX12_waits_50 rfl (lv_at hl 2 rfl) ?_
      refine lv_icmp_ne (tgt := 58) hx hb dX12_waits_51 (by decide) (fun c_12 => ?_) (fun c_12 => ?_)
      · skip
        have h_13 := s_ne (rfl : z_7.toInt = _) (rfl : x.toInt = _) c_12
        refine lv_iconst (v := 0) hx hb dX12_waits_58 (by decide) ?_
        exact sj_zret hx hb hr hlocks (by decide +kernel) hS (up2 (up2 i 36 74 z_8) 36 75 z_10) ⟨hO_11, (fun a b ha => ((up2_o _ _ (by omega)).trans (up2_o _ _ (by omega)))), ⟨by decide, by decide⟩⟩ hH (sj_Knil hK) (Nat.le_of_ble_eq_true rfl) (Nat.le_of_ble_eq_true rfl) dX12_waits_59
      · skip
        have h_14 := s_eq (rfl : z_7.toInt = _) (rfl : x.toInt = _) c_12
        refine lv_iconst (v := 1) hx hb dX12_waits_54 (by decide) ?_
        refine lv_goto (tgt := 59) hx hb dX12_waits_55 (by decide) ?_
        exact sj_zret hx hb hr hlocks (by decide +kernel) hS (up2 (up2 i 36 74 z_8) 36 75 z_10) ⟨hO_11, (fun a b ha => ((up2_o _ _ (by omega)).trans (up2_o _ _ (by omega)))), ⟨by decide, by decide⟩⟩ hH (sj_Knil hK) (Nat.le_of_ble_eq_true rfl) (Nat.le_of_ble_eq_true rfl) dX12_waits_59
    · skip
      have h_15 := s_nle (rfl : z_4.toInt = _) (rfl : x.toInt = _) c_5
      refine lv_iload_n hx hb dX12_waits_17 rfl (lv_at hl 1 rfl) ?_
      refine lv_goto (tgt := 28) hx hb dX12_waits_18 (by decide) ?_
      refine lv_istore_n (lv' := [(2, .int x), (0, .ref (g 36)), (1, .int x)]) hx hb dX12_waits_28 rfl hl (by decide) rfl (fun ls hl => ?_)
      refine lv_aload_n hx hb dX12_waits_29 rfl (lv_at hl 1 rfl) ?_
      refine lv_dup hx hb dX12_waits_30 rfl ?_
      refine h_geti (ci := 12) (C := RX12) (F := TX12) (N := 86) hx hb hts in12 hown hK hH (by decide) (rfl : kd 36 = 12) (by decide) rfl 74 (by decide) wd0 (fun _ h9 => h9) (by decide) rfl dX12_waits_31 ?_
      refine lv_iload_n hx hb dX12_waits_34 rfl (lv_at hl 0 rfl) ?_
      refine lv_iadd hx hb dX12_waits_35 ?_
      obtain ⟨z_16, ez_16⟩ : ∃ z, (i 36 74) + x = z := ⟨_, rfl⟩
      refine sj_i ez_16 ?_
      have hO_17 := okp hO (n := 36) (k := 74) (v := z_16) (show (-2147483648 : Int) ≤ (z_16 : Int32).toInt ∧ (z_16 : Int32).toInt ≤ 2147483647 from s_rng z_16)
      refine h_puti (ty := .int) (ci := 12) (C := RX12) (F := TX12) (N := 86) hx hb hts in12 tyX12 tyX12_ok nmX12 hown hK hH hS (by decide) (rfl : kd 36 = 12) (by decide) rfl 74 (by decide) wd0 (fun _ h9 => h9) rfl (by decide +kernel) rfl rfl (by decide) rfl dX12_waits_36 (fun H locs hH hS => ?_)
      refine lv_aload_n hx hb dX12_waits_39 rfl (lv_at hl 1 rfl) ?_
      refine lv_dup hx hb dX12_waits_40 rfl ?_
      refine h_geti (ci := 12) (C := RX12) (F := TX12) (N := 86) hx hb hts in12 hown hK hH (by decide) (rfl : kd 36 = 12) (by decide) rfl 75 (by decide) wd1 (fun _ h9 => h9) (by decide) rfl dX12_waits_41 ?_
      refine sj_i (y := (i 36 75)) (up2_k _ _ (by decide)) ?_
      refine lv_iload_n hx hb dX12_waits_44 rfl (lv_at hl 0 rfl) ?_
      refine lv_iadd hx hb dX12_waits_45 ?_
      obtain ⟨z_18, ez_18⟩ : ∃ z, (i 36 75) + x = z := ⟨_, rfl⟩
      refine sj_i ez_18 ?_
      have hO_19 := okp hO_17 (n := 36) (k := 75) (v := z_18) (show (-2147483648 : Int) ≤ (z_18 : Int32).toInt ∧ (z_18 : Int32).toInt ≤ 2147483647 from s_rng z_18)
      refine h_puti (ty := .int) (ci := 12) (C := RX12) (F := TX12) (N := 86) hx hb hts in12 tyX12 tyX12_ok nmX12 hown hK hH hS (by decide) (rfl : kd 36 = 12) (by decide) rfl 75 (by decide) wd1 (fun _ h9 => h9) rfl (by decide +kernel) rfl rfl (by decide) rfl dX12_waits_46 (fun H locs hH hS => ?_)
      refine lv_iload_n hx hb dX12_waits_49 rfl (lv_at hl 0 rfl) ?_
      refine lv_iload_n hx hb dX12_waits_50 rfl (lv_at hl 2 rfl) ?_
      refine lv_icmp_ne (tgt := 58) hx hb dX12_waits_51 (by decide) (fun c_20 => ?_) (fun c_20 => ?_)
      · skip
        have h_21 := s_ne (rfl : x.toInt = _) (rfl : x.toInt = _) c_20
        refine lv_iconst (v := 0) hx hb dX12_waits_58 (by decide) ?_
        exact sj_zret hx hb hr hlocks (by decide +kernel) hS (up2 (up2 i 36 74 z_16) 36 75 z_18) ⟨hO_19, (fun a b ha => ((up2_o _ _ (by omega)).trans (up2_o _ _ (by omega)))), ⟨by decide, by decide⟩⟩ hH (sj_Knil hK) (Nat.le_of_ble_eq_true rfl) (Nat.le_of_ble_eq_true rfl) dX12_waits_59
      · skip
        have h_22 := s_eq (rfl : x.toInt = _) (rfl : x.toInt = _) c_20
        refine lv_iconst (v := 1) hx hb dX12_waits_54 (by decide) ?_
        refine lv_goto (tgt := 59) hx hb dX12_waits_55 (by decide) ?_
        exact sj_zret hx hb hr hlocks (by decide +kernel) hS (up2 (up2 i 36 74 z_16) 36 75 z_18) ⟨hO_19, (fun a b ha => ((up2_o _ _ (by omega)).trans (up2_o _ _ (by omega)))), ⟨by decide, by decide⟩⟩ hH (sj_Knil hK) (Nat.le_of_ble_eq_true rfl) (Nat.le_of_ble_eq_true rfl) dX12_waits_59
  · skip
    have h_23 := s_nlt (show (0 : Int32).toInt = 0 from rfl) (rfl : x.toInt = _) c_2
    refine lv_iconst (v := 1) hx hb dX12_waits_4 (by decide) ?_
    exact sj_zret hx hb hr hlocks (by decide +kernel) hS i ⟨hO, (fun a b ha => rfl), ⟨by decide, by decide⟩⟩ hH (sj_Knil hK) (Nat.le_of_ble_eq_true rfl) (Nat.le_of_ble_eq_true rfl) dX12_waits_5
