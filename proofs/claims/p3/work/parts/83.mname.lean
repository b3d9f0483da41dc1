/-- the inner loop of a name: so far alike, or not at all -/
def nmI (f ct : Nat → Int32) (st len k cell many u t : Int) : Prop := (t = 1 ∧ k + many < len ∧ (f (st + k + many).toNat).toInt = 62 ∧ ∀ j : Nat, (j : Int) < u → (f (st + k + (j : Int)).toNat).toInt = (ct (60 * cell + (j : Int)).toNat).toInt) ∨ (t = 0 ∧ ¬ nmM f ct st len k cell many)
theorem nmX_no {f ct cs : Nat → Int32} {st len k nm n cell many u t : Int} (h : nmX f ct cs st len k nm n) (hc : cell = 4 * nm + n) (hm : (cs (4 * nm + n).toNat).toInt = many) (hi : nmI f ct st len k cell many u t) (ht : t = 0) : False := by
  rcases hi with ⟨h1, _⟩ | ⟨_, h2⟩
  · omega
  · unfold nmX at h
    rw [hm, ← hc] at h
    exact h2 h
theorem nmX_yes {f ct cs : Nat → Int32} {st len k nm n cell many u t : Int} (hc : cell = 4 * nm + n) (hm : (cs (4 * nm + n).toNat).toInt = many) (hi : t = 1 ∧ k + many < len ∧ (f (st + k + many).toNat).toInt = 62 ∧ ∀ j : Nat, (j : Int) < u → (f (st + k + (j : Int)).toNat).toInt = (ct (60 * cell + (j : Int)).toNat).toInt) (hu : many ≤ u) : nmX f ct cs st len k nm n := by
  unfold nmX
  rw [hm, ← hc]
  exact ⟨hi.2.1, hi.2.2.1, fun j hj => hi.2.2.2 j (by omega)⟩
theorem dX12_add_0 : decode cX12_add 0 = .ok (.aload_n 0, 1) := by decide +kernel
theorem dX12_add_1 : decode cX12_add 1 = .ok (.getfield 224, 3) := by decide +kernel
theorem dX12_add_4 : decode cX12_add 4 = .ok (.bipush 60, 2) := by decide +kernel
theorem dX12_add_6 : decode cX12_add 6 = .ok (.if_icmp .ne 4, 3) := by decide +kernel
theorem dX12_add_10 : decode cX12_add 10 = .ok (.aload_n 0, 1) := by decide +kernel
theorem dX12_add_11 : decode cX12_add 11 = .ok (.getfield 227, 3) := by decide +kernel
theorem dX12_add_14 : decode cX12_add 14 = .ok (.aload_n 0, 1) := by decide +kernel
theorem dX12_add_15 : decode cX12_add 15 = .ok (.getfield 224, 3) := by decide +kernel
theorem dX12_add_18 : decode cX12_add 18 = .ok (.iload_n 1, 1) := by decide +kernel
theorem dX12_add_19 : decode cX12_add 19 = .ok (.castore, 1) := by decide +kernel
theorem dX12_add_20 : decode cX12_add 20 = .ok (.aload_n 0, 1) := by decide +kernel
theorem dX12_add_21 : decode cX12_add 21 = .ok (.dup, 1) := by decide +kernel
theorem dX12_add_22 : decode cX12_add 22 = .ok (.getfield 224, 3) := by decide +kernel
theorem dX12_add_25 : decode cX12_add 25 = .ok (.iconst 1, 1) := by decide +kernel
theorem dX12_add_26 : decode cX12_add 26 = .ok (.iadd, 1) := by decide +kernel
theorem dX12_add_27 : decode cX12_add 27 = .ok (.putfield 224, 3) := by decide +kernel
theorem dX12_add_30 : decode cX12_add 30 = .ok (.return_, 1) := by decide +kernel
theorem dX12_add_9 : decode cX12_add 9 = .ok (.return_, 1) := by decide +kernel
theorem dX12_nameAt_0 : decode cX12_nameAt 0 = .ok (.iconst 0, 1) := by decide +kernel
theorem dX12_nameAt_1 : decode cX12_nameAt 1 = .ok (.istore 6, 2) := by decide +kernel
theorem dX12_nameAt_3 : decode cX12_nameAt 3 = .ok (.iload 6, 2) := by decide +kernel
theorem dX12_nameAt_5 : decode cX12_nameAt 5 = .ok (.aload_n 0, 1) := by decide +kernel
theorem dX12_nameAt_6 : decode cX12_nameAt 6 = .ok (.getfield 83, 3) := by decide +kernel
theorem dX12_nameAt_9 : decode cX12_nameAt 9 = .ok (.iload 5, 2) := by decide +kernel
theorem dX12_nameAt_11 : decode cX12_nameAt 11 = .ok (.iaload, 1) := by decide +kernel
theorem dX12_nameAt_12 : decode cX12_nameAt 12 = .ok (.if_icmp .ge 118, 3) := by decide +kernel
theorem dX12_nameAt_130 : decode cX12_nameAt 130 = .ok (.iconst (-1), 1) := by decide +kernel
theorem dX12_nameAt_131 : decode cX12_nameAt 131 = .ok (.ireturn, 1) := by decide +kernel
theorem dX12_nameAt_15 : decode cX12_nameAt 15 = .ok (.iconst 4, 1) := by decide +kernel
theorem dX12_nameAt_16 : decode cX12_nameAt 16 = .ok (.iload 5, 2) := by decide +kernel
theorem dX12_nameAt_18 : decode cX12_nameAt 18 = .ok (.imul, 1) := by decide +kernel
theorem dX12_nameAt_19 : decode cX12_nameAt 19 = .ok (.iload 6, 2) := by decide +kernel
theorem dX12_nameAt_21 : decode cX12_nameAt 21 = .ok (.iadd, 1) := by decide +kernel
theorem dX12_nameAt_22 : decode cX12_nameAt 22 = .ok (.istore 7, 2) := by decide +kernel
theorem dX12_nameAt_24 : decode cX12_nameAt 24 = .ok (.aload_n 0, 1) := by decide +kernel
theorem dX12_nameAt_25 : decode cX12_nameAt 25 = .ok (.getfield 93, 3) := by decide +kernel
theorem dX12_nameAt_28 : decode cX12_nameAt 28 = .ok (.iload 7, 2) := by decide +kernel
theorem dX12_nameAt_30 : decode cX12_nameAt 30 = .ok (.iaload, 1) := by decide +kernel
theorem dX12_nameAt_31 : decode cX12_nameAt 31 = .ok (.istore 8, 2) := by decide +kernel
theorem dX12_nameAt_33 : decode cX12_nameAt 33 = .ok (.iload 4, 2) := by decide +kernel
theorem dX12_nameAt_35 : decode cX12_nameAt 35 = .ok (.iload 8, 2) := by decide +kernel
theorem dX12_nameAt_37 : decode cX12_nameAt 37 = .ok (.iadd, 1) := by decide +kernel
theorem dX12_nameAt_38 : decode cX12_nameAt 38 = .ok (.iload_n 3, 1) := by decide +kernel
theorem dX12_nameAt_39 : decode cX12_nameAt 39 = .ok (.if_icmp .ge 21, 3) := by decide +kernel
theorem dX12_nameAt_60 : decode cX12_nameAt 60 = .ok (.iconst 0, 1) := by decide +kernel
theorem dX12_nameAt_61 : decode cX12_nameAt 61 = .ok (.istore 9, 2) := by decide +kernel
theorem dX12_nameAt_63 : decode cX12_nameAt 63 = .ok (.iconst 0, 1) := by decide +kernel
theorem dX12_nameAt_64 : decode cX12_nameAt 64 = .ok (.istore 10, 2) := by decide +kernel
theorem dX12_nameAt_66 : decode cX12_nameAt 66 = .ok (.iload 10, 2) := by decide +kernel
theorem dX12_nameAt_68 : decode cX12_nameAt 68 = .ok (.iload 8, 2) := by decide +kernel
theorem dX12_nameAt_70 : decode cX12_nameAt 70 = .ok (.if_icmp .ge 46, 3) := by decide +kernel
theorem dX12_nameAt_116 : decode cX12_nameAt 116 = .ok (.iload 9, 2) := by decide +kernel
theorem dX12_nameAt_118 : decode cX12_nameAt 118 = .ok (.ifCond .eq 6, 3) := by decide +kernel
theorem dX12_nameAt_124 : decode cX12_nameAt 124 = .ok (.iinc 6 1, 3) := by decide +kernel
theorem dX12_nameAt_127 : decode cX12_nameAt 127 = .ok (.goto (-124), 3) := by decide +kernel
theorem dX12_nameAt_121 : decode cX12_nameAt 121 = .ok (.iload 6, 2) := by decide +kernel
theorem dX12_nameAt_123 : decode cX12_nameAt 123 = .ok (.ireturn, 1) := by decide +kernel
theorem dX12_nameAt_73 : decode cX12_nameAt 73 = .ok (.iload 9, 2) := by decide +kernel
theorem dX12_nameAt_75 : decode cX12_nameAt 75 = .ok (.ifCond .eq 41, 3) := by decide +kernel
theorem dX12_nameAt_78 : decode cX12_nameAt 78 = .ok (.aload_n 1, 1) := by decide +kernel
theorem dX12_nameAt_79 : decode cX12_nameAt 79 = .ok (.iload_n 2, 1) := by decide +kernel
theorem dX12_nameAt_80 : decode cX12_nameAt 80 = .ok (.iload 4, 2) := by decide +kernel
theorem dX12_nameAt_82 : decode cX12_nameAt 82 = .ok (.iadd, 1) := by decide +kernel
theorem dX12_nameAt_83 : decode cX12_nameAt 83 = .ok (.iload 10, 2) := by decide +kernel
theorem dX12_nameAt_85 : decode cX12_nameAt 85 = .ok (.iadd, 1) := by decide +kernel
theorem dX12_nameAt_86 : decode cX12_nameAt 86 = .ok (.caload, 1) := by decide +kernel
theorem dX12_nameAt_87 : decode cX12_nameAt 87 = .ok (.aload_n 0, 1) := by decide +kernel
theorem dX12_nameAt_88 : decode cX12_nameAt 88 = .ok (.getfield 96, 3) := by decide +kernel
theorem dX12_nameAt_91 : decode cX12_nameAt 91 = .ok (.bipush 60, 2) := by decide +kernel
theorem dX12_nameAt_93 : decode cX12_nameAt 93 = .ok (.iload 7, 2) := by decide +kernel
theorem dX12_nameAt_95 : decode cX12_nameAt 95 = .ok (.imul, 1) := by decide +kernel
theorem dX12_nameAt_96 : decode cX12_nameAt 96 = .ok (.iload 10, 2) := by decide +kernel
theorem dX12_nameAt_98 : decode cX12_nameAt 98 = .ok (.iadd, 1) := by decide +kernel
theorem dX12_nameAt_99 : decode cX12_nameAt 99 = .ok (.caload, 1) := by decide +kernel
theorem dX12_nameAt_100 : decode cX12_nameAt 100 = .ok (.if_icmp .ne 7, 3) := by decide +kernel
theorem dX12_nameAt_107 : decode cX12_nameAt 107 = .ok (.iconst 0, 1) := by decide +kernel
theorem dX12_nameAt_108 : decode cX12_nameAt 108 = .ok (.istore 9, 2) := by decide +kernel
theorem dX12_nameAt_110 : decode cX12_nameAt 110 = .ok (.iinc 10 1, 3) := by decide +kernel
theorem dX12_nameAt_113 : decode cX12_nameAt 113 = .ok (.goto (-47), 3) := by decide +kernel
theorem dX12_nameAt_103 : decode cX12_nameAt 103 = .ok (.iconst 1, 1) := by decide +kernel
theorem dX12_nameAt_104 : decode cX12_nameAt 104 = .ok (.goto 4, 3) := by decide +kernel
theorem dX12_nameAt_42 : decode cX12_nameAt 42 = .ok (.aload_n 1, 1) := by decide +kernel
theorem dX12_nameAt_43 : decode cX12_nameAt 43 = .ok (.iload_n 2, 1) := by decide +kernel
theorem dX12_nameAt_44 : decode cX12_nameAt 44 = .ok (.iload 4, 2) := by decide +kernel
theorem dX12_nameAt_46 : decode cX12_nameAt 46 = .ok (.iadd, 1) := by decide +kernel
theorem dX12_nameAt_47 : decode cX12_nameAt 47 = .ok (.iload 8, 2) := by decide +kernel
theorem dX12_nameAt_49 : decode cX12_nameAt 49 = .ok (.iadd, 1) := by decide +kernel
theorem dX12_nameAt_50 : decode cX12_nameAt 50 = .ok (.caload, 1) := by decide +kernel
theorem dX12_nameAt_51 : decode cX12_nameAt 51 = .ok (.bipush 62, 2) := by decide +kernel
theorem dX12_nameAt_53 : decode cX12_nameAt 53 = .ok (.if_icmp .ne 7, 3) := by decide +kernel
theorem dX12_nameAt_56 : decode cX12_nameAt 56 = .ok (.iconst 1, 1) := by decide +kernel
theorem dX12_nameAt_57 : decode cX12_nameAt 57 = .ok (.goto 4, 3) := by decide +kernel
set_option maxHeartbeats 2000000 in
set_option maxRecDepth 100000 in
theorem m_add (l : Launch) (D : va_G) (g : Nat → Nat) (ka : Nat → ClassId) (ad : Nat → Nat) (i : Nat → Nat → Int32) (r : Nat → Nat → Nat) (L : Nat → Nat → Int64) (d : Nat → Nat → UInt64) (x : Int32) (hO : OkI i) (hR : RS r) (sz : Nat) (hx0 : 0 ≤ x.toInt) (hx1 : x.toInt ≤ 65535) : Met l yX12_add wsX12_add ({ frames := 0, cells := 0, slots := 0, locals := 0 }) (va_Pc [.ref (g 36), .int x] (sj_B D (hwc g ka i r L d) (hT ka) sz (gx ad (va_A (hwc g ka i r L d) sz)))) (sj_Qv (S := (Nat → Nat → Int32)) D (fun u => OkI u ∧ (∀ a b, ¬ ((a = 36 ∧ (b = 40)) ∨ a = 402) → u a b = i a b) ∧ (((i 36 40).toInt = 60 ∧ u = i) ∨ ((i 36 40).toInt ≠ 60 ∧ (u 36 40).toInt = (i 36 40).toInt + 1 ∧ (u 402 (i 36 40).toInt.toNat).toInt = x.toInt ∧ ∀ k : Nat, k ≠ (i 36 40).toInt.toNat → u 402 k = i 402 k))) (fun u => hwc g ka u r L d) (fun _ => []) (va_A (hwc g ka i r L d) sz)) 0 0 (va_A (hwc g ka i r L d) sz) := by
  refine x_met (Ex := gx ad) (cc := cX12_add) (maxL := 2) (ret := none) (by decide) rfl (Nat.le_of_ble_eq_true rfl) ?_
  intro p e s m below meth c A ls hx hb hr hml hts hown hlocks hA hS hH hK hE hl
  have hown : s.vm.findClass RX12 = some m.cls := hown
  have in12 : ∀ w ∈ wsX120, w ∈ wsX12_add := (fun _ h => (List.mem_cons_of_mem _ (List.mem_append_right _ h)))
  have wd0 := hts (.fieldLink RX12 224 "StoryDeskModel" "filled" "I") (List.mem_cons_of_mem _ (List.mem_append_left _ lm0))
  have wd1 := hts (.fieldLink RX12 227 "StoryDeskModel" "buffer" "[C") (List.mem_cons_of_mem _ (List.mem_append_left _ lm1))
  have hl : lv_has ls 2 [(0, .ref (g 36)), (1, .int x)] := hl
  have hK : va_K D vwCl (hT ka) s := hK
  have hb40 : (0 : Int) ≤ (i 36 40).toInt ∧ (i 36 40).toInt ≤ 60 := hO 36 40
  refine lv_aload_n hx hb dX12_add_0 rfl (lv_at hl 0 rfl) ?_
  have bx_1 : (0 : Int) ≤ (i 36 40).toInt ∧ (i 36 40).toInt ≤ 60 := hO 36 40
  refine h_geti (ci := 12) (C := RX12) (F := TX12) (N := 86) hx hb hts in12 hown hK hH (by decide) (rfl : kd 36 = 12) (by decide) rfl 40 (by decide) wd0 (fun _ h9 => h9) (by decide) rfl dX12_add_1 ?_
  refine lv_bipush (v := 60) hx hb dX12_add_4 (by decide) ?_
  refine lv_icmp_ne (tgt := 10) hx hb dX12_add_6 (by decide) (fun c_2 => ?_) (fun c_2 => ?_)
  · skip
    have h_3 := s_ne (rfl : (i 36 40).toInt = _) (show (60 : Int32).toInt = 60 from rfl) c_2
    refine lv_aload_n hx hb dX12_add_10 rfl (lv_at hl 0 rfl) ?_
    refine h_getr (ci := 12) (C := RX12) (F := TX12) (N := 86) hx hb hts in12 hown hK hH (by decide) (rfl : kd 36 = 12) (by decide) rfl 39 (by decide) wd1 (fun _ h9 => h9) (by decide) rfl (t := 402) (hR 36 39 rfl) (by decide) dX12_add_11 ?_
    refine lv_aload_n hx hb dX12_add_14 rfl (lv_at hl 0 rfl) ?_
    refine h_geti (ci := 12) (C := RX12) (F := TX12) (N := 86) hx hb hts in12 hown hK hH (by decide) (rfl : kd 36 = 12) (by decide) rfl 40 (by decide) wd0 (fun _ h9 => h9) (by decide) rfl dX12_add_15 ?_
    refine lv_iload_n hx hb dX12_add_18 rfl (lv_at hl 1 rfl) ?_
    obtain ⟨z_4, ez_4⟩ : ∃ z, vp_nar .char x = z := ⟨_, rfl⟩
    have hz_4 : z_4.toInt = x.toInt := by rw [← ez_4, s_narc (rfl : x.toInt = _) (by omega) (by omega)] <;> exact (rfl : x.toInt = _)
    have hO_5 := okp hO (n := 402) (k := ((i 36 40).toInt).toNat) (v := z_4) (show (0 : Int) ≤ (z_4 : Int32).toInt ∧ (z_4 : Int32).toInt ≤ 65535 from ⟨by omega, by omega⟩)
    refine h_cast hx hb hK hH hS (by decide) (rfl : kd 402 = 14) (s_vin (N := 60) (rfl : (i 36 40).toInt = _) (rfl : ln 402 = 60) (by omega) (by omega)) dX12_add_19 (fun H locs hH hS => ?_)
    rw [ez_4] at hH
    rw [s_cl (show (i 36 40).toInt = (i 36 40).toInt by omega)] at hH
    refine lv_aload_n hx hb dX12_add_20 rfl (lv_at hl 0 rfl) ?_
    refine lv_dup hx hb dX12_add_21 rfl ?_
    refine h_geti (ci := 12) (C := RX12) (F := TX12) (N := 86) hx hb hts in12 hown hK hH (by decide) (rfl : kd 36 = 12) (by decide) rfl 40 (by decide) wd0 (fun _ h9 => h9) (by decide) rfl dX12_add_22 ?_
    refine sj_i (y := (i 36 40)) (congrFun (up2_n _ _ (by decide)) _) ?_
    refine lv_iconst (v := 1) hx hb dX12_add_25 (by decide) ?_
    refine lv_iadd hx hb dX12_add_26 ?_
    obtain ⟨z_6, ez_6, hz_6⟩ := s_add (rfl : (i 36 40).toInt = _) (show (1 : Int32).toInt = 1 from rfl) (by omega) (by omega)
    refine sj_i ez_6 ?_
    have hO_7 := okp hO_5 (n := 36) (k := 40) (v := z_6) (show (0 : Int) ≤ (z_6 : Int32).toInt ∧ (z_6 : Int32).toInt ≤ 60 from ⟨by omega, by omega⟩)
    refine h_puti (ty := .int) (ci := 12) (C := RX12) (F := TX12) (N := 86) hx hb hts in12 tyX12 tyX12_ok nmX12 hown hK hH hS (by decide) (rfl : kd 36 = 12) (by decide) rfl 40 (by decide) wd0 (fun _ h9 => h9) rfl (by decide +kernel) rfl rfl (by decide) rfl dX12_add_27 (fun H locs hH hS => ?_)
    have hp_8 : ((up2 (up2 i 402 ((i 36 40).toInt).toNat z_4) 36 40 z_6) 36 40).toInt = (z_6 : Int32).toInt := congrArg Int32.toInt ((up2_at _ _ _ _))
    have hV_9 : ((i 36 40).toInt = 60 ∧ (up2 (up2 i 402 ((i 36 40).toInt).toNat z_4) 36 40 z_6) = i) ∨ ((i 36 40).toInt ≠ 60 ∧ ((up2 (up2 i 402 ((i 36 40).toInt).toNat z_4) 36 40 z_6) 36 40).toInt = (i 36 40).toInt + 1 ∧ ((up2 (up2 i 402 ((i 36 40).toInt).toNat z_4) 36 40 z_6) 402 (i 36 40).toInt.toNat).toInt = x.toInt ∧ ∀ k : Nat, k ≠ (i 36 40).toInt.toNat → (up2 (up2 i 402 ((i 36 40).toInt).toNat z_4) 36 40 z_6) 402 k = i 402 k) := (Or.inr ⟨by omega, by omega, ((congrArg Int32.toInt (((congrFun (up2_n _ _ (by decide)) _).trans (up2_at _ _ _ _)))).trans (by omega)), (fun k hk => ((up2_o _ _ (by omega)).trans (up2_o _ _ (by omega))))⟩)
    exact sj_vret hx hb hr hlocks hS (up2 (up2 i 402 ((i 36 40).toInt).toNat z_4) 36 40 z_6) ⟨hO_7, (fun a b ha => ((up2_o _ _ (by omega)).trans (up2_o _ _ (by omega)))), hV_9⟩ hH (sj_Knil hK) (Nat.le_of_ble_eq_true rfl) (Nat.le_of_ble_eq_true rfl) dX12_add_30
  · skip
    have h_10 := s_eq (rfl : (i 36 40).toInt = _) (show (60 : Int32).toInt = 60 from rfl) c_2
    have hV_11 : ((i 36 40).toInt = 60 ∧ i = i) ∨ ((i 36 40).toInt ≠ 60 ∧ (i 36 40).toInt = (i 36 40).toInt + 1 ∧ (i 402 (i 36 40).toInt.toNat).toInt = x.toInt ∧ ∀ k : Nat, k ≠ (i 36 40).toInt.toNat → i 402 k = i 402 k) := (Or.inl ⟨by omega, rfl⟩)
    exact sj_vret hx hb hr hlocks hS i ⟨hO, (fun a b ha => rfl), hV_11⟩ hH (sj_Knil hK) (Nat.le_of_ble_eq_true rfl) (Nat.le_of_ble_eq_true rfl) dX12_add_9
set_option maxHeartbeats 2000000 in
set_option maxRecDepth 100000 in
theorem m_nameAt_s (l : Launch) (D : va_G) (g : Nat → Nat) (ka : Nat → ClassId) (ad : Nat → Nat) (i : Nat → Nat → Int32) (r : Nat → Nat → Nat) (L : Nat → Nat → Int64) (d : Nat → Nat → UInt64) (x : Int32) (y : Int32) (z : Int32) (v4 : Int32) (hO : OkI i) (hR : RS r) (sz : Nat) (hx0 : 0 ≤ x.toInt) (hxy : x.toInt + y.toInt ≤ 1800) (hy0 : 0 ≤ y.toInt) (hy1 : y.toInt ≤ 60) (hz0 : 1 ≤ z.toInt) (hz1 : z.toInt ≤ 60) (hv0 : 0 ≤ v4.toInt) (hv1 : v4.toInt ≤ 39) : Met l yX12_nameAt wsX12_nameAt ({ frames := 0, cells := 0, slots := 0, locals := 0 }) (va_Pc [.ref (g 36), .ref (g 389), .int x, .int y, .int z, .int v4] (sj_B D (hwc g ka i r L d) (hT ka) sz (gx ad (va_A (hwc g ka i r L d) sz)))) (sj_Qi (S := Unit) D (fun v u => ((-1 : Int) ≤ v.toInt ∧ v.toInt ≤ 3) ∧ (nmR (i 389) (i 396) (i 395) x.toInt y.toInt z.toInt v4.toInt (i 394 v4.toInt.toNat).toInt v.toInt)) (fun _ => hwc g ka i r L d) (fun _ => []) (va_A (hwc g ka i r L d) sz)) 0 0 (va_A (hwc g ka i r L d) sz) := by
  refine x_met (Ex := gx ad) (cc := cX12_nameAt) (maxL := 11) (ret := (some .int)) (by decide) rfl (Nat.le_of_ble_eq_true rfl) ?_
  intro p e s m below meth c A ls hx hb hr hml hts hown hlocks hA hS hH hK hE hl
  have hown : s.vm.findClass RX12 = some m.cls := hown
  have in12 : ∀ w ∈ wsX120, w ∈ wsX12_nameAt := (fun _ h => (List.mem_cons_of_mem _ (List.mem_append_right _ h)))
  have wd0 := hts (.fieldLink RX12 83 "StoryDeskModel" "rowCells" "[I") (List.mem_cons_of_mem _ (List.mem_append_left _ lm0))
  have wd1 := hts (.fieldLink RX12 93 "StoryDeskModel" "cellSize" "[I") (List.mem_cons_of_mem _ (List.mem_append_left _ lm1))
  have wd2 := hts (.fieldLink RX12 96 "StoryDeskModel" "cellText" "[C") (List.mem_cons_of_mem _ (List.mem_append_left _ lm2))
  have hl : lv_has ls 11 [(0, .ref (g 36)), (1, .ref (g 389)), (2, .int x), (3, .int y), (4, .int z), (5, .int v4)] := hl
  have hK : va_K D vwCl (hT ka) s := hK
  have hb394 : (0 : Int) ≤ (i 394 v4.toInt.toNat).toInt ∧ (i 394 v4.toInt.toNat).toInt ≤ 4 := hO 394 _
  refine lv_iconst (v := 0) hx hb dX12_nameAt_0 (by decide) ?_
  refine lv_istore (lv' := [(6, .int 0), (0, .ref (g 36)), (1, .ref (g 389)), (2, .int x), (3, .int y), (4, .int z), (5, .int v4)]) hx hb dX12_nameAt_1 hl (by decide) rfl (fun ls hl => ?_)
  -- loop at 3
  have lp_1 : ∀ (fuel_lp_1 : Nat) (f : Int32) (H : Heap) (locs : List Loc) (ls : Array Slot), (4 - f.toInt).toNat < fuel_lp_1 → (0 : Int) ≤ f.toInt ∧ f.toInt ≤ 4 → f.toInt ≤ (i 394 v4.toInt.toNat).toInt → nmN (i 389) (i 396) (i 395) x.toInt y.toInt z.toInt v4.toInt f.toInt → lv_has ls 11 [(6, .int f), (0, .ref (g 36)), (1, .ref (g 389)), (2, .int x), (3, .int y), (4, .int z), (5, .int v4)] → sj_H D A (hwc g ka i r L d) H → va_S A s.heap H locs → W p l e (headSpec wsX12_nameAt ({ frames := 0, cells := 0, slots := 0, locals := 0 })).room s m ([.ref (g 36), .ref (g 389), .int x, .int y, .int z, .int v4] : List Value).toArray below meth c H locs 0 0 (MQ below (sj_Qi (S := Unit) D (fun v u => ((-1 : Int) ≤ v.toInt ∧ v.toInt ≤ 3) ∧ (nmR (i 389) (i 396) (i 395) x.toInt y.toInt z.toInt v4.toInt (i 394 v4.toInt.toNat).toInt v.toInt)) (fun _ => hwc g ka i r L d) (fun _ => []) A) ([.ref (g 36), .ref (g 389), .int x, .int y, .int z, .int v4] : List Value).toArray s 0 0 A) (F0 m 3 ls []) := by
    intro fuel_lp_1
    induction fuel_lp_1 with
    | zero => intros; omega
    | succ fuel_lp_1 ih_lp_1 =>
      intro f H locs ls hm hr_f hi_lp_1_0 hi_lp_1_1 hl hH hS
      refine lv_iload hx hb dX12_nameAt_3 (lv_at hl 0 rfl) ?_
      refine lv_aload_n hx hb dX12_nameAt_5 rfl (lv_at hl 1 rfl) ?_
      refine h_getr (ci := 12) (C := RX12) (F := TX12) (N := 86) hx hb hts in12 hown hK hH (by decide) (rfl : kd 36 = 12) (by decide) rfl 30 (by decide) wd0 (fun _ h9 => h9) (by decide) rfl (t := 394) (hR 36 30 rfl) (by decide) dX12_nameAt_6 ?_
      refine lv_iload hx hb dX12_nameAt_9 (lv_at hl 6 rfl) ?_
      have bx_2 : (0 : Int) ≤ (i 394 (v4.toInt).toNat).toInt ∧ (i 394 (v4.toInt).toNat).toInt ≤ 4 := hO 394 (v4.toInt).toNat
      refine h_iald hx hb hK hH (by decide) (rfl : kd 394 = 13) (s_vin (N := 40) (rfl : v4.toInt = _) (rfl : ln 394 = 40) (by omega) (by omega)) dX12_nameAt_11 ?_
      have ek_3 : v4.toNatClampNeg = (v4.toInt).toNat := (s_cl (show v4.toInt = v4.toInt by omega))
      refine sj_i (y := (i 394 (v4.toInt).toNat)) (by rw [ek_3]) ?_
      refine lv_icmp_ge (tgt := 130) hx hb dX12_nameAt_12 (by decide) (fun c_4 => ?_) (fun c_4 => ?_)
      · skip
        have h_5 := s_le (rfl : (i 394 (v4.toInt).toNat).toInt = _) (rfl : f.toInt = _) c_4
        refine lv_iconst (v := (-1)) hx hb dX12_nameAt_130 (by decide) ?_
        have hV_6 : nmR (i 389) (i 396) (i 395) x.toInt y.toInt z.toInt v4.toInt (i 394 v4.toInt.toNat).toInt ((-1) : Int32).toInt := (Or.inr ⟨by rfl, fun n h0 h1 => hi_lp_1_1 n h0 (by omega)⟩)
        exact sj_zret hx hb hr hlocks rfl hS () ⟨⟨by decide, by decide⟩, hV_6⟩ hH (sj_Knil hK) (Nat.le_of_ble_eq_true rfl) (Nat.le_of_ble_eq_true rfl) dX12_nameAt_131
      · skip
        have h_7 := s_nle (rfl : (i 394 (v4.toInt).toNat).toInt = _) (rfl : f.toInt = _) c_4
        refine lv_iconst (v := 4) hx hb dX12_nameAt_15 (by decide) ?_
        refine lv_iload hx hb dX12_nameAt_16 (lv_at hl 6 rfl) ?_
        refine lv_imul hx hb dX12_nameAt_18 ?_
        obtain ⟨z_8, ez_8, hz_8⟩ := s_mul (show (4 : Int32).toInt = 4 from rfl) (rfl : v4.toInt = _) (by omega) (by omega)
        refine sj_i ez_8 ?_
        refine lv_iload hx hb dX12_nameAt_19 (lv_at hl 0 rfl) ?_
        refine lv_iadd hx hb dX12_nameAt_21 ?_
        obtain ⟨z_9, ez_9, hz_9⟩ := s_add (rfl : z_8.toInt = _) (rfl : f.toInt = _) (by omega) (by omega)
        refine sj_i ez_9 ?_
        refine lv_istore (lv' := [(7, .int z_9), (6, .int f), (0, .ref (g 36)), (1, .ref (g 389)), (2, .int x), (3, .int y), (4, .int z), (5, .int v4)]) hx hb dX12_nameAt_22 hl (by decide) rfl (fun ls hl => ?_)
        refine lv_aload_n hx hb dX12_nameAt_24 rfl (lv_at hl 2 rfl) ?_
        refine h_getr (ci := 12) (C := RX12) (F := TX12) (N := 86) hx hb hts in12 hown hK hH (by decide) (rfl : kd 36 = 12) (by decide) rfl 31 (by decide) wd1 (fun _ h9 => h9) (by decide) rfl (t := 395) (hR 36 31 rfl) (by decide) dX12_nameAt_25 ?_
        refine lv_iload hx hb dX12_nameAt_28 (lv_at hl 0 rfl) ?_
        have bx_10 : (0 : Int) ≤ (i 395 (f.toInt + 4 * v4.toInt).toNat).toInt ∧ (i 395 (f.toInt + 4 * v4.toInt).toNat).toInt ≤ 60 := hO 395 (f.toInt + 4 * v4.toInt).toNat
        refine h_iald hx hb hK hH (by decide) (rfl : kd 395 = 13) (s_vin (N := 160) (rfl : z_9.toInt = _) (rfl : ln 395 = 160) (by omega) (by omega)) dX12_nameAt_30 ?_
        have ek_11 : z_9.toNatClampNeg = (f.toInt + 4 * v4.toInt).toNat := (s_cl (show z_9.toInt = f.toInt + 4 * v4.toInt by omega))
        refine sj_i (y := (i 395 (f.toInt + 4 * v4.toInt).toNat)) (by rw [ek_11]) ?_
        refine lv_istore (lv' := [(8, .int (i 395 (f.toInt + 4 * v4.toInt).toNat)), (7, .int z_9), (6, .int f), (0, .ref (g 36)), (1, .ref (g 389)), (2, .int x), (3, .int y), (4, .int z), (5, .int v4)]) hx hb dX12_nameAt_31 hl (by decide) rfl (fun ls hl => ?_)
        refine lv_iload hx hb dX12_nameAt_33 (lv_at hl 7 rfl) ?_
        refine lv_iload hx hb dX12_nameAt_35 (lv_at hl 0 rfl) ?_
        refine lv_iadd hx hb dX12_nameAt_37 ?_
        obtain ⟨z_12, ez_12, hz_12⟩ := s_add (rfl : z.toInt = _) (rfl : (i 395 (f.toInt + 4 * v4.toInt).toNat).toInt = _) (by omega) (by omega)
        refine sj_i ez_12 ?_
        refine lv_iload_n hx hb dX12_nameAt_38 rfl (lv_at hl 6 rfl) ?_
        refine lv_icmp_ge (tgt := 60) hx hb dX12_nameAt_39 (by decide) (fun c_13 => ?_) (fun c_13 => ?_)
        · skip
          have h_14 := s_le (rfl : y.toInt = _) (rfl : z_12.toInt = _) c_13
          refine lv_iconst (v := 0) hx hb dX12_nameAt_60 (by decide) ?_
          refine lv_istore (lv' := [(9, .int 0), (8, .int (i 395 (f.toInt + 4 * v4.toInt).toNat)), (7, .int z_9), (6, .int f), (0, .ref (g 36)), (1, .ref (g 389)), (2, .int x), (3, .int y), (4, .int z), (5, .int v4)]) hx hb dX12_nameAt_61 hl (by decide) rfl (fun ls hl => ?_)
          refine lv_iconst (v := 0) hx hb dX12_nameAt_63 (by decide) ?_
          refine lv_istore (lv' := [(10, .int 0), (9, .int 0), (8, .int (i 395 (f.toInt + 4 * v4.toInt).toNat)), (7, .int z_9), (6, .int f), (0, .ref (g 36)), (1, .ref (g 389)), (2, .int x), (3, .int y), (4, .int z), (5, .int v4)]) hx hb dX12_nameAt_64 hl (by decide) rfl (fun ls hl => ?_)
          -- loop at 66
          have lp_15 : ∀ (fuel_lp_15 : Nat) (t : Int32) (u : Int32) (H : Heap) (locs : List Loc) (ls : Array Slot), (60 - u.toInt).toNat < fuel_lp_15 → (0 : Int) ≤ t.toInt ∧ t.toInt ≤ 1 → (0 : Int) ≤ u.toInt ∧ u.toInt ≤ 60 → u.toInt ≤ (i 395 (f.toInt + 4 * v4.toInt).toNat).toInt → nmI (i 389) (i 396) x.toInt y.toInt z.toInt z_9.toInt (i 395 (f.toInt + 4 * v4.toInt).toNat).toInt u.toInt t.toInt → lv_has ls 11 [(10, .int u), (9, .int t), (8, .int (i 395 (f.toInt + 4 * v4.toInt).toNat)), (7, .int z_9), (6, .int f), (0, .ref (g 36)), (1, .ref (g 389)), (2, .int x), (3, .int y), (4, .int z), (5, .int v4)] → sj_H D A (hwc g ka i r L d) H → va_S A s.heap H locs → W p l e (headSpec wsX12_nameAt ({ frames := 0, cells := 0, slots := 0, locals := 0 })).room s m ([.ref (g 36), .ref (g 389), .int x, .int y, .int z, .int v4] : List Value).toArray below meth c H locs 0 0 (MQ below (sj_Qi (S := Unit) D (fun v u => ((-1 : Int) ≤ v.toInt ∧ v.toInt ≤ 3) ∧ (nmR (i 389) (i 396) (i 395) x.toInt y.toInt z.toInt v4.toInt (i 394 v4.toInt.toNat).toInt v.toInt)) (fun _ => hwc g ka i r L d) (fun _ => []) A) ([.ref (g 36), .ref (g 389), .int x, .int y, .int z, .int v4] : List Value).toArray s 0 0 A) (F0 m 66 ls []) := by
            intro fuel_lp_15
            induction fuel_lp_15 with
            | zero => intros; omega
            | succ fuel_lp_15 ih_lp_15 =>
              intro t u H locs ls hm hr_t hr_u hi_lp_15_0 hi_lp_15_1 hl hH hS
              refine lv_iload hx hb dX12_nameAt_66 (lv_at hl 0 rfl) ?_
              refine lv_iload hx hb dX12_nameAt_68 (lv_at hl 2 rfl) ?_
              refine lv_icmp_ge (tgt := 116) hx hb dX12_nameAt_70 (by decide) (fun c_16 => ?_) (fun c_16 => ?_)
              · skip
                have h_17 := s_le (rfl : (i 395 (f.toInt + 4 * v4.toInt).toNat).toInt = _) (rfl : u.toInt = _) c_16
                refine lv_iload hx hb dX12_nameAt_116 (lv_at hl 1 rfl) ?_
                refine lv_if_eq (tgt := 124) hx hb dX12_nameAt_118 (by decide) (fun c_18 => ?_) (fun c_18 => ?_)
                · skip
                  have h_19 := s_eq (rfl : t.toInt = _) (show (0 : Int32).toInt = 0 from rfl) c_18
                  obtain ⟨z_20, ez_20, hz_20⟩ := s_add (rfl : f.toInt = _) (show (1 : Int32).toInt = 1 from rfl) (by omega) (by omega)
                  refine lv_iinc (v := z_20) (lv' := [(6, .int z_20), (10, .int u), (9, .int t), (8, .int (i 395 (f.toInt + 4 * v4.toInt).toNat)), (7, .int z_9), (0, .ref (g 36)), (1, .ref (g 389)), (2, .int x), (3, .int y), (4, .int z), (5, .int v4)]) hx hb dX12_nameAt_124 hl (k := 4) rfl ez_20 (by decide) rfl (fun ls hl => ?_)
                  refine lv_goto (tgt := 3) hx hb dX12_nameAt_127 (by decide) ?_
                  exact ih_lp_1 z_20 _ _ ls (by omega) (by omega) (by omega) (nmN_s (m := z_20.toInt) hi_lp_1_1 (by omega) (fun q => nmX_no q (many := (i 395 (f.toInt + 4 * v4.toInt).toNat).toInt) (cell := z_9.toInt) (by omega) (congrArg (fun q => (i 395 q).toInt) (by omega)) hi_lp_15_1 (by omega))) (lv_sub hl [0, 5, 6, 7, 8, 9, 10] rfl) hH hS
                · skip
                  have h_21 := s_ne (rfl : t.toInt = _) (show (0 : Int32).toInt = 0 from rfl) c_18
                  refine lv_iload hx hb dX12_nameAt_121 (lv_at hl 4 rfl) ?_
                  have hV_22 : nmR (i 389) (i 396) (i 395) x.toInt y.toInt z.toInt v4.toInt (i 394 v4.toInt.toNat).toInt (f : Int32).toInt := (Or.inl ⟨by omega, by omega, nmX_yes (many := (i 395 (f.toInt + 4 * v4.toInt).toNat).toInt) (cell := z_9.toInt) (by omega) (congrArg (fun q => (i 395 q).toInt) (by omega)) (hi_lp_15_1.resolve_right (fun q => by have := q.1; omega)) (by omega), hi_lp_1_1⟩)
                  exact sj_zret hx hb hr hlocks rfl hS () ⟨⟨by omega, by omega⟩, hV_22⟩ hH (sj_Knil hK) (Nat.le_of_ble_eq_true rfl) (Nat.le_of_ble_eq_true rfl) dX12_nameAt_123
              · skip
                have h_23 := s_nle (rfl : (i 395 (f.toInt + 4 * v4.toInt).toNat).toInt = _) (rfl : u.toInt = _) c_16
                refine lv_iload hx hb dX12_nameAt_73 (lv_at hl 1 rfl) ?_
                refine lv_if_eq (tgt := 116) hx hb dX12_nameAt_75 (by decide) (fun c_24 => ?_) (fun c_24 => ?_)
                · skip
                  have h_25 := s_eq (rfl : t.toInt = _) (show (0 : Int32).toInt = 0 from rfl) c_24
                  refine lv_iload hx hb dX12_nameAt_116 (lv_at hl 1 rfl) ?_
                  refine lv_if_eq (tgt := 124) hx hb dX12_nameAt_118 (by decide) (fun _ => ?_) (fun h => absurd (p_eq (rfl : t.toInt = _) (show (0 : Int32).toInt = 0 from rfl) (by omega)) h)
                  obtain ⟨z_26, ez_26, hz_26⟩ := s_add (rfl : f.toInt = _) (show (1 : Int32).toInt = 1 from rfl) (by omega) (by omega)
                  refine lv_iinc (v := z_26) (lv' := [(6, .int z_26), (10, .int u), (9, .int t), (8, .int (i 395 (f.toInt + 4 * v4.toInt).toNat)), (7, .int z_9), (0, .ref (g 36)), (1, .ref (g 389)), (2, .int x), (3, .int y), (4, .int z), (5, .int v4)]) hx hb dX12_nameAt_124 hl (k := 4) rfl ez_26 (by decide) rfl (fun ls hl => ?_)
                  refine lv_goto (tgt := 3) hx hb dX12_nameAt_127 (by decide) ?_
                  exact ih_lp_1 z_26 _ _ ls (by omega) (by omega) (by omega) (nmN_s (m := z_26.toInt) hi_lp_1_1 (by omega) (fun q => nmX_no q (many := (i 395 (f.toInt + 4 * v4.toInt).toNat).toInt) (cell := z_9.toInt) (by omega) (congrArg (fun q => (i 395 q).toInt) (by omega)) hi_lp_15_1 (by omega))) (lv_sub hl [0, 5, 6, 7, 8, 9, 10] rfl) hH hS
                · skip
                  have h_27 := s_ne (rfl : t.toInt = _) (show (0 : Int32).toInt = 0 from rfl) c_24
                  have hJ := hi_lp_15_1.resolve_right (fun q => by have := q.1; omega)
                  have hJ1 := hJ.2.1
                  refine lv_aload_n hx hb dX12_nameAt_78 rfl (lv_at hl 6 rfl) ?_
                  refine lv_iload_n hx hb dX12_nameAt_79 rfl (lv_at hl 7 rfl) ?_
                  refine lv_iload hx hb dX12_nameAt_80 (lv_at hl 9 rfl) ?_
                  refine lv_iadd hx hb dX12_nameAt_82 ?_
                  obtain ⟨z_28, ez_28, hz_28⟩ := s_add (rfl : x.toInt = _) (rfl : z.toInt = _) (by omega) (by omega)
                  refine sj_i ez_28 ?_
                  refine lv_iload hx hb dX12_nameAt_83 (lv_at hl 0 rfl) ?_
                  refine lv_iadd hx hb dX12_nameAt_85 ?_
                  obtain ⟨z_29, ez_29, hz_29⟩ := s_add (rfl : z_28.toInt = _) (rfl : u.toInt = _) (by omega) (by omega)
                  refine sj_i ez_29 ?_
                  have bx_30 : (0 : Int) ≤ (i 389 (u.toInt + x.toInt + z.toInt).toNat).toInt ∧ (i 389 (u.toInt + x.toInt + z.toInt).toNat).toInt ≤ 65535 := hO 389 (u.toInt + x.toInt + z.toInt).toNat
                  refine h_cald hx hb hK hH (by decide) (rfl : kd 389 = 14) (s_vin (N := 1800) (rfl : z_29.toInt = _) (rfl : ln 389 = 1800) (by omega) (by omega)) dX12_nameAt_86 ?_
                  have ek_31 : z_29.toNatClampNeg = (u.toInt + x.toInt + z.toInt).toNat := (s_cl (show z_29.toInt = u.toInt + x.toInt + z.toInt by omega))
                  refine sj_i (y := (i 389 (u.toInt + x.toInt + z.toInt).toNat)) (by rw [ek_31]) ?_
                  refine lv_aload_n hx hb dX12_nameAt_87 rfl (lv_at hl 5 rfl) ?_
                  refine h_getr (ci := 12) (C := RX12) (F := TX12) (N := 86) hx hb hts in12 hown hK hH (by decide) (rfl : kd 36 = 12) (by decide) rfl 32 (by decide) wd2 (fun _ h9 => h9) (by decide) rfl (t := 396) (hR 36 32 rfl) (by decide) dX12_nameAt_88 ?_
                  refine lv_bipush (v := 60) hx hb dX12_nameAt_91 (by decide) ?_
                  refine lv_iload hx hb dX12_nameAt_93 (lv_at hl 3 rfl) ?_
                  refine lv_imul hx hb dX12_nameAt_95 ?_
                  obtain ⟨z_32, ez_32, hz_32⟩ := s_mul (show (60 : Int32).toInt = 60 from rfl) (rfl : z_9.toInt = _) (by omega) (by omega)
                  refine sj_i ez_32 ?_
                  refine lv_iload hx hb dX12_nameAt_96 (lv_at hl 0 rfl) ?_
                  refine lv_iadd hx hb dX12_nameAt_98 ?_
                  obtain ⟨z_33, ez_33, hz_33⟩ := s_add (rfl : z_32.toInt = _) (rfl : u.toInt = _) (by omega) (by omega)
                  refine sj_i ez_33 ?_
                  have bx_34 : (0 : Int) ≤ (i 396 (60 * f.toInt + u.toInt + 240 * v4.toInt).toNat).toInt ∧ (i 396 (60 * f.toInt + u.toInt + 240 * v4.toInt).toNat).toInt ≤ 65535 := hO 396 (60 * f.toInt + u.toInt + 240 * v4.toInt).toNat
                  refine h_cald hx hb hK hH (by decide) (rfl : kd 396 = 14) (s_vin (N := 9600) (rfl : z_33.toInt = _) (rfl : ln 396 = 9600) (by omega) (by omega)) dX12_nameAt_99 ?_
                  have ek_35 : z_33.toNatClampNeg = (60 * f.toInt + u.toInt + 240 * v4.toInt).toNat := (s_cl (show z_33.toInt = 60 * f.toInt + u.toInt + 240 * v4.toInt by omega))
                  refine sj_i (y := (i 396 (60 * f.toInt + u.toInt + 240 * v4.toInt).toNat)) (by rw [ek_35]) ?_
                  refine lv_icmp_ne (tgt := 107) hx hb dX12_nameAt_100 (by decide) (fun c_36 => ?_) (fun c_36 => ?_)
                  · skip
                    have h_37 := s_ne (rfl : (i 389 (u.toInt + x.toInt + z.toInt).toNat).toInt = _) (rfl : (i 396 (60 * f.toInt + u.toInt + 240 * v4.toInt).toNat).toInt = _) c_36
                    refine lv_iconst (v := 0) hx hb dX12_nameAt_107 (by decide) ?_
                    refine lv_istore (lv' := [(9, .int 0), (10, .int u), (8, .int (i 395 (f.toInt + 4 * v4.toInt).toNat)), (7, .int z_9), (6, .int f), (0, .ref (g 36)), (1, .ref (g 389)), (2, .int x), (3, .int y), (4, .int z), (5, .int v4)]) hx hb dX12_nameAt_108 hl (by decide) rfl (fun ls hl => ?_)
                    obtain ⟨z_38, ez_38, hz_38⟩ := s_add (rfl : u.toInt = _) (show (1 : Int32).toInt = 1 from rfl) (by omega) (by omega)
                    refine lv_iinc (v := z_38) (lv' := [(10, .int z_38), (9, .int 0), (8, .int (i 395 (f.toInt + 4 * v4.toInt).toNat)), (7, .int z_9), (6, .int f), (0, .ref (g 36)), (1, .ref (g 389)), (2, .int x), (3, .int y), (4, .int z), (5, .int v4)]) hx hb dX12_nameAt_110 hl (k := 1) rfl ez_38 (by decide) rfl (fun ls hl => ?_)
                    refine lv_goto (tgt := 66) hx hb dX12_nameAt_113 (by decide) ?_
                    have hl_39 : (0 : Int32).toInt = 0 := rfl
                    exact ih_lp_15 0 z_38 _ _ ls (by omega) (by omega) (by omega) (by omega) (Or.inr ⟨by rfl, fun q => by
                              have q1 := q.2.2 u.toInt.toNat (by omega)
                              rw [show (x.toInt + z.toInt + ((u.toInt.toNat : Nat) : Int)) = u.toInt + x.toInt + z.toInt by omega, show (60 * z_9.toInt + ((u.toInt.toNat : Nat) : Int)) = 60 * f.toInt + u.toInt + 240 * v4.toInt by omega] at q1
                              omega⟩) (lv_sub hl [0, 1, 2, 3, 4, 5, 6, 7, 8, 9, 10] rfl) hH hS
                  · skip
                    have h_40 := s_eq (rfl : (i 389 (u.toInt + x.toInt + z.toInt).toNat).toInt = _) (rfl : (i 396 (60 * f.toInt + u.toInt + 240 * v4.toInt).toNat).toInt = _) c_36
                    refine lv_iconst (v := 1) hx hb dX12_nameAt_103 (by decide) ?_
                    refine lv_goto (tgt := 108) hx hb dX12_nameAt_104 (by decide) ?_
                    refine lv_istore (lv' := [(9, .int 1), (10, .int u), (8, .int (i 395 (f.toInt + 4 * v4.toInt).toNat)), (7, .int z_9), (6, .int f), (0, .ref (g 36)), (1, .ref (g 389)), (2, .int x), (3, .int y), (4, .int z), (5, .int v4)]) hx hb dX12_nameAt_108 hl (by decide) rfl (fun ls hl => ?_)
                    obtain ⟨z_41, ez_41, hz_41⟩ := s_add (rfl : u.toInt = _) (show (1 : Int32).toInt = 1 from rfl) (by omega) (by omega)
                    refine lv_iinc (v := z_41) (lv' := [(10, .int z_41), (9, .int 1), (8, .int (i 395 (f.toInt + 4 * v4.toInt).toNat)), (7, .int z_9), (6, .int f), (0, .ref (g 36)), (1, .ref (g 389)), (2, .int x), (3, .int y), (4, .int z), (5, .int v4)]) hx hb dX12_nameAt_110 hl (k := 1) rfl ez_41 (by decide) rfl (fun ls hl => ?_)
                    refine lv_goto (tgt := 66) hx hb dX12_nameAt_113 (by decide) ?_
                    have hl_42 : (1 : Int32).toInt = 1 := rfl
                    exact ih_lp_15 1 z_41 _ _ ls (by omega) (by omega) (by omega) (by omega) (Or.inl ⟨by rfl, (hi_lp_15_1.resolve_right (fun q => by have := q.1; omega)).2.1, (hi_lp_15_1.resolve_right (fun q => by have := q.1; omega)).2.2.1, fun j hj => by
                              by_cases q : (j : Int) < u.toInt
                              · exact (hi_lp_15_1.resolve_right (fun q => by have := q.1; omega)).2.2.2 j q
                              · rw [show (x.toInt + z.toInt + (j : Int)) = u.toInt + x.toInt + z.toInt by omega, show (60 * z_9.toInt + (j : Int)) = 60 * f.toInt + u.toInt + 240 * v4.toInt by omega]; omega⟩) (lv_sub hl [0, 1, 2, 3, 4, 5, 6, 7, 8, 9, 10] rfl) hH hS
          have hl_43 : (0 : Int32).toInt = 0 := rfl
          have hl_44 : (0 : Int32).toInt = 0 := rfl
          exact lp_15 _ 0 0 _ _ ls (Nat.lt_succ_self _) (by omega) (by omega) (by omega) (Or.inr ⟨by rfl, fun q => by have q1 := q.1; have q2 := q.2.1; rw [show x.toInt + z.toInt + (i 395 (f.toInt + 4 * v4.toInt).toNat).toInt = (i 395 (f.toInt + 4 * v4.toInt).toNat).toInt + x.toInt + z.toInt by omega] at q2; omega⟩) (lv_sub hl [0, 1, 2, 3, 4, 5, 6, 7, 8, 9, 10] rfl) hH hS
        · skip
          have h_45 := s_nle (rfl : y.toInt = _) (rfl : z_12.toInt = _) c_13
          refine lv_aload_n hx hb dX12_nameAt_42 rfl (lv_at hl 4 rfl) ?_
          refine lv_iload_n hx hb dX12_nameAt_43 rfl (lv_at hl 5 rfl) ?_
          refine lv_iload hx hb dX12_nameAt_44 (lv_at hl 7 rfl) ?_
          refine lv_iadd hx hb dX12_nameAt_46 ?_
          obtain ⟨z_46, ez_46, hz_46⟩ := s_add (rfl : x.toInt = _) (rfl : z.toInt = _) (by omega) (by omega)
          refine sj_i ez_46 ?_
          refine lv_iload hx hb dX12_nameAt_47 (lv_at hl 0 rfl) ?_
          refine lv_iadd hx hb dX12_nameAt_49 ?_
          obtain ⟨z_47, ez_47, hz_47⟩ := s_add (rfl : z_46.toInt = _) (rfl : (i 395 (f.toInt + 4 * v4.toInt).toNat).toInt = _) (by omega) (by omega)
          refine sj_i ez_47 ?_
          have bx_48 : (0 : Int) ≤ (i 389 ((i 395 (f.toInt + 4 * v4.toInt).toNat).toInt + x.toInt + z.toInt).toNat).toInt ∧ (i 389 ((i 395 (f.toInt + 4 * v4.toInt).toNat).toInt + x.toInt + z.toInt).toNat).toInt ≤ 65535 := hO 389 ((i 395 (f.toInt + 4 * v4.toInt).toNat).toInt + x.toInt + z.toInt).toNat
          refine h_cald hx hb hK hH (by decide) (rfl : kd 389 = 14) (s_vin (N := 1800) (rfl : z_47.toInt = _) (rfl : ln 389 = 1800) (by omega) (by omega)) dX12_nameAt_50 ?_
          have ek_49 : z_47.toNatClampNeg = ((i 395 (f.toInt + 4 * v4.toInt).toNat).toInt + x.toInt + z.toInt).toNat := (s_cl (show z_47.toInt = (i 395 (f.toInt + 4 * v4.toInt).toNat).toInt + x.toInt + z.toInt by omega))
          refine sj_i (y := (i 389 ((i 395 (f.toInt + 4 * v4.toInt).toNat).toInt + x.toInt + z.toInt).toNat)) (by rw [ek_49]) ?_
          refine lv_bipush (v := 62) hx hb dX12_nameAt_51 (by decide) ?_
          refine lv_icmp_ne (tgt := 60) hx hb dX12_nameAt_53 (by decide) (fun c_50 => ?_) (fun c_50 => ?_)
          · skip
            have h_51 := s_ne (rfl : (i 389 ((i 395 (f.toInt + 4 * v4.toInt).toNat).toInt + x.toInt + z.toInt).toNat).toInt = _) (show (62 : Int32).toInt = 62 from rfl) c_50
            refine lv_iconst (v := 0) hx hb dX12_nameAt_60 (by decide) ?_
            refine lv_istore (lv' := [(9, .int 0), (8, .int (i 395 (f.toInt + 4 * v4.toInt).toNat)), (7, .int z_9), (6, .int f), (0, .ref (g 36)), (1, .ref (g 389)), (2, .int x), (3, .int y), (4, .int z), (5, .int v4)]) hx hb dX12_nameAt_61 hl (by decide) rfl (fun ls hl => ?_)
            refine lv_iconst (v := 0) hx hb dX12_nameAt_63 (by decide) ?_
            refine lv_istore (lv' := [(10, .int 0), (9, .int 0), (8, .int (i 395 (f.toInt + 4 * v4.toInt).toNat)), (7, .int z_9), (6, .int f), (0, .ref (g 36)), (1, .ref (g 389)), (2, .int x), (3, .int y), (4, .int z), (5, .int v4)]) hx hb dX12_nameAt_64 hl (by decide) rfl (fun ls hl => ?_)
            -- loop at 66
            have lp_52 : ∀ (fuel_lp_52 : Nat) (t : Int32) (u : Int32) (H : Heap) (locs : List Loc) (ls : Array Slot), (60 - u.toInt).toNat < fuel_lp_52 → (0 : Int) ≤ t.toInt ∧ t.toInt ≤ 1 → (0 : Int) ≤ u.toInt ∧ u.toInt ≤ 60 → u.toInt ≤ (i 395 (f.toInt + 4 * v4.toInt).toNat).toInt → nmI (i 389) (i 396) x.toInt y.toInt z.toInt z_9.toInt (i 395 (f.toInt + 4 * v4.toInt).toNat).toInt u.toInt t.toInt → lv_has ls 11 [(10, .int u), (9, .int t), (8, .int (i 395 (f.toInt + 4 * v4.toInt).toNat)), (7, .int z_9), (6, .int f), (0, .ref (g 36)), (1, .ref (g 389)), (2, .int x), (3, .int y), (4, .int z), (5, .int v4)] → sj_H D A (hwc g ka i r L d) H → va_S A s.heap H locs → W p l e (headSpec wsX12_nameAt ({ frames := 0, cells := 0, slots := 0, locals := 0 })).room s m ([.ref (g 36), .ref (g 389), .int x, .int y, .int z, .int v4] : List Value).toArray below meth c H locs 0 0 (MQ below (sj_Qi (S := Unit) D (fun v u => ((-1 : Int) ≤ v.toInt ∧ v.toInt ≤ 3) ∧ (nmR (i 389) (i 396) (i 395) x.toInt y.toInt z.toInt v4.toInt (i 394 v4.toInt.toNat).toInt v.toInt)) (fun _ => hwc g ka i r L d) (fun _ => []) A) ([.ref (g 36), .ref (g 389), .int x, .int y, .int z, .int v4] : List Value).toArray s 0 0 A) (F0 m 66 ls []) := by
              intro fuel_lp_52
              induction fuel_lp_52 with
              | zero => intros; omega
              | succ fuel_lp_52 ih_lp_52 =>
                intro t u H locs ls hm hr_t hr_u hi_lp_52_0 hi_lp_52_1 hl hH hS
                refine lv_iload hx hb dX12_nameAt_66 (lv_at hl 0 rfl) ?_
                refine lv_iload hx hb dX12_nameAt_68 (lv_at hl 2 rfl) ?_
                refine lv_icmp_ge (tgt := 116) hx hb dX12_nameAt_70 (by decide) (fun c_53 => ?_) (fun c_53 => ?_)
                · skip
                  have h_54 := s_le (rfl : (i 395 (f.toInt + 4 * v4.toInt).toNat).toInt = _) (rfl : u.toInt = _) c_53
                  refine lv_iload hx hb dX12_nameAt_116 (lv_at hl 1 rfl) ?_
                  refine lv_if_eq (tgt := 124) hx hb dX12_nameAt_118 (by decide) (fun c_55 => ?_) (fun c_55 => ?_)
                  · skip
                    have h_56 := s_eq (rfl : t.toInt = _) (show (0 : Int32).toInt = 0 from rfl) c_55
                    obtain ⟨z_57, ez_57, hz_57⟩ := s_add (rfl : f.toInt = _) (show (1 : Int32).toInt = 1 from rfl) (by omega) (by omega)
                    refine lv_iinc (v := z_57) (lv' := [(6, .int z_57), (10, .int u), (9, .int t), (8, .int (i 395 (f.toInt + 4 * v4.toInt).toNat)), (7, .int z_9), (0, .ref (g 36)), (1, .ref (g 389)), (2, .int x), (3, .int y), (4, .int z), (5, .int v4)]) hx hb dX12_nameAt_124 hl (k := 4) rfl ez_57 (by decide) rfl (fun ls hl => ?_)
                    refine lv_goto (tgt := 3) hx hb dX12_nameAt_127 (by decide) ?_
                    exact ih_lp_1 z_57 _ _ ls (by omega) (by omega) (by omega) (nmN_s (m := z_57.toInt) hi_lp_1_1 (by omega) (fun q => nmX_no q (many := (i 395 (f.toInt + 4 * v4.toInt).toNat).toInt) (cell := z_9.toInt) (by omega) (congrArg (fun q => (i 395 q).toInt) (by omega)) hi_lp_52_1 (by omega))) (lv_sub hl [0, 5, 6, 7, 8, 9, 10] rfl) hH hS
                  · skip
                    have h_58 := s_ne (rfl : t.toInt = _) (show (0 : Int32).toInt = 0 from rfl) c_55
                    refine lv_iload hx hb dX12_nameAt_121 (lv_at hl 4 rfl) ?_
                    have hV_59 : nmR (i 389) (i 396) (i 395) x.toInt y.toInt z.toInt v4.toInt (i 394 v4.toInt.toNat).toInt (f : Int32).toInt := (Or.inl ⟨by omega, by omega, nmX_yes (many := (i 395 (f.toInt + 4 * v4.toInt).toNat).toInt) (cell := z_9.toInt) (by omega) (congrArg (fun q => (i 395 q).toInt) (by omega)) (hi_lp_52_1.resolve_right (fun q => by have := q.1; omega)) (by omega), hi_lp_1_1⟩)
                    exact sj_zret hx hb hr hlocks rfl hS () ⟨⟨by omega, by omega⟩, hV_59⟩ hH (sj_Knil hK) (Nat.le_of_ble_eq_true rfl) (Nat.le_of_ble_eq_true rfl) dX12_nameAt_123
                · skip
                  have h_60 := s_nle (rfl : (i 395 (f.toInt + 4 * v4.toInt).toNat).toInt = _) (rfl : u.toInt = _) c_53
                  refine lv_iload hx hb dX12_nameAt_73 (lv_at hl 1 rfl) ?_
                  refine lv_if_eq (tgt := 116) hx hb dX12_nameAt_75 (by decide) (fun c_61 => ?_) (fun c_61 => ?_)
                  · skip
                    have h_62 := s_eq (rfl : t.toInt = _) (show (0 : Int32).toInt = 0 from rfl) c_61
                    refine lv_iload hx hb dX12_nameAt_116 (lv_at hl 1 rfl) ?_
                    refine lv_if_eq (tgt := 124) hx hb dX12_nameAt_118 (by decide) (fun _ => ?_) (fun h => absurd (p_eq (rfl : t.toInt = _) (show (0 : Int32).toInt = 0 from rfl) (by omega)) h)
                    obtain ⟨z_63, ez_63, hz_63⟩ := s_add (rfl : f.toInt = _) (show (1 : Int32).toInt = 1 from rfl) (by omega) (by omega)
                    refine lv_iinc (v := z_63) (lv' := [(6, .int z_63), (10, .int u), (9, .int t), (8, .int (i 395 (f.toInt + 4 * v4.toInt).toNat)), (7, .int z_9), (0, .ref (g 36)), (1, .ref (g 389)), (2, .int x), (3, .int y), (4, .int z), (5, .int v4)]) hx hb dX12_nameAt_124 hl (k := 4) rfl ez_63 (by decide) rfl (fun ls hl => ?_)
                    refine lv_goto (tgt := 3) hx hb dX12_nameAt_127 (by decide) ?_
                    exact ih_lp_1 z_63 _ _ ls (by omega) (by omega) (by omega) (nmN_s (m := z_63.toInt) hi_lp_1_1 (by omega) (fun q => nmX_no q (many := (i 395 (f.toInt + 4 * v4.toInt).toNat).toInt) (cell := z_9.toInt) (by omega) (congrArg (fun q => (i 395 q).toInt) (by omega)) hi_lp_52_1 (by omega))) (lv_sub hl [0, 5, 6, 7, 8, 9, 10] rfl) hH hS
                  · skip
                    have h_64 := s_ne (rfl : t.toInt = _) (show (0 : Int32).toInt = 0 from rfl) c_61
                    have hJ := hi_lp_52_1.resolve_right (fun q => by have := q.1; omega)
                    have hJ1 := hJ.2.1
                    refine lv_aload_n hx hb dX12_nameAt_78 rfl (lv_at hl 6 rfl) ?_
                    refine lv_iload_n hx hb dX12_nameAt_79 rfl (lv_at hl 7 rfl) ?_
                    refine lv_iload hx hb dX12_nameAt_80 (lv_at hl 9 rfl) ?_
                    refine lv_iadd hx hb dX12_nameAt_82 ?_
                    obtain ⟨z_65, ez_65, hz_65⟩ := s_add (rfl : x.toInt = _) (rfl : z.toInt = _) (by omega) (by omega)
                    refine sj_i ez_65 ?_
                    refine lv_iload hx hb dX12_nameAt_83 (lv_at hl 0 rfl) ?_
                    refine lv_iadd hx hb dX12_nameAt_85 ?_
                    obtain ⟨z_66, ez_66, hz_66⟩ := s_add (rfl : z_65.toInt = _) (rfl : u.toInt = _) (by omega) (by omega)
                    refine sj_i ez_66 ?_
                    have bx_67 : (0 : Int) ≤ (i 389 (u.toInt + x.toInt + z.toInt).toNat).toInt ∧ (i 389 (u.toInt + x.toInt + z.toInt).toNat).toInt ≤ 65535 := hO 389 (u.toInt + x.toInt + z.toInt).toNat
                    refine h_cald hx hb hK hH (by decide) (rfl : kd 389 = 14) (s_vin (N := 1800) (rfl : z_66.toInt = _) (rfl : ln 389 = 1800) (by omega) (by omega)) dX12_nameAt_86 ?_
                    have ek_68 : z_66.toNatClampNeg = (u.toInt + x.toInt + z.toInt).toNat := (s_cl (show z_66.toInt = u.toInt + x.toInt + z.toInt by omega))
                    refine sj_i (y := (i 389 (u.toInt + x.toInt + z.toInt).toNat)) (by rw [ek_68]) ?_
                    refine lv_aload_n hx hb dX12_nameAt_87 rfl (lv_at hl 5 rfl) ?_
                    refine h_getr (ci := 12) (C := RX12) (F := TX12) (N := 86) hx hb hts in12 hown hK hH (by decide) (rfl : kd 36 = 12) (by decide) rfl 32 (by decide) wd2 (fun _ h9 => h9) (by decide) rfl (t := 396) (hR 36 32 rfl) (by decide) dX12_nameAt_88 ?_
                    refine lv_bipush (v := 60) hx hb dX12_nameAt_91 (by decide) ?_
                    refine lv_iload hx hb dX12_nameAt_93 (lv_at hl 3 rfl) ?_
                    refine lv_imul hx hb dX12_nameAt_95 ?_
                    obtain ⟨z_69, ez_69, hz_69⟩ := s_mul (show (60 : Int32).toInt = 60 from rfl) (rfl : z_9.toInt = _) (by omega) (by omega)
                    refine sj_i ez_69 ?_
                    refine lv_iload hx hb dX12_nameAt_96 (lv_at hl 0 rfl) ?_
                    refine lv_iadd hx hb dX12_nameAt_98 ?_
                    obtain ⟨z_70, ez_70, hz_70⟩ := s_add (rfl : z_69.toInt = _) (rfl : u.toInt = _) (by omega) (by omega)
                    refine sj_i ez_70 ?_
                    have bx_71 : (0 : Int) ≤ (i 396 (60 * f.toInt + u.toInt + 240 * v4.toInt).toNat).toInt ∧ (i 396 (60 * f.toInt + u.toInt + 240 * v4.toInt).toNat).toInt ≤ 65535 := hO 396 (60 * f.toInt + u.toInt + 240 * v4.toInt).toNat
                    refine h_cald hx hb hK hH (by decide) (rfl : kd 396 = 14) (s_vin (N := 9600) (rfl : z_70.toInt = _) (rfl : ln 396 = 9600) (by omega) (by omega)) dX12_nameAt_99 ?_
                    have ek_72 : z_70.toNatClampNeg = (60 * f.toInt + u.toInt + 240 * v4.toInt).toNat := (s_cl (show z_70.toInt = 60 * f.toInt + u.toInt + 240 * v4.toInt by omega))
                    refine sj_i (y := (i 396 (60 * f.toInt + u.toInt + 240 * v4.toInt).toNat)) (by rw [ek_72]) ?_
                    refine lv_icmp_ne (tgt := 107) hx hb dX12_nameAt_100 (by decide) (fun c_73 => ?_) (fun c_73 => ?_)
                    · skip
                      have h_74 := s_ne (rfl : (i 389 (u.toInt + x.toInt + z.toInt).toNat).toInt = _) (rfl : (i 396 (60 * f.toInt + u.toInt + 240 * v4.toInt).toNat).toInt = _) c_73
                      refine lv_iconst (v := 0) hx hb dX12_nameAt_107 (by decide) ?_
                      refine lv_istore (lv' := [(9, .int 0), (10, .int u), (8, .int (i 395 (f.toInt + 4 * v4.toInt).toNat)), (7, .int z_9), (6, .int f), (0, .ref (g 36)), (1, .ref (g 389)), (2, .int x), (3, .int y), (4, .int z), (5, .int v4)]) hx hb dX12_nameAt_108 hl (by decide) rfl (fun ls hl => ?_)
                      obtain ⟨z_75, ez_75, hz_75⟩ := s_add (rfl : u.toInt = _) (show (1 : Int32).toInt = 1 from rfl) (by omega) (by omega)
                      refine lv_iinc (v := z_75) (lv' := [(10, .int z_75), (9, .int 0), (8, .int (i 395 (f.toInt + 4 * v4.toInt).toNat)), (7, .int z_9), (6, .int f), (0, .ref (g 36)), (1, .ref (g 389)), (2, .int x), (3, .int y), (4, .int z), (5, .int v4)]) hx hb dX12_nameAt_110 hl (k := 1) rfl ez_75 (by decide) rfl (fun ls hl => ?_)
                      refine lv_goto (tgt := 66) hx hb dX12_nameAt_113 (by decide) ?_
                      have hl_76 : (0 : Int32).toInt = 0 := rfl
                      exact ih_lp_52 0 z_75 _ _ ls (by omega) (by omega) (by omega) (by omega) (Or.inr ⟨by rfl, fun q => by
                                have q1 := q.2.2 u.toInt.toNat (by omega)
                                rw [show (x.toInt + z.toInt + ((u.toInt.toNat : Nat) : Int)) = u.toInt + x.toInt + z.toInt by omega, show (60 * z_9.toInt + ((u.toInt.toNat : Nat) : Int)) = 60 * f.toInt + u.toInt + 240 * v4.toInt by omega] at q1
                                omega⟩) (lv_sub hl [0, 1, 2, 3, 4, 5, 6, 7, 8, 9, 10] rfl) hH hS
                    · skip
                      have h_77 := s_eq (rfl : (i 389 (u.toInt + x.toInt + z.toInt).toNat).toInt = _) (rfl : (i 396 (60 * f.toInt + u.toInt + 240 * v4.toInt).toNat).toInt = _) c_73
                      refine lv_iconst (v := 1) hx hb dX12_nameAt_103 (by decide) ?_
                      refine lv_goto (tgt := 108) hx hb dX12_nameAt_104 (by decide) ?_
                      refine lv_istore (lv' := [(9, .int 1), (10, .int u), (8, .int (i 395 (f.toInt + 4 * v4.toInt).toNat)), (7, .int z_9), (6, .int f), (0, .ref (g 36)), (1, .ref (g 389)), (2, .int x), (3, .int y), (4, .int z), (5, .int v4)]) hx hb dX12_nameAt_108 hl (by decide) rfl (fun ls hl => ?_)
                      obtain ⟨z_78, ez_78, hz_78⟩ := s_add (rfl : u.toInt = _) (show (1 : Int32).toInt = 1 from rfl) (by omega) (by omega)
                      refine lv_iinc (v := z_78) (lv' := [(10, .int z_78), (9, .int 1), (8, .int (i 395 (f.toInt + 4 * v4.toInt).toNat)), (7, .int z_9), (6, .int f), (0, .ref (g 36)), (1, .ref (g 389)), (2, .int x), (3, .int y), (4, .int z), (5, .int v4)]) hx hb dX12_nameAt_110 hl (k := 1) rfl ez_78 (by decide) rfl (fun ls hl => ?_)
                      refine lv_goto (tgt := 66) hx hb dX12_nameAt_113 (by decide) ?_
                      have hl_79 : (1 : Int32).toInt = 1 := rfl
                      exact ih_lp_52 1 z_78 _ _ ls (by omega) (by omega) (by omega) (by omega) (Or.inl ⟨by rfl, (hi_lp_52_1.resolve_right (fun q => by have := q.1; omega)).2.1, (hi_lp_52_1.resolve_right (fun q => by have := q.1; omega)).2.2.1, fun j hj => by
                                by_cases q : (j : Int) < u.toInt
                                · exact (hi_lp_52_1.resolve_right (fun q => by have := q.1; omega)).2.2.2 j q
                                · rw [show (x.toInt + z.toInt + (j : Int)) = u.toInt + x.toInt + z.toInt by omega, show (60 * z_9.toInt + (j : Int)) = 60 * f.toInt + u.toInt + 240 * v4.toInt by omega]; omega⟩) (lv_sub hl [0, 1, 2, 3, 4, 5, 6, 7, 8, 9, 10] rfl) hH hS
            have hl_80 : (0 : Int32).toInt = 0 := rfl
            have hl_81 : (0 : Int32).toInt = 0 := rfl
            exact lp_52 _ 0 0 _ _ ls (Nat.lt_succ_self _) (by omega) (by omega) (by omega) (Or.inr ⟨by rfl, fun q => by have q1 := q.1; have q2 := q.2.1; rw [show x.toInt + z.toInt + (i 395 (f.toInt + 4 * v4.toInt).toNat).toInt = (i 395 (f.toInt + 4 * v4.toInt).toNat).toInt + x.toInt + z.toInt by omega] at q2; omega⟩) (lv_sub hl [0, 1, 2, 3, 4, 5, 6, 7, 8, 9, 10] rfl) hH hS
          · skip
            have h_82 := s_eq (rfl : (i 389 ((i 395 (f.toInt + 4 * v4.toInt).toNat).toInt + x.toInt + z.toInt).toNat).toInt = _) (show (62 : Int32).toInt = 62 from rfl) c_50
            refine lv_iconst (v := 1) hx hb dX12_nameAt_56 (by decide) ?_
            refine lv_goto (tgt := 61) hx hb dX12_nameAt_57 (by decide) ?_
            refine lv_istore (lv' := [(9, .int 1), (8, .int (i 395 (f.toInt + 4 * v4.toInt).toNat)), (7, .int z_9), (6, .int f), (0, .ref (g 36)), (1, .ref (g 389)), (2, .int x), (3, .int y), (4, .int z), (5, .int v4)]) hx hb dX12_nameAt_61 hl (by decide) rfl (fun ls hl => ?_)
            refine lv_iconst (v := 0) hx hb dX12_nameAt_63 (by decide) ?_
            refine lv_istore (lv' := [(10, .int 0), (9, .int 1), (8, .int (i 395 (f.toInt + 4 * v4.toInt).toNat)), (7, .int z_9), (6, .int f), (0, .ref (g 36)), (1, .ref (g 389)), (2, .int x), (3, .int y), (4, .int z), (5, .int v4)]) hx hb dX12_nameAt_64 hl (by decide) rfl (fun ls hl => ?_)
            -- loop at 66
            have lp_83 : ∀ (fuel_lp_83 : Nat) (t : Int32) (u : Int32) (H : Heap) (locs : List Loc) (ls : Array Slot), (60 - u.toInt).toNat < fuel_lp_83 → (0 : Int) ≤ t.toInt ∧ t.toInt ≤ 1 → (0 : Int) ≤ u.toInt ∧ u.toInt ≤ 60 → u.toInt ≤ (i 395 (f.toInt + 4 * v4.toInt).toNat).toInt → nmI (i 389) (i 396) x.toInt y.toInt z.toInt z_9.toInt (i 395 (f.toInt + 4 * v4.toInt).toNat).toInt u.toInt t.toInt → lv_has ls 11 [(10, .int u), (9, .int t), (8, .int (i 395 (f.toInt + 4 * v4.toInt).toNat)), (7, .int z_9), (6, .int f), (0, .ref (g 36)), (1, .ref (g 389)), (2, .int x), (3, .int y), (4, .int z), (5, .int v4)] → sj_H D A (hwc g ka i r L d) H → va_S A s.heap H locs → W p l e (headSpec wsX12_nameAt ({ frames := 0, cells := 0, slots := 0, locals := 0 })).room s m ([.ref (g 36), .ref (g 389), .int x, .int y, .int z, .int v4] : List Value).toArray below meth c H locs 0 0 (MQ below (sj_Qi (S := Unit) D (fun v u => ((-1 : Int) ≤ v.toInt ∧ v.toInt ≤ 3) ∧ (nmR (i 389) (i 396) (i 395) x.toInt y.toInt z.toInt v4.toInt (i 394 v4.toInt.toNat).toInt v.toInt)) (fun _ => hwc g ka i r L d) (fun _ => []) A) ([.ref (g 36), .ref (g 389), .int x, .int y, .int z, .int v4] : List Value).toArray s 0 0 A) (F0 m 66 ls []) := by
              intro fuel_lp_83
              induction fuel_lp_83 with
              | zero => intros; omega
              | succ fuel_lp_83 ih_lp_83 =>
                intro t u H locs ls hm hr_t hr_u hi_lp_83_0 hi_lp_83_1 hl hH hS
                refine lv_iload hx hb dX12_nameAt_66 (lv_at hl 0 rfl) ?_
                refine lv_iload hx hb dX12_nameAt_68 (lv_at hl 2 rfl) ?_
                refine lv_icmp_ge (tgt := 116) hx hb dX12_nameAt_70 (by decide) (fun c_84 => ?_) (fun c_84 => ?_)
                · skip
                  have h_85 := s_le (rfl : (i 395 (f.toInt + 4 * v4.toInt).toNat).toInt = _) (rfl : u.toInt = _) c_84
                  refine lv_iload hx hb dX12_nameAt_116 (lv_at hl 1 rfl) ?_
                  refine lv_if_eq (tgt := 124) hx hb dX12_nameAt_118 (by decide) (fun c_86 => ?_) (fun c_86 => ?_)
                  · skip
                    have h_87 := s_eq (rfl : t.toInt = _) (show (0 : Int32).toInt = 0 from rfl) c_86
                    obtain ⟨z_88, ez_88, hz_88⟩ := s_add (rfl : f.toInt = _) (show (1 : Int32).toInt = 1 from rfl) (by omega) (by omega)
                    refine lv_iinc (v := z_88) (lv' := [(6, .int z_88), (10, .int u), (9, .int t), (8, .int (i 395 (f.toInt + 4 * v4.toInt).toNat)), (7, .int z_9), (0, .ref (g 36)), (1, .ref (g 389)), (2, .int x), (3, .int y), (4, .int z), (5, .int v4)]) hx hb dX12_nameAt_124 hl (k := 4) rfl ez_88 (by decide) rfl (fun ls hl => ?_)
                    refine lv_goto (tgt := 3) hx hb dX12_nameAt_127 (by decide) ?_
                    exact ih_lp_1 z_88 _ _ ls (by omega) (by omega) (by omega) (nmN_s (m := z_88.toInt) hi_lp_1_1 (by omega) (fun q => nmX_no q (many := (i 395 (f.toInt + 4 * v4.toInt).toNat).toInt) (cell := z_9.toInt) (by omega) (congrArg (fun q => (i 395 q).toInt) (by omega)) hi_lp_83_1 (by omega))) (lv_sub hl [0, 5, 6, 7, 8, 9, 10] rfl) hH hS
                  · skip
                    have h_89 := s_ne (rfl : t.toInt = _) (show (0 : Int32).toInt = 0 from rfl) c_86
                    refine lv_iload hx hb dX12_nameAt_121 (lv_at hl 4 rfl) ?_
                    have hV_90 : nmR (i 389) (i 396) (i 395) x.toInt y.toInt z.toInt v4.toInt (i 394 v4.toInt.toNat).toInt (f : Int32).toInt := (Or.inl ⟨by omega, by omega, nmX_yes (many := (i 395 (f.toInt + 4 * v4.toInt).toNat).toInt) (cell := z_9.toInt) (by omega) (congrArg (fun q => (i 395 q).toInt) (by omega)) (hi_lp_83_1.resolve_right (fun q => by have := q.1; omega)) (by omega), hi_lp_1_1⟩)
                    exact sj_zret hx hb hr hlocks rfl hS () ⟨⟨by omega, by omega⟩, hV_90⟩ hH (sj_Knil hK) (Nat.le_of_ble_eq_true rfl) (Nat.le_of_ble_eq_true rfl) dX12_nameAt_123
                · skip
                  have h_91 := s_nle (rfl : (i 395 (f.toInt + 4 * v4.toInt).toNat).toInt = _) (rfl : u.toInt = _) c_84
                  refine lv_iload hx hb dX12_nameAt_73 (lv_at hl 1 rfl) ?_
                  refine lv_if_eq (tgt := 116) hx hb dX12_nameAt_75 (by decide) (fun c_92 => ?_) (fun c_92 => ?_)
                  · skip
                    have h_93 := s_eq (rfl : t.toInt = _) (show (0 : Int32).toInt = 0 from rfl) c_92
                    refine lv_iload hx hb dX12_nameAt_116 (lv_at hl 1 rfl) ?_
                    refine lv_if_eq (tgt := 124) hx hb dX12_nameAt_118 (by decide) (fun _ => ?_) (fun h => absurd (p_eq (rfl : t.toInt = _) (show (0 : Int32).toInt = 0 from rfl) (by omega)) h)
                    obtain ⟨z_94, ez_94, hz_94⟩ := s_add (rfl : f.toInt = _) (show (1 : Int32).toInt = 1 from rfl) (by omega) (by omega)
                    refine lv_iinc (v := z_94) (lv' := [(6, .int z_94), (10, .int u), (9, .int t), (8, .int (i 395 (f.toInt + 4 * v4.toInt).toNat)), (7, .int z_9), (0, .ref (g 36)), (1, .ref (g 389)), (2, .int x), (3, .int y), (4, .int z), (5, .int v4)]) hx hb dX12_nameAt_124 hl (k := 4) rfl ez_94 (by decide) rfl (fun ls hl => ?_)
                    refine lv_goto (tgt := 3) hx hb dX12_nameAt_127 (by decide) ?_
                    exact ih_lp_1 z_94 _ _ ls (by omega) (by omega) (by omega) (nmN_s (m := z_94.toInt) hi_lp_1_1 (by omega) (fun q => nmX_no q (many := (i 395 (f.toInt + 4 * v4.toInt).toNat).toInt) (cell := z_9.toInt) (by omega) (congrArg (fun q => (i 395 q).toInt) (by omega)) hi_lp_83_1 (by omega))) (lv_sub hl [0, 5, 6, 7, 8, 9, 10] rfl) hH hS
                  · skip
                    have h_95 := s_ne (rfl : t.toInt = _) (show (0 : Int32).toInt = 0 from rfl) c_92
                    have hJ := hi_lp_83_1.resolve_right (fun q => by have := q.1; omega)
                    have hJ1 := hJ.2.1
                    refine lv_aload_n hx hb dX12_nameAt_78 rfl (lv_at hl 6 rfl) ?_
                    refine lv_iload_n hx hb dX12_nameAt_79 rfl (lv_at hl 7 rfl) ?_
                    refine lv_iload hx hb dX12_nameAt_80 (lv_at hl 9 rfl) ?_
                    refine lv_iadd hx hb dX12_nameAt_82 ?_
                    obtain ⟨z_96, ez_96, hz_96⟩ := s_add (rfl : x.toInt = _) (rfl : z.toInt = _) (by omega) (by omega)
                    refine sj_i ez_96 ?_
                    refine lv_iload hx hb dX12_nameAt_83 (lv_at hl 0 rfl) ?_
                    refine lv_iadd hx hb dX12_nameAt_85 ?_
                    obtain ⟨z_97, ez_97, hz_97⟩ := s_add (rfl : z_96.toInt = _) (rfl : u.toInt = _) (by omega) (by omega)
                    refine sj_i ez_97 ?_
                    have bx_98 : (0 : Int) ≤ (i 389 (u.toInt + x.toInt + z.toInt).toNat).toInt ∧ (i 389 (u.toInt + x.toInt + z.toInt).toNat).toInt ≤ 65535 := hO 389 (u.toInt + x.toInt + z.toInt).toNat
                    refine h_cald hx hb hK hH (by decide) (rfl : kd 389 = 14) (s_vin (N := 1800) (rfl : z_97.toInt = _) (rfl : ln 389 = 1800) (by omega) (by omega)) dX12_nameAt_86 ?_
                    have ek_99 : z_97.toNatClampNeg = (u.toInt + x.toInt + z.toInt).toNat := (s_cl (show z_97.toInt = u.toInt + x.toInt + z.toInt by omega))
                    refine sj_i (y := (i 389 (u.toInt + x.toInt + z.toInt).toNat)) (by rw [ek_99]) ?_
                    refine lv_aload_n hx hb dX12_nameAt_87 rfl (lv_at hl 5 rfl) ?_
                    refine h_getr (ci := 12) (C := RX12) (F := TX12) (N := 86) hx hb hts in12 hown hK hH (by decide) (rfl : kd 36 = 12) (by decide) rfl 32 (by decide) wd2 (fun _ h9 => h9) (by decide) rfl (t := 396) (hR 36 32 rfl) (by decide) dX12_nameAt_88 ?_
                    refine lv_bipush (v := 60) hx hb dX12_nameAt_91 (by decide) ?_
                    refine lv_iload hx hb dX12_nameAt_93 (lv_at hl 3 rfl) ?_
                    refine lv_imul hx hb dX12_nameAt_95 ?_
                    obtain ⟨z_100, ez_100, hz_100⟩ := s_mul (show (60 : Int32).toInt = 60 from rfl) (rfl : z_9.toInt = _) (by omega) (by omega)
                    refine sj_i ez_100 ?_
                    refine lv_iload hx hb dX12_nameAt_96 (lv_at hl 0 rfl) ?_
                    refine lv_iadd hx hb dX12_nameAt_98 ?_
                    obtain ⟨z_101, ez_101, hz_101⟩ := s_add (rfl : z_100.toInt = _) (rfl : u.toInt = _) (by omega) (by omega)
                    refine sj_i ez_101 ?_
                    have bx_102 : (0 : Int) ≤ (i 396 (60 * f.toInt + u.toInt + 240 * v4.toInt).toNat).toInt ∧ (i 396 (60 * f.toInt + u.toInt + 240 * v4.toInt).toNat).toInt ≤ 65535 := hO 396 (60 * f.toInt + u.toInt + 240 * v4.toInt).toNat
                    refine h_cald hx hb hK hH (by decide) (rfl : kd 396 = 14) (s_vin (N := 9600) (rfl : z_101.toInt = _) (rfl : ln 396 = 9600) (by omega) (by omega)) dX12_nameAt_99 ?_
                    have ek_103 : z_101.toNatClampNeg = (60 * f.toInt + u.toInt + 240 * v4.toInt).toNat := (s_cl (show z_101.toInt = 60 * f.toInt + u.toInt + 240 * v4.toInt by omega))
                    refine sj_i (y := (i 396 (60 * f.toInt + u.toInt + 240 * v4.toInt).toNat)) (by rw [ek_103]) ?_
                    refine lv_icmp_ne (tgt := 107) hx hb dX12_nameAt_100 (by decide) (fun c_104 => ?_) (fun c_104 => ?_)
                    · skip
                      have h_105 := s_ne (rfl : (i 389 (u.toInt + x.toInt + z.toInt).toNat).toInt = _) (rfl : (i 396 (60 * f.toInt + u.toInt + 240 * v4.toInt).toNat).toInt = _) c_104
                      refine lv_iconst (v := 0) hx hb dX12_nameAt_107 (by decide) ?_
                      refine lv_istore (lv' := [(9, .int 0), (10, .int u), (8, .int (i 395 (f.toInt + 4 * v4.toInt).toNat)), (7, .int z_9), (6, .int f), (0, .ref (g 36)), (1, .ref (g 389)), (2, .int x), (3, .int y), (4, .int z), (5, .int v4)]) hx hb dX12_nameAt_108 hl (by decide) rfl (fun ls hl => ?_)
                      obtain ⟨z_106, ez_106, hz_106⟩ := s_add (rfl : u.toInt = _) (show (1 : Int32).toInt = 1 from rfl) (by omega) (by omega)
                      refine lv_iinc (v := z_106) (lv' := [(10, .int z_106), (9, .int 0), (8, .int (i 395 (f.toInt + 4 * v4.toInt).toNat)), (7, .int z_9), (6, .int f), (0, .ref (g 36)), (1, .ref (g 389)), (2, .int x), (3, .int y), (4, .int z), (5, .int v4)]) hx hb dX12_nameAt_110 hl (k := 1) rfl ez_106 (by decide) rfl (fun ls hl => ?_)
                      refine lv_goto (tgt := 66) hx hb dX12_nameAt_113 (by decide) ?_
                      have hl_107 : (0 : Int32).toInt = 0 := rfl
                      exact ih_lp_83 0 z_106 _ _ ls (by omega) (by omega) (by omega) (by omega) (Or.inr ⟨by rfl, fun q => by
                                have q1 := q.2.2 u.toInt.toNat (by omega)
                                rw [show (x.toInt + z.toInt + ((u.toInt.toNat : Nat) : Int)) = u.toInt + x.toInt + z.toInt by omega, show (60 * z_9.toInt + ((u.toInt.toNat : Nat) : Int)) = 60 * f.toInt + u.toInt + 240 * v4.toInt by omega] at q1
                                omega⟩) (lv_sub hl [0, 1, 2, 3, 4, 5, 6, 7, 8, 9, 10] rfl) hH hS
                    · skip
                      have h_108 := s_eq (rfl : (i 389 (u.toInt + x.toInt + z.toInt).toNat).toInt = _) (rfl : (i 396 (60 * f.toInt + u.toInt + 240 * v4.toInt).toNat).toInt = _) c_104
                      refine lv_iconst (v := 1) hx hb dX12_nameAt_103 (by decide) ?_
                      refine lv_goto (tgt := 108) hx hb dX12_nameAt_104 (by decide) ?_
                      refine lv_istore (lv' := [(9, .int 1), (10, .int u), (8, .int (i 395 (f.toInt + 4 * v4.toInt).toNat)), (7, .int z_9), (6, .int f), (0, .ref (g 36)), (1, .ref (g 389)), (2, .int x), (3, .int y), (4, .int z), (5, .int v4)]) hx hb dX12_nameAt_108 hl (by decide) rfl (fun ls hl => ?_)
                      obtain ⟨z_109, ez_109, hz_109⟩ := s_add (rfl : u.toInt = _) (show (1 : Int32).toInt = 1 from rfl) (by omega) (by omega)
                      refine lv_iinc (v := z_109) (lv' := [(10, .int z_109), (9, .int 1), (8, .int (i 395 (f.toInt + 4 * v4.toInt).toNat)), (7, .int z_9), (6, .int f), (0, .ref (g 36)), (1, .ref (g 389)), (2, .int x), (3, .int y), (4, .int z), (5, .int v4)]) hx hb dX12_nameAt_110 hl (k := 1) rfl ez_109 (by decide) rfl (fun ls hl => ?_)
                      refine lv_goto (tgt := 66) hx hb dX12_nameAt_113 (by decide) ?_
                      have hl_110 : (1 : Int32).toInt = 1 := rfl
                      exact ih_lp_83 1 z_109 _ _ ls (by omega) (by omega) (by omega) (by omega) (Or.inl ⟨by rfl, (hi_lp_83_1.resolve_right (fun q => by have := q.1; omega)).2.1, (hi_lp_83_1.resolve_right (fun q => by have := q.1; omega)).2.2.1, fun j hj => by
                                by_cases q : (j : Int) < u.toInt
                                · exact (hi_lp_83_1.resolve_right (fun q => by have := q.1; omega)).2.2.2 j q
                                · rw [show (x.toInt + z.toInt + (j : Int)) = u.toInt + x.toInt + z.toInt by omega, show (60 * z_9.toInt + (j : Int)) = 60 * f.toInt + u.toInt + 240 * v4.toInt by omega]; omega⟩) (lv_sub hl [0, 1, 2, 3, 4, 5, 6, 7, 8, 9, 10] rfl) hH hS
            have hl_111 : (1 : Int32).toInt = 1 := rfl
            have hl_112 : (0 : Int32).toInt = 0 := rfl
            exact lp_83 _ 1 0 _ _ ls (Nat.lt_succ_self _) (by omega) (by omega) (by omega) (Or.inl ⟨by rfl, by omega, by rw [show x.toInt + z.toInt + (i 395 (f.toInt + 4 * v4.toInt).toNat).toInt = (i 395 (f.toInt + 4 * v4.toInt).toNat).toInt + x.toInt + z.toInt by omega]; omega, fun j hj => by exfalso; have : (0 : Int32).toInt = 0 := rfl; omega⟩) (lv_sub hl [0, 1, 2, 3, 4, 5, 6, 7, 8, 9, 10] rfl) hH hS
  have hl_113 : (0 : Int32).toInt = 0 := rfl
  exact lp_1 _ 0 _ _ ls (Nat.lt_succ_self _) (by omega) (by omega) (fun a h0 h1 => by exfalso; have : (0 : Int32).toInt = 0 := rfl; omega) (lv_sub hl [0, 1, 2, 3, 4, 5, 6] rfl) hH hS
set_option maxHeartbeats 2000000 in
set_option maxRecDepth 100000 in
theorem m_nameAt_c (l : Launch) (D : va_G) (g : Nat → Nat) (ka : Nat → ClassId) (ad : Nat → Nat) (i : Nat → Nat → Int32) (r : Nat → Nat → Nat) (L : Nat → Nat → Int64) (d : Nat → Nat → UInt64) (x : Int32) (y : Int32) (z : Int32) (v4 : Int32) (hO : OkI i) (hR : RS r) (sz : Nat) (hx0 : 0 ≤ x.toInt) (hxy : x.toInt + y.toInt ≤ 9600) (hy0 : 0 ≤ y.toInt) (hy1 : y.toInt ≤ 60) (hz0 : 1 ≤ z.toInt) (hz1 : z.toInt ≤ 60) (hv0 : 0 ≤ v4.toInt) (hv1 : v4.toInt ≤ 39) : Met l yX12_nameAt wsX12_nameAt ({ frames := 0, cells := 0, slots := 0, locals := 0 }) (va_Pc [.ref (g 36), .ref (g 396), .int x, .int y, .int z, .int v4] (sj_B D (hwc g ka i r L d) (hT ka) sz (gx ad (va_A (hwc g ka i r L d) sz)))) (sj_Qi (S := Unit) D (fun v u => ((-1 : Int) ≤ v.toInt ∧ v.toInt ≤ 3) ∧ (nmR (i 396) (i 396) (i 395) x.toInt y.toInt z.toInt v4.toInt (i 394 v4.toInt.toNat).toInt v.toInt)) (fun _ => hwc g ka i r L d) (fun _ => []) (va_A (hwc g ka i r L d) sz)) 0 0 (va_A (hwc g ka i r L d) sz) := by
  refine x_met (Ex := gx ad) (cc := cX12_nameAt) (maxL := 11) (ret := (some .int)) (by decide) rfl (Nat.le_of_ble_eq_true rfl) ?_
  intro p e s m below meth c A ls hx hb hr hml hts hown hlocks hA hS hH hK hE hl
  have hown : s.vm.findClass RX12 = some m.cls := hown
  have in12 : ∀ w ∈ wsX120, w ∈ wsX12_nameAt := (fun _ h => (List.mem_cons_of_mem _ (List.mem_append_right _ h)))
  have wd0 := hts (.fieldLink RX12 83 "StoryDeskModel" "rowCells" "[I") (List.mem_cons_of_mem _ (List.mem_append_left _ lm0))
  have wd1 := hts (.fieldLink RX12 93 "StoryDeskModel" "cellSize" "[I") (List.mem_cons_of_mem _ (List.mem_append_left _ lm1))
  have wd2 := hts (.fieldLink RX12 96 "StoryDeskModel" "cellText" "[C") (List.mem_cons_of_mem _ (List.mem_append_left _ lm2))
  have hl : lv_has ls 11 [(0, .ref (g 36)), (1, .ref (g 396)), (2, .int x), (3, .int y), (4, .int z), (5, .int v4)] := hl
  have hK : va_K D vwCl (hT ka) s := hK
  have hb394 : (0 : Int) ≤ (i 394 v4.toInt.toNat).toInt ∧ (i 394 v4.toInt.toNat).toInt ≤ 4 := hO 394 _
  refine lv_iconst (v := 0) hx hb dX12_nameAt_0 (by decide) ?_
  refine lv_istore (lv' := [(6, .int 0), (0, .ref (g 36)), (1, .ref (g 396)), (2, .int x), (3, .int y), (4, .int z), (5, .int v4)]) hx hb dX12_nameAt_1 hl (by decide) rfl (fun ls hl => ?_)
  -- loop at 3
  have lp_1 : ∀ (fuel_lp_1 : Nat) (f : Int32) (H : Heap) (locs : List Loc) (ls : Array Slot), (4 - f.toInt).toNat < fuel_lp_1 → (0 : Int) ≤ f.toInt ∧ f.toInt ≤ 4 → f.toInt ≤ (i 394 v4.toInt.toNat).toInt → nmN (i 396) (i 396) (i 395) x.toInt y.toInt z.toInt v4.toInt f.toInt → lv_has ls 11 [(6, .int f), (0, .ref (g 36)), (1, .ref (g 396)), (2, .int x), (3, .int y), (4, .int z), (5, .int v4)] → sj_H D A (hwc g ka i r L d) H → va_S A s.heap H locs → W p l e (headSpec wsX12_nameAt ({ frames := 0, cells := 0, slots := 0, locals := 0 })).room s m ([.ref (g 36), .ref (g 396), .int x, .int y, .int z, .int v4] : List Value).toArray below meth c H locs 0 0 (MQ below (sj_Qi (S := Unit) D (fun v u => ((-1 : Int) ≤ v.toInt ∧ v.toInt ≤ 3) ∧ (nmR (i 396) (i 396) (i 395) x.toInt y.toInt z.toInt v4.toInt (i 394 v4.toInt.toNat).toInt v.toInt)) (fun _ => hwc g ka i r L d) (fun _ => []) A) ([.ref (g 36), .ref (g 396), .int x, .int y, .int z, .int v4] : List Value).toArray s 0 0 A) (F0 m 3 ls []) := by
    intro fuel_lp_1
    induction fuel_lp_1 with
    | zero => intros; omega
    | succ fuel_lp_1 ih_lp_1 =>
      intro f H locs ls hm hr_f hi_lp_1_0 hi_lp_1_1 hl hH hS
      refine lv_iload hx hb dX12_nameAt_3 (lv_at hl 0 rfl) ?_
      refine lv_aload_n hx hb dX12_nameAt_5 rfl (lv_at hl 1 rfl) ?_
      refine h_getr (ci := 12) (C := RX12) (F := TX12) (N := 86) hx hb hts in12 hown hK hH (by decide) (rfl : kd 36 = 12) (by decide) rfl 30 (by decide) wd0 (fun _ h9 => h9) (by decide) rfl (t := 394) (hR 36 30 rfl) (by decide) dX12_nameAt_6 ?_
      refine lv_iload hx hb dX12_nameAt_9 (lv_at hl 6 rfl) ?_
      have bx_2 : (0 : Int) ≤ (i 394 (v4.toInt).toNat).toInt ∧ (i 394 (v4.toInt).toNat).toInt ≤ 4 := hO 394 (v4.toInt).toNat
      refine h_iald hx hb hK hH (by decide) (rfl : kd 394 = 13) (s_vin (N := 40) (rfl : v4.toInt = _) (rfl : ln 394 = 40) (by omega) (by omega)) dX12_nameAt_11 ?_
      have ek_3 : v4.toNatClampNeg = (v4.toInt).toNat := (s_cl (show v4.toInt = v4.toInt by omega))
      refine sj_i (y := (i 394 (v4.toInt).toNat)) (by rw [ek_3]) ?_
      refine lv_icmp_ge (tgt := 130) hx hb dX12_nameAt_12 (by decide) (fun c_4 => ?_) (fun c_4 => ?_)
      · skip
        have h_5 := s_le (rfl : (i 394 (v4.toInt).toNat).toInt = _) (rfl : f.toInt = _) c_4
        refine lv_iconst (v := (-1)) hx hb dX12_nameAt_130 (by decide) ?_
        have hV_6 : nmR (i 396) (i 396) (i 395) x.toInt y.toInt z.toInt v4.toInt (i 394 v4.toInt.toNat).toInt ((-1) : Int32).toInt := (Or.inr ⟨by rfl, fun n h0 h1 => hi_lp_1_1 n h0 (by omega)⟩)
        exact sj_zret hx hb hr hlocks rfl hS () ⟨⟨by decide, by decide⟩, hV_6⟩ hH (sj_Knil hK) (Nat.le_of_ble_eq_true rfl) (Nat.le_of_ble_eq_true rfl) dX12_nameAt_131
      · skip
        have h_7 := s_nle (rfl : (i 394 (v4.toInt).toNat).toInt = _) (rfl : f.toInt = _) c_4
        refine lv_iconst (v := 4) hx hb dX12_nameAt_15 (by decide) ?_
        refine lv_iload hx hb dX12_nameAt_16 (lv_at hl 6 rfl) ?_
        refine lv_imul hx hb dX12_nameAt_18 ?_
        obtain ⟨z_8, ez_8, hz_8⟩ := s_mul (show (4 : Int32).toInt = 4 from rfl) (rfl : v4.toInt = _) (by omega) (by omega)
        refine sj_i ez_8 ?_
        refine lv_iload hx hb dX12_nameAt_19 (lv_at hl 0 rfl) ?_
        refine lv_iadd hx hb dX12_nameAt_21 ?_
        obtain ⟨z_9, ez_9, hz_9⟩ := s_add (rfl : z_8.toInt = _) (rfl : f.toInt = _) (by omega) (by omega)
        refine sj_i ez_9 ?_
        refine lv_istore (lv' := [(7, .int z_9), (6, .int f), (0, .ref (g 36)), (1, .ref (g 396)), (2, .int x), (3, .int y), (4, .int z), (5, .int v4)]) hx hb dX12_nameAt_22 hl (by decide) rfl (fun ls hl => ?_)
        refine lv_aload_n hx hb dX12_nameAt_24 rfl (lv_at hl 2 rfl) ?_
        refine h_getr (ci := 12) (C := RX12) (F := TX12) (N := 86) hx hb hts in12 hown hK hH (by decide) (rfl : kd 36 = 12) (by decide) rfl 31 (by decide) wd1 (fun _ h9 => h9) (by decide) rfl (t := 395) (hR 36 31 rfl) (by decide) dX12_nameAt_25 ?_
        refine lv_iload hx hb dX12_nameAt_28 (lv_at hl 0 rfl) ?_
        have bx_10 : (0 : Int) ≤ (i 395 (f.toInt + 4 * v4.toInt).toNat).toInt ∧ (i 395 (f.toInt + 4 * v4.toInt).toNat).toInt ≤ 60 := hO 395 (f.toInt + 4 * v4.toInt).toNat
        refine h_iald hx hb hK hH (by decide) (rfl : kd 395 = 13) (s_vin (N := 160) (rfl : z_9.toInt = _) (rfl : ln 395 = 160) (by omega) (by omega)) dX12_nameAt_30 ?_
        have ek_11 : z_9.toNatClampNeg = (f.toInt + 4 * v4.toInt).toNat := (s_cl (show z_9.toInt = f.toInt + 4 * v4.toInt by omega))
        refine sj_i (y := (i 395 (f.toInt + 4 * v4.toInt).toNat)) (by rw [ek_11]) ?_
        refine lv_istore (lv' := [(8, .int (i 395 (f.toInt + 4 * v4.toInt).toNat)), (7, .int z_9), (6, .int f), (0, .ref (g 36)), (1, .ref (g 396)), (2, .int x), (3, .int y), (4, .int z), (5, .int v4)]) hx hb dX12_nameAt_31 hl (by decide) rfl (fun ls hl => ?_)
        refine lv_iload hx hb dX12_nameAt_33 (lv_at hl 7 rfl) ?_
        refine lv_iload hx hb dX12_nameAt_35 (lv_at hl 0 rfl) ?_
        refine lv_iadd hx hb dX12_nameAt_37 ?_
        obtain ⟨z_12, ez_12, hz_12⟩ := s_add (rfl : z.toInt = _) (rfl : (i 395 (f.toInt + 4 * v4.toInt).toNat).toInt = _) (by omega) (by omega)
        refine sj_i ez_12 ?_
        refine lv_iload_n hx hb dX12_nameAt_38 rfl (lv_at hl 6 rfl) ?_
        refine lv_icmp_ge (tgt := 60) hx hb dX12_nameAt_39 (by decide) (fun c_13 => ?_) (fun c_13 => ?_)
        · skip
          have h_14 := s_le (rfl : y.toInt = _) (rfl : z_12.toInt = _) c_13
          refine lv_iconst (v := 0) hx hb dX12_nameAt_60 (by decide) ?_
          refine lv_istore (lv' := [(9, .int 0), (8, .int (i 395 (f.toInt + 4 * v4.toInt).toNat)), (7, .int z_9), (6, .int f), (0, .ref (g 36)), (1, .ref (g 396)), (2, .int x), (3, .int y), (4, .int z), (5, .int v4)]) hx hb dX12_nameAt_61 hl (by decide) rfl (fun ls hl => ?_)
          refine lv_iconst (v := 0) hx hb dX12_nameAt_63 (by decide) ?_
          refine lv_istore (lv' := [(10, .int 0), (9, .int 0), (8, .int (i 395 (f.toInt + 4 * v4.toInt).toNat)), (7, .int z_9), (6, .int f), (0, .ref (g 36)), (1, .ref (g 396)), (2, .int x), (3, .int y), (4, .int z), (5, .int v4)]) hx hb dX12_nameAt_64 hl (by decide) rfl (fun ls hl => ?_)
          -- loop at 66
          have lp_15 : ∀ (fuel_lp_15 : Nat) (t : Int32) (u : Int32) (H : Heap) (locs : List Loc) (ls : Array Slot), (60 - u.toInt).toNat < fuel_lp_15 → (0 : Int) ≤ t.toInt ∧ t.toInt ≤ 1 → (0 : Int) ≤ u.toInt ∧ u.toInt ≤ 60 → u.toInt ≤ (i 395 (f.toInt + 4 * v4.toInt).toNat).toInt → nmI (i 396) (i 396) x.toInt y.toInt z.toInt z_9.toInt (i 395 (f.toInt + 4 * v4.toInt).toNat).toInt u.toInt t.toInt → lv_has ls 11 [(10, .int u), (9, .int t), (8, .int (i 395 (f.toInt + 4 * v4.toInt).toNat)), (7, .int z_9), (6, .int f), (0, .ref (g 36)), (1, .ref (g 396)), (2, .int x), (3, .int y), (4, .int z), (5, .int v4)] → sj_H D A (hwc g ka i r L d) H → va_S A s.heap H locs → W p l e (headSpec wsX12_nameAt ({ frames := 0, cells := 0, slots := 0, locals := 0 })).room s m ([.ref (g 36), .ref (g 396), .int x, .int y, .int z, .int v4] : List Value).toArray below meth c H locs 0 0 (MQ below (sj_Qi (S := Unit) D (fun v u => ((-1 : Int) ≤ v.toInt ∧ v.toInt ≤ 3) ∧ (nmR (i 396) (i 396) (i 395) x.toInt y.toInt z.toInt v4.toInt (i 394 v4.toInt.toNat).toInt v.toInt)) (fun _ => hwc g ka i r L d) (fun _ => []) A) ([.ref (g 36), .ref (g 396), .int x, .int y, .int z, .int v4] : List Value).toArray s 0 0 A) (F0 m 66 ls []) := by
            intro fuel_lp_15
            induction fuel_lp_15 with
            | zero => intros; omega
            | succ fuel_lp_15 ih_lp_15 =>
              intro t u H locs ls hm hr_t hr_u hi_lp_15_0 hi_lp_15_1 hl hH hS
              refine lv_iload hx hb dX12_nameAt_66 (lv_at hl 0 rfl) ?_
              refine lv_iload hx hb dX12_nameAt_68 (lv_at hl 2 rfl) ?_
              refine lv_icmp_ge (tgt := 116) hx hb dX12_nameAt_70 (by decide) (fun c_16 => ?_) (fun c_16 => ?_)
              · skip
                have h_17 := s_le (rfl : (i 395 (f.toInt + 4 * v4.toInt).toNat).toInt = _) (rfl : u.toInt = _) c_16
                refine lv_iload hx hb dX12_nameAt_116 (lv_at hl 1 rfl) ?_
                refine lv_if_eq (tgt := 124) hx hb dX12_nameAt_118 (by decide) (fun c_18 => ?_) (fun c_18 => ?_)
                · skip
                  have h_19 := s_eq (rfl : t.toInt = _) (show (0 : Int32).toInt = 0 from rfl) c_18
                  obtain ⟨z_20, ez_20, hz_20⟩ := s_add (rfl : f.toInt = _) (show (1 : Int32).toInt = 1 from rfl) (by omega) (by omega)
                  refine lv_iinc (v := z_20) (lv' := [(6, .int z_20), (10, .int u), (9, .int t), (8, .int (i 395 (f.toInt + 4 * v4.toInt).toNat)), (7, .int z_9), (0, .ref (g 36)), (1, .ref (g 396)), (2, .int x), (3, .int y), (4, .int z), (5, .int v4)]) hx hb dX12_nameAt_124 hl (k := 4) rfl ez_20 (by decide) rfl (fun ls hl => ?_)
                  refine lv_goto (tgt := 3) hx hb dX12_nameAt_127 (by decide) ?_
                  exact ih_lp_1 z_20 _ _ ls (by omega) (by omega) (by omega) (nmN_s (m := z_20.toInt) hi_lp_1_1 (by omega) (fun q => nmX_no q (many := (i 395 (f.toInt + 4 * v4.toInt).toNat).toInt) (cell := z_9.toInt) (by omega) (congrArg (fun q => (i 395 q).toInt) (by omega)) hi_lp_15_1 (by omega))) (lv_sub hl [0, 5, 6, 7, 8, 9, 10] rfl) hH hS
                · skip
                  have h_21 := s_ne (rfl : t.toInt = _) (show (0 : Int32).toInt = 0 from rfl) c_18
                  refine lv_iload hx hb dX12_nameAt_121 (lv_at hl 4 rfl) ?_
                  have hV_22 : nmR (i 396) (i 396) (i 395) x.toInt y.toInt z.toInt v4.toInt (i 394 v4.toInt.toNat).toInt (f : Int32).toInt := (Or.inl ⟨by omega, by omega, nmX_yes (many := (i 395 (f.toInt + 4 * v4.toInt).toNat).toInt) (cell := z_9.toInt) (by omega) (congrArg (fun q => (i 395 q).toInt) (by omega)) (hi_lp_15_1.resolve_right (fun q => by have := q.1; omega)) (by omega), hi_lp_1_1⟩)
                  exact sj_zret hx hb hr hlocks rfl hS () ⟨⟨by omega, by omega⟩, hV_22⟩ hH (sj_Knil hK) (Nat.le_of_ble_eq_true rfl) (Nat.le_of_ble_eq_true rfl) dX12_nameAt_123
              · skip
                have h_23 := s_nle (rfl : (i 395 (f.toInt + 4 * v4.toInt).toNat).toInt = _) (rfl : u.toInt = _) c_16
                refine lv_iload hx hb dX12_nameAt_73 (lv_at hl 1 rfl) ?_
                refine lv_if_eq (tgt := 116) hx hb dX12_nameAt_75 (by decide) (fun c_24 => ?_) (fun c_24 => ?_)
                · skip
                  have h_25 := s_eq (rfl : t.toInt = _) (show (0 : Int32).toInt = 0 from rfl) c_24
                  refine lv_iload hx hb dX12_nameAt_116 (lv_at hl 1 rfl) ?_
                  refine lv_if_eq (tgt := 124) hx hb dX12_nameAt_118 (by decide) (fun _ => ?_) (fun h => absurd (p_eq (rfl : t.toInt = _) (show (0 : Int32).toInt = 0 from rfl) (by omega)) h)
                  obtain ⟨z_26, ez_26, hz_26⟩ := s_add (rfl : f.toInt = _) (show (1 : Int32).toInt = 1 from rfl) (by omega) (by omega)
                  refine lv_iinc (v := z_26) (lv' := [(6, .int z_26), (10, .int u), (9, .int t), (8, .int (i 395 (f.toInt + 4 * v4.toInt).toNat)), (7, .int z_9), (0, .ref (g 36)), (1, .ref (g 396)), (2, .int x), (3, .int y), (4, .int z), (5, .int v4)]) hx hb dX12_nameAt_124 hl (k := 4) rfl ez_26 (by decide) rfl (fun ls hl => ?_)
                  refine lv_goto (tgt := 3) hx hb dX12_nameAt_127 (by decide) ?_
                  exact ih_lp_1 z_26 _ _ ls (by omega) (by omega) (by omega) (nmN_s (m := z_26.toInt) hi_lp_1_1 (by omega) (fun q => nmX_no q (many := (i 395 (f.toInt + 4 * v4.toInt).toNat).toInt) (cell := z_9.toInt) (by omega) (congrArg (fun q => (i 395 q).toInt) (by omega)) hi_lp_15_1 (by omega))) (lv_sub hl [0, 5, 6, 7, 8, 9, 10] rfl) hH hS
                · skip
                  have h_27 := s_ne (rfl : t.toInt = _) (show (0 : Int32).toInt = 0 from rfl) c_24
                  have hJ := hi_lp_15_1.resolve_right (fun q => by have := q.1; omega)
                  have hJ1 := hJ.2.1
                  refine lv_aload_n hx hb dX12_nameAt_78 rfl (lv_at hl 6 rfl) ?_
                  refine lv_iload_n hx hb dX12_nameAt_79 rfl (lv_at hl 7 rfl) ?_
                  refine lv_iload hx hb dX12_nameAt_80 (lv_at hl 9 rfl) ?_
                  refine lv_iadd hx hb dX12_nameAt_82 ?_
                  obtain ⟨z_28, ez_28, hz_28⟩ := s_add (rfl : x.toInt = _) (rfl : z.toInt = _) (by omega) (by omega)
                  refine sj_i ez_28 ?_
                  refine lv_iload hx hb dX12_nameAt_83 (lv_at hl 0 rfl) ?_
                  refine lv_iadd hx hb dX12_nameAt_85 ?_
                  obtain ⟨z_29, ez_29, hz_29⟩ := s_add (rfl : z_28.toInt = _) (rfl : u.toInt = _) (by omega) (by omega)
                  refine sj_i ez_29 ?_
                  have bx_30 : (0 : Int) ≤ (i 396 (u.toInt + x.toInt + z.toInt).toNat).toInt ∧ (i 396 (u.toInt + x.toInt + z.toInt).toNat).toInt ≤ 65535 := hO 396 (u.toInt + x.toInt + z.toInt).toNat
                  refine h_cald hx hb hK hH (by decide) (rfl : kd 396 = 14) (s_vin (N := 9600) (rfl : z_29.toInt = _) (rfl : ln 396 = 9600) (by omega) (by omega)) dX12_nameAt_86 ?_
                  have ek_31 : z_29.toNatClampNeg = (u.toInt + x.toInt + z.toInt).toNat := (s_cl (show z_29.toInt = u.toInt + x.toInt + z.toInt by omega))
                  refine sj_i (y := (i 396 (u.toInt + x.toInt + z.toInt).toNat)) (by rw [ek_31]) ?_
                  refine lv_aload_n hx hb dX12_nameAt_87 rfl (lv_at hl 5 rfl) ?_
                  refine h_getr (ci := 12) (C := RX12) (F := TX12) (N := 86) hx hb hts in12 hown hK hH (by decide) (rfl : kd 36 = 12) (by decide) rfl 32 (by decide) wd2 (fun _ h9 => h9) (by decide) rfl (t := 396) (hR 36 32 rfl) (by decide) dX12_nameAt_88 ?_
                  refine lv_bipush (v := 60) hx hb dX12_nameAt_91 (by decide) ?_
                  refine lv_iload hx hb dX12_nameAt_93 (lv_at hl 3 rfl) ?_
                  refine lv_imul hx hb dX12_nameAt_95 ?_
                  obtain ⟨z_32, ez_32, hz_32⟩ := s_mul (show (60 : Int32).toInt = 60 from rfl) (rfl : z_9.toInt = _) (by omega) (by omega)
                  refine sj_i ez_32 ?_
                  refine lv_iload hx hb dX12_nameAt_96 (lv_at hl 0 rfl) ?_
                  refine lv_iadd hx hb dX12_nameAt_98 ?_
                  obtain ⟨z_33, ez_33, hz_33⟩ := s_add (rfl : z_32.toInt = _) (rfl : u.toInt = _) (by omega) (by omega)
                  refine sj_i ez_33 ?_
                  have bx_34 : (0 : Int) ≤ (i 396 (60 * f.toInt + u.toInt + 240 * v4.toInt).toNat).toInt ∧ (i 396 (60 * f.toInt + u.toInt + 240 * v4.toInt).toNat).toInt ≤ 65535 := hO 396 (60 * f.toInt + u.toInt + 240 * v4.toInt).toNat
                  refine h_cald hx hb hK hH (by decide) (rfl : kd 396 = 14) (s_vin (N := 9600) (rfl : z_33.toInt = _) (rfl : ln 396 = 9600) (by omega) (by omega)) dX12_nameAt_99 ?_
                  have ek_35 : z_33.toNatClampNeg = (60 * f.toInt + u.toInt + 240 * v4.toInt).toNat := (s_cl (show z_33.toInt = 60 * f.toInt + u.toInt + 240 * v4.toInt by omega))
                  refine sj_i (y := (i 396 (60 * f.toInt + u.toInt + 240 * v4.toInt).toNat)) (by rw [ek_35]) ?_
                  refine lv_icmp_ne (tgt := 107) hx hb dX12_nameAt_100 (by decide) (fun c_36 => ?_) (fun c_36 => ?_)
                  · skip
                    have h_37 := s_ne (rfl : (i 396 (u.toInt + x.toInt + z.toInt).toNat).toInt = _) (rfl : (i 396 (60 * f.toInt + u.toInt + 240 * v4.toInt).toNat).toInt = _) c_36
                    refine lv_iconst (v := 0) hx hb dX12_nameAt_107 (by decide) ?_
                    refine lv_istore (lv' := [(9, .int 0), (10, .int u), (8, .int (i 395 (f.toInt + 4 * v4.toInt).toNat)), (7, .int z_9), (6, .int f), (0, .ref (g 36)), (1, .ref (g 396)), (2, .int x), (3, .int y), (4, .int z), (5, .int v4)]) hx hb dX12_nameAt_108 hl (by decide) rfl (fun ls hl => ?_)
                    obtain ⟨z_38, ez_38, hz_38⟩ := s_add (rfl : u.toInt = _) (show (1 : Int32).toInt = 1 from rfl) (by omega) (by omega)
                    refine lv_iinc (v := z_38) (lv' := [(10, .int z_38), (9, .int 0), (8, .int (i 395 (f.toInt + 4 * v4.toInt).toNat)), (7, .int z_9), (6, .int f), (0, .ref (g 36)), (1, .ref (g 396)), (2, .int x), (3, .int y), (4, .int z), (5, .int v4)]) hx hb dX12_nameAt_110 hl (k := 1) rfl ez_38 (by decide) rfl (fun ls hl => ?_)
                    refine lv_goto (tgt := 66) hx hb dX12_nameAt_113 (by decide) ?_
                    have hl_39 : (0 : Int32).toInt = 0 := rfl
                    exact ih_lp_15 0 z_38 _ _ ls (by omega) (by omega) (by omega) (by omega) (Or.inr ⟨by rfl, fun q => by
                              have q1 := q.2.2 u.toInt.toNat (by omega)
                              rw [show (x.toInt + z.toInt + ((u.toInt.toNat : Nat) : Int)) = u.toInt + x.toInt + z.toInt by omega, show (60 * z_9.toInt + ((u.toInt.toNat : Nat) : Int)) = 60 * f.toInt + u.toInt + 240 * v4.toInt by omega] at q1
                              omega⟩) (lv_sub hl [0, 1, 2, 3, 4, 5, 6, 7, 8, 9, 10] rfl) hH hS
                  · skip
                    have h_40 := s_eq (rfl : (i 396 (u.toInt + x.toInt + z.toInt).toNat).toInt = _) (rfl : (i 396 (60 * f.toInt + u.toInt + 240 * v4.toInt).toNat).toInt = _) c_36
                    refine lv_iconst (v := 1) hx hb dX12_nameAt_103 (by decide) ?_
                    refine lv_goto (tgt := 108) hx hb dX12_nameAt_104 (by decide) ?_
                    refine lv_istore (lv' := [(9, .int 1), (10, .int u), (8, .int (i 395 (f.toInt + 4 * v4.toInt).toNat)), (7, .int z_9), (6, .int f), (0, .ref (g 36)), (1, .ref (g 396)), (2, .int x), (3, .int y), (4, .int z), (5, .int v4)]) hx hb dX12_nameAt_108 hl (by decide) rfl (fun ls hl => ?_)
                    obtain ⟨z_41, ez_41, hz_41⟩ := s_add (rfl : u.toInt = _) (show (1 : Int32).toInt = 1 from rfl) (by omega) (by omega)
                    refine lv_iinc (v := z_41) (lv' := [(10, .int z_41), (9, .int 1), (8, .int (i 395 (f.toInt + 4 * v4.toInt).toNat)), (7, .int z_9), (6, .int f), (0, .ref (g 36)), (1, .ref (g 396)), (2, .int x), (3, .int y), (4, .int z), (5, .int v4)]) hx hb dX12_nameAt_110 hl (k := 1) rfl ez_41 (by decide) rfl (fun ls hl => ?_)
                    refine lv_goto (tgt := 66) hx hb dX12_nameAt_113 (by decide) ?_
                    have hl_42 : (1 : Int32).toInt = 1 := rfl
                    exact ih_lp_15 1 z_41 _ _ ls (by omega) (by omega) (by omega) (by omega) (Or.inl ⟨by rfl, (hi_lp_15_1.resolve_right (fun q => by have := q.1; omega)).2.1, (hi_lp_15_1.resolve_right (fun q => by have := q.1; omega)).2.2.1, fun j hj => by
                              by_cases q : (j : Int) < u.toInt
                              · exact (hi_lp_15_1.resolve_right (fun q => by have := q.1; omega)).2.2.2 j q
                              · rw [show (x.toInt + z.toInt + (j : Int)) = u.toInt + x.toInt + z.toInt by omega, show (60 * z_9.toInt + (j : Int)) = 60 * f.toInt + u.toInt + 240 * v4.toInt by omega]; omega⟩) (lv_sub hl [0, 1, 2, 3, 4, 5, 6, 7, 8, 9, 10] rfl) hH hS
          have hl_43 : (0 : Int32).toInt = 0 := rfl
          have hl_44 : (0 : Int32).toInt = 0 := rfl
          exact lp_15 _ 0 0 _ _ ls (Nat.lt_succ_self _) (by omega) (by omega) (by omega) (Or.inr ⟨by rfl, fun q => by have q1 := q.1; have q2 := q.2.1; rw [show x.toInt + z.toInt + (i 395 (f.toInt + 4 * v4.toInt).toNat).toInt = (i 395 (f.toInt + 4 * v4.toInt).toNat).toInt + x.toInt + z.toInt by omega] at q2; omega⟩) (lv_sub hl [0, 1, 2, 3, 4, 5, 6, 7, 8, 9, 10] rfl) hH hS
        · skip
          have h_45 := s_nle (rfl : y.toInt = _) (rfl : z_12.toInt = _) c_13
          refine lv_aload_n hx hb dX12_nameAt_42 rfl (lv_at hl 4 rfl) ?_
          refine lv_iload_n hx hb dX12_nameAt_43 rfl (lv_at hl 5 rfl) ?_
          refine lv_iload hx hb dX12_nameAt_44 (lv_at hl 7 rfl) ?_
          refine lv_iadd hx hb dX12_nameAt_46 ?_
          obtain ⟨z_46, ez_46, hz_46⟩ := s_add (rfl : x.toInt = _) (rfl : z.toInt = _) (by omega) (by omega)
          refine sj_i ez_46 ?_
          refine lv_iload hx hb dX12_nameAt_47 (lv_at hl 0 rfl) ?_
          refine lv_iadd hx hb dX12_nameAt_49 ?_
          obtain ⟨z_47, ez_47, hz_47⟩ := s_add (rfl : z_46.toInt = _) (rfl : (i 395 (f.toInt + 4 * v4.toInt).toNat).toInt = _) (by omega) (by omega)
          refine sj_i ez_47 ?_
          have bx_48 : (0 : Int) ≤ (i 396 ((i 395 (f.toInt + 4 * v4.toInt).toNat).toInt + x.toInt + z.toInt).toNat).toInt ∧ (i 396 ((i 395 (f.toInt + 4 * v4.toInt).toNat).toInt + x.toInt + z.toInt).toNat).toInt ≤ 65535 := hO 396 ((i 395 (f.toInt + 4 * v4.toInt).toNat).toInt + x.toInt + z.toInt).toNat
          refine h_cald hx hb hK hH (by decide) (rfl : kd 396 = 14) (s_vin (N := 9600) (rfl : z_47.toInt = _) (rfl : ln 396 = 9600) (by omega) (by omega)) dX12_nameAt_50 ?_
          have ek_49 : z_47.toNatClampNeg = ((i 395 (f.toInt + 4 * v4.toInt).toNat).toInt + x.toInt + z.toInt).toNat := (s_cl (show z_47.toInt = (i 395 (f.toInt + 4 * v4.toInt).toNat).toInt + x.toInt + z.toInt by omega))
          refine sj_i (y := (i 396 ((i 395 (f.toInt + 4 * v4.toInt).toNat).toInt + x.toInt + z.toInt).toNat)) (by rw [ek_49]) ?_
          refine lv_bipush (v := 62) hx hb dX12_nameAt_51 (by decide) ?_
          refine lv_icmp_ne (tgt := 60) hx hb dX12_nameAt_53 (by decide) (fun c_50 => ?_) (fun c_50 => ?_)
          · skip
            have h_51 := s_ne (rfl : (i 396 ((i 395 (f.toInt + 4 * v4.toInt).toNat).toInt + x.toInt + z.toInt).toNat).toInt = _) (show (62 : Int32).toInt = 62 from rfl) c_50
            refine lv_iconst (v := 0) hx hb dX12_nameAt_60 (by decide) ?_
            refine lv_istore (lv' := [(9, .int 0), (8, .int (i 395 (f.toInt + 4 * v4.toInt).toNat)), (7, .int z_9), (6, .int f), (0, .ref (g 36)), (1, .ref (g 396)), (2, .int x), (3, .int y), (4, .int z), (5, .int v4)]) hx hb dX12_nameAt_61 hl (by decide) rfl (fun ls hl => ?_)
            refine lv_iconst (v := 0) hx hb dX12_nameAt_63 (by decide) ?_
            refine lv_istore (lv' := [(10, .int 0), (9, .int 0), (8, .int (i 395 (f.toInt + 4 * v4.toInt).toNat)), (7, .int z_9), (6, .int f), (0, .ref (g 36)), (1, .ref (g 396)), (2, .int x), (3, .int y), (4, .int z), (5, .int v4)]) hx hb dX12_nameAt_64 hl (by decide) rfl (fun ls hl => ?_)
            -- loop at 66
            have lp_52 : ∀ (fuel_lp_52 : Nat) (t : Int32) (u : Int32) (H : Heap) (locs : List Loc) (ls : Array Slot), (60 - u.toInt).toNat < fuel_lp_52 → (0 : Int) ≤ t.toInt ∧ t.toInt ≤ 1 → (0 : Int) ≤ u.toInt ∧ u.toInt ≤ 60 → u.toInt ≤ (i 395 (f.toInt + 4 * v4.toInt).toNat).toInt → nmI (i 396) (i 396) x.toInt y.toInt z.toInt z_9.toInt (i 395 (f.toInt + 4 * v4.toInt).toNat).toInt u.toInt t.toInt → lv_has ls 11 [(10, .int u), (9, .int t), (8, .int (i 395 (f.toInt + 4 * v4.toInt).toNat)), (7, .int z_9), (6, .int f), (0, .ref (g 36)), (1, .ref (g 396)), (2, .int x), (3, .int y), (4, .int z), (5, .int v4)] → sj_H D A (hwc g ka i r L d) H → va_S A s.heap H locs → W p l e (headSpec wsX12_nameAt ({ frames := 0, cells := 0, slots := 0, locals := 0 })).room s m ([.ref (g 36), .ref (g 396), .int x, .int y, .int z, .int v4] : List Value).toArray below meth c H locs 0 0 (MQ below (sj_Qi (S := Unit) D (fun v u => ((-1 : Int) ≤ v.toInt ∧ v.toInt ≤ 3) ∧ (nmR (i 396) (i 396) (i 395) x.toInt y.toInt z.toInt v4.toInt (i 394 v4.toInt.toNat).toInt v.toInt)) (fun _ => hwc g ka i r L d) (fun _ => []) A) ([.ref (g 36), .ref (g 396), .int x, .int y, .int z, .int v4] : List Value).toArray s 0 0 A) (F0 m 66 ls []) := by
              intro fuel_lp_52
              induction fuel_lp_52 with
              | zero => intros; omega
              | succ fuel_lp_52 ih_lp_52 =>
                intro t u H locs ls hm hr_t hr_u hi_lp_52_0 hi_lp_52_1 hl hH hS
                refine lv_iload hx hb dX12_nameAt_66 (lv_at hl 0 rfl) ?_
                refine lv_iload hx hb dX12_nameAt_68 (lv_at hl 2 rfl) ?_
                refine lv_icmp_ge (tgt := 116) hx hb dX12_nameAt_70 (by decide) (fun c_53 => ?_) (fun c_53 => ?_)
                · skip
                  have h_54 := s_le (rfl : (i 395 (f.toInt + 4 * v4.toInt).toNat).toInt = _) (rfl : u.toInt = _) c_53
                  refine lv_iload hx hb dX12_nameAt_116 (lv_at hl 1 rfl) ?_
                  refine lv_if_eq (tgt := 124) hx hb dX12_nameAt_118 (by decide) (fun c_55 => ?_) (fun c_55 => ?_)
                  · skip
                    have h_56 := s_eq (rfl : t.toInt = _) (show (0 : Int32).toInt = 0 from rfl) c_55
                    obtain ⟨z_57, ez_57, hz_57⟩ := s_add (rfl : f.toInt = _) (show (1 : Int32).toInt = 1 from rfl) (by omega) (by omega)
                    refine lv_iinc (v := z_57) (lv' := [(6, .int z_57), (10, .int u), (9, .int t), (8, .int (i 395 (f.toInt + 4 * v4.toInt).toNat)), (7, .int z_9), (0, .ref (g 36)), (1, .ref (g 396)), (2, .int x), (3, .int y), (4, .int z), (5, .int v4)]) hx hb dX12_nameAt_124 hl (k := 4) rfl ez_57 (by decide) rfl (fun ls hl => ?_)
                    refine lv_goto (tgt := 3) hx hb dX12_nameAt_127 (by decide) ?_
                    exact ih_lp_1 z_57 _ _ ls (by omega) (by omega) (by omega) (nmN_s (m := z_57.toInt) hi_lp_1_1 (by omega) (fun q => nmX_no q (many := (i 395 (f.toInt + 4 * v4.toInt).toNat).toInt) (cell := z_9.toInt) (by omega) (congrArg (fun q => (i 395 q).toInt) (by omega)) hi_lp_52_1 (by omega))) (lv_sub hl [0, 5, 6, 7, 8, 9, 10] rfl) hH hS
                  · skip
                    have h_58 := s_ne (rfl : t.toInt = _) (show (0 : Int32).toInt = 0 from rfl) c_55
                    refine lv_iload hx hb dX12_nameAt_121 (lv_at hl 4 rfl) ?_
                    have hV_59 : nmR (i 396) (i 396) (i 395) x.toInt y.toInt z.toInt v4.toInt (i 394 v4.toInt.toNat).toInt (f : Int32).toInt := (Or.inl ⟨by omega, by omega, nmX_yes (many := (i 395 (f.toInt + 4 * v4.toInt).toNat).toInt) (cell := z_9.toInt) (by omega) (congrArg (fun q => (i 395 q).toInt) (by omega)) (hi_lp_52_1.resolve_right (fun q => by have := q.1; omega)) (by omega), hi_lp_1_1⟩)
                    exact sj_zret hx hb hr hlocks rfl hS () ⟨⟨by omega, by omega⟩, hV_59⟩ hH (sj_Knil hK) (Nat.le_of_ble_eq_true rfl) (Nat.le_of_ble_eq_true rfl) dX12_nameAt_123
                · skip
                  have h_60 := s_nle (rfl : (i 395 (f.toInt + 4 * v4.toInt).toNat).toInt = _) (rfl : u.toInt = _) c_53
                  refine lv_iload hx hb dX12_nameAt_73 (lv_at hl 1 rfl) ?_
                  refine lv_if_eq (tgt := 116) hx hb dX12_nameAt_75 (by decide) (fun c_61 => ?_) (fun c_61 => ?_)
                  · skip
                    have h_62 := s_eq (rfl : t.toInt = _) (show (0 : Int32).toInt = 0 from rfl) c_61
                    refine lv_iload hx hb dX12_nameAt_116 (lv_at hl 1 rfl) ?_
                    refine lv_if_eq (tgt := 124) hx hb dX12_nameAt_118 (by decide) (fun _ => ?_) (fun h => absurd (p_eq (rfl : t.toInt = _) (show (0 : Int32).toInt = 0 from rfl) (by omega)) h)
                    obtain ⟨z_63, ez_63, hz_63⟩ := s_add (rfl : f.toInt = _) (show (1 : Int32).toInt = 1 from rfl) (by omega) (by omega)
                    refine lv_iinc (v := z_63) (lv' := [(6, .int z_63), (10, .int u), (9, .int t), (8, .int (i 395 (f.toInt + 4 * v4.toInt).toNat)), (7, .int z_9), (0, .ref (g 36)), (1, .ref (g 396)), (2, .int x), (3, .int y), (4, .int z), (5, .int v4)]) hx hb dX12_nameAt_124 hl (k := 4) rfl ez_63 (by decide) rfl (fun ls hl => ?_)
                    refine lv_goto (tgt := 3) hx hb dX12_nameAt_127 (by decide) ?_
                    exact ih_lp_1 z_63 _ _ ls (by omega) (by omega) (by omega) (nmN_s (m := z_63.toInt) hi_lp_1_1 (by omega) (fun q => nmX_no q (many := (i 395 (f.toInt + 4 * v4.toInt).toNat).toInt) (cell := z_9.toInt) (by omega) (congrArg (fun q => (i 395 q).toInt) (by omega)) hi_lp_52_1 (by omega))) (lv_sub hl [0, 5, 6, 7, 8, 9, 10] rfl) hH hS
                  · skip
                    have h_64 := s_ne (rfl : t.toInt = _) (show (0 : Int32).toInt = 0 from rfl) c_61
                    have hJ := hi_lp_52_1.resolve_right (fun q => by have := q.1; omega)
                    have hJ1 := hJ.2.1
                    refine lv_aload_n hx hb dX12_nameAt_78 rfl (lv_at hl 6 rfl) ?_
                    refine lv_iload_n hx hb dX12_nameAt_79 rfl (lv_at hl 7 rfl) ?_
                    refine lv_iload hx hb dX12_nameAt_80 (lv_at hl 9 rfl) ?_
                    refine lv_iadd hx hb dX12_nameAt_82 ?_
                    obtain ⟨z_65, ez_65, hz_65⟩ := s_add (rfl : x.toInt = _) (rfl : z.toInt = _) (by omega) (by omega)
                    refine sj_i ez_65 ?_
                    refine lv_iload hx hb dX12_nameAt_83 (lv_at hl 0 rfl) ?_
                    refine lv_iadd hx hb dX12_nameAt_85 ?_
                    obtain ⟨z_66, ez_66, hz_66⟩ := s_add (rfl : z_65.toInt = _) (rfl : u.toInt = _) (by omega) (by omega)
                    refine sj_i ez_66 ?_
                    have bx_67 : (0 : Int) ≤ (i 396 (u.toInt + x.toInt + z.toInt).toNat).toInt ∧ (i 396 (u.toInt + x.toInt + z.toInt).toNat).toInt ≤ 65535 := hO 396 (u.toInt + x.toInt + z.toInt).toNat
                    refine h_cald hx hb hK hH (by decide) (rfl : kd 396 = 14) (s_vin (N := 9600) (rfl : z_66.toInt = _) (rfl : ln 396 = 9600) (by omega) (by omega)) dX12_nameAt_86 ?_
                    have ek_68 : z_66.toNatClampNeg = (u.toInt + x.toInt + z.toInt).toNat := (s_cl (show z_66.toInt = u.toInt + x.toInt + z.toInt by omega))
                    refine sj_i (y := (i 396 (u.toInt + x.toInt + z.toInt).toNat)) (by rw [ek_68]) ?_
                    refine lv_aload_n hx hb dX12_nameAt_87 rfl (lv_at hl 5 rfl) ?_
                    refine h_getr (ci := 12) (C := RX12) (F := TX12) (N := 86) hx hb hts in12 hown hK hH (by decide) (rfl : kd 36 = 12) (by decide) rfl 32 (by decide) wd2 (fun _ h9 => h9) (by decide) rfl (t := 396) (hR 36 32 rfl) (by decide) dX12_nameAt_88 ?_
                    refine lv_bipush (v := 60) hx hb dX12_nameAt_91 (by decide) ?_
                    refine lv_iload hx hb dX12_nameAt_93 (lv_at hl 3 rfl) ?_
                    refine lv_imul hx hb dX12_nameAt_95 ?_
                    obtain ⟨z_69, ez_69, hz_69⟩ := s_mul (show (60 : Int32).toInt = 60 from rfl) (rfl : z_9.toInt = _) (by omega) (by omega)
                    refine sj_i ez_69 ?_
                    refine lv_iload hx hb dX12_nameAt_96 (lv_at hl 0 rfl) ?_
                    refine lv_iadd hx hb dX12_nameAt_98 ?_
                    obtain ⟨z_70, ez_70, hz_70⟩ := s_add (rfl : z_69.toInt = _) (rfl : u.toInt = _) (by omega) (by omega)
                    refine sj_i ez_70 ?_
                    have bx_71 : (0 : Int) ≤ (i 396 (60 * f.toInt + u.toInt + 240 * v4.toInt).toNat).toInt ∧ (i 396 (60 * f.toInt + u.toInt + 240 * v4.toInt).toNat).toInt ≤ 65535 := hO 396 (60 * f.toInt + u.toInt + 240 * v4.toInt).toNat
                    refine h_cald hx hb hK hH (by decide) (rfl : kd 396 = 14) (s_vin (N := 9600) (rfl : z_70.toInt = _) (rfl : ln 396 = 9600) (by omega) (by omega)) dX12_nameAt_99 ?_
                    have ek_72 : z_70.toNatClampNeg = (60 * f.toInt + u.toInt + 240 * v4.toInt).toNat := (s_cl (show z_70.toInt = 60 * f.toInt + u.toInt + 240 * v4.toInt by omega))
                    refine sj_i (y := (i 396 (60 * f.toInt + u.toInt + 240 * v4.toInt).toNat)) (by rw [ek_72]) ?_
                    refine lv_icmp_ne (tgt := 107) hx hb dX12_nameAt_100 (by decide) (fun c_73 => ?_) (fun c_73 => ?_)
                    · skip
                      have h_74 := s_ne (rfl : (i 396 (u.toInt + x.toInt + z.toInt).toNat).toInt = _) (rfl : (i 396 (60 * f.toInt + u.toInt + 240 * v4.toInt).toNat).toInt = _) c_73
                      refine lv_iconst (v := 0) hx hb dX12_nameAt_107 (by decide) ?_
                      refine lv_istore (lv' := [(9, .int 0), (10, .int u), (8, .int (i 395 (f.toInt + 4 * v4.toInt).toNat)), (7, .int z_9), (6, .int f), (0, .ref (g 36)), (1, .ref (g 396)), (2, .int x), (3, .int y), (4, .int z), (5, .int v4)]) hx hb dX12_nameAt_108 hl (by decide) rfl (fun ls hl => ?_)
                      obtain ⟨z_75, ez_75, hz_75⟩ := s_add (rfl : u.toInt = _) (show (1 : Int32).toInt = 1 from rfl) (by omega) (by omega)
                      refine lv_iinc (v := z_75) (lv' := [(10, .int z_75), (9, .int 0), (8, .int (i 395 (f.toInt + 4 * v4.toInt).toNat)), (7, .int z_9), (6, .int f), (0, .ref (g 36)), (1, .ref (g 396)), (2, .int x), (3, .int y), (4, .int z), (5, .int v4)]) hx hb dX12_nameAt_110 hl (k := 1) rfl ez_75 (by decide) rfl (fun ls hl => ?_)
                      refine lv_goto (tgt := 66) hx hb dX12_nameAt_113 (by decide) ?_
                      have hl_76 : (0 : Int32).toInt = 0 := rfl
                      exact ih_lp_52 0 z_75 _ _ ls (by omega) (by omega) (by omega) (by omega) (Or.inr ⟨by rfl, fun q => by
                                have q1 := q.2.2 u.toInt.toNat (by omega)
                                rw [show (x.toInt + z.toInt + ((u.toInt.toNat : Nat) : Int)) = u.toInt + x.toInt + z.toInt by omega, show (60 * z_9.toInt + ((u.toInt.toNat : Nat) : Int)) = 60 * f.toInt + u.toInt + 240 * v4.toInt by omega] at q1
                                omega⟩) (lv_sub hl [0, 1, 2, 3, 4, 5, 6, 7, 8, 9, 10] rfl) hH hS
                    · skip
                      have h_77 := s_eq (rfl : (i 396 (u.toInt + x.toInt + z.toInt).toNat).toInt = _) (rfl : (i 396 (60 * f.toInt + u.toInt + 240 * v4.toInt).toNat).toInt = _) c_73
                      refine lv_iconst (v := 1) hx hb dX12_nameAt_103 (by decide) ?_
                      refine lv_goto (tgt := 108) hx hb dX12_nameAt_104 (by decide) ?_
                      refine lv_istore (lv' := [(9, .int 1), (10, .int u), (8, .int (i 395 (f.toInt + 4 * v4.toInt).toNat)), (7, .int z_9), (6, .int f), (0, .ref (g 36)), (1, .ref (g 396)), (2, .int x), (3, .int y), (4, .int z), (5, .int v4)]) hx hb dX12_nameAt_108 hl (by decide) rfl (fun ls hl => ?_)
                      obtain ⟨z_78, ez_78, hz_78⟩ := s_add (rfl : u.toInt = _) (show (1 : Int32).toInt = 1 from rfl) (by omega) (by omega)
                      refine lv_iinc (v := z_78) (lv' := [(10, .int z_78), (9, .int 1), (8, .int (i 395 (f.toInt + 4 * v4.toInt).toNat)), (7, .int z_9), (6, .int f), (0, .ref (g 36)), (1, .ref (g 396)), (2, .int x), (3, .int y), (4, .int z), (5, .int v4)]) hx hb dX12_nameAt_110 hl (k := 1) rfl ez_78 (by decide) rfl (fun ls hl => ?_)
                      refine lv_goto (tgt := 66) hx hb dX12_nameAt_113 (by decide) ?_
                      have hl_79 : (1 : Int32).toInt = 1 := rfl
                      exact ih_lp_52 1 z_78 _ _ ls (by omega) (by omega) (by omega) (by omega) (Or.inl ⟨by rfl, (hi_lp_52_1.resolve_right (fun q => by have := q.1; omega)).2.1, (hi_lp_52_1.resolve_right (fun q => by have := q.1; omega)).2.2.1, fun j hj => by
                                by_cases q : (j : Int) < u.toInt
                                · exact (hi_lp_52_1.resolve_right (fun q => by have := q.1; omega)).2.2.2 j q
                                · rw [show (x.toInt + z.toInt + (j : Int)) = u.toInt + x.toInt + z.toInt by omega, show (60 * z_9.toInt + (j : Int)) = 60 * f.toInt + u.toInt + 240 * v4.toInt by omega]; omega⟩) (lv_sub hl [0, 1, 2, 3, 4, 5, 6, 7, 8, 9, 10] rfl) hH hS
            have hl_80 : (0 : Int32).toInt = 0 := rfl
            have hl_81 : (0 : Int32).toInt = 0 := rfl
            exact lp_52 _ 0 0 _ _ ls (Nat.lt_succ_self _) (by omega) (by omega) (by omega) (Or.inr ⟨by rfl, fun q => by have q1 := q.1; have q2 := q.2.1; rw [show x.toInt + z.toInt + (i 395 (f.toInt + 4 * v4.toInt).toNat).toInt = (i 395 (f.toInt + 4 * v4.toInt).toNat).toInt + x.toInt + z.toInt by omega] at q2; omega⟩) (lv_sub hl [0, 1, 2, 3, 4, 5, 6, 7, 8, 9, 10] rfl) hH hS
          · skip
            have h_82 := s_eq (rfl : (i 396 ((i 395 (f.toInt + 4 * v4.toInt).toNat).toInt + x.toInt + z.toInt).toNat).toInt = _) (show (62 : Int32).toInt = 62 from rfl) c_50
            refine lv_iconst (v := 1) hx hb dX12_nameAt_56 (by decide) ?_
            refine lv_goto (tgt := 61) hx hb dX12_nameAt_57 (by decide) ?_
            refine lv_istore (lv' := [(9, .int 1), (8, .int (i 395 (f.toInt + 4 * v4.toInt).toNat)), (7, .int z_9), (6, .int f), (0, .ref (g 36)), (1, .ref (g 396)), (2, .int x), (3, .int y), (4, .int z), (5, .int v4)]) hx hb dX12_nameAt_61 hl (by decide) rfl (fun ls hl => ?_)
            refine lv_iconst (v := 0) hx hb dX12_nameAt_63 (by decide) ?_
            refine lv_istore (lv' := [(10, .int 0), (9, .int 1), (8, .int (i 395 (f.toInt + 4 * v4.toInt).toNat)), (7, .int z_9), (6, .int f), (0, .ref (g 36)), (1, .ref (g 396)), (2, .int x), (3, .int y), (4, .int z), (5, .int v4)]) hx hb dX12_nameAt_64 hl (by decide) rfl (fun ls hl => ?_)
            -- loop at 66
            have lp_83 : ∀ (fuel_lp_83 : Nat) (t : Int32) (u : Int32) (H : Heap) (locs : List Loc) (ls : Array Slot), (60 - u.toInt).toNat < fuel_lp_83 → (0 : Int) ≤ t.toInt ∧ t.toInt ≤ 1 → (0 : Int) ≤ u.toInt ∧ u.toInt ≤ 60 → u.toInt ≤ (i 395 (f.toInt + 4 * v4.toInt).toNat).toInt → nmI (i 396) (i 396) x.toInt y.toInt z.toInt z_9.toInt (i 395 (f.toInt + 4 * v4.toInt).toNat).toInt u.toInt t.toInt → lv_has ls 11 [(10, .int u), (9, .int t), (8, .int (i 395 (f.toInt + 4 * v4.toInt).toNat)), (7, .int z_9), (6, .int f), (0, .ref (g 36)), (1, .ref (g 396)), (2, .int x), (3, .int y), (4, .int z), (5, .int v4)] → sj_H D A (hwc g ka i r L d) H → va_S A s.heap H locs → W p l e (headSpec wsX12_nameAt ({ frames := 0, cells := 0, slots := 0, locals := 0 })).room s m ([.ref (g 36), .ref (g 396), .int x, .int y, .int z, .int v4] : List Value).toArray below meth c H locs 0 0 (MQ below (sj_Qi (S := Unit) D (fun v u => ((-1 : Int) ≤ v.toInt ∧ v.toInt ≤ 3) ∧ (nmR (i 396) (i 396) (i 395) x.toInt y.toInt z.toInt v4.toInt (i 394 v4.toInt.toNat).toInt v.toInt)) (fun _ => hwc g ka i r L d) (fun _ => []) A) ([.ref (g 36), .ref (g 396), .int x, .int y, .int z, .int v4] : List Value).toArray s 0 0 A) (F0 m 66 ls []) := by
              intro fuel_lp_83
              induction fuel_lp_83 with
              | zero => intros; omega
              | succ fuel_lp_83 ih_lp_83 =>
                intro t u H locs ls hm hr_t hr_u hi_lp_83_0 hi_lp_83_1 hl hH hS
                refine lv_iload hx hb dX12_nameAt_66 (lv_at hl 0 rfl) ?_
                refine lv_iload hx hb dX12_nameAt_68 (lv_at hl 2 rfl) ?_
                refine lv_icmp_ge (tgt := 116) hx hb dX12_nameAt_70 (by decide) (fun c_84 => ?_) (fun c_84 => ?_)
                · skip
                  have h_85 := s_le (rfl : (i 395 (f.toInt + 4 * v4.toInt).toNat).toInt = _) (rfl : u.toInt = _) c_84
                  refine lv_iload hx hb dX12_nameAt_116 (lv_at hl 1 rfl) ?_
                  refine lv_if_eq (tgt := 124) hx hb dX12_nameAt_118 (by decide) (fun c_86 => ?_) (fun c_86 => ?_)
                  · skip
                    have h_87 := s_eq (rfl : t.toInt = _) (show (0 : Int32).toInt = 0 from rfl) c_86
                    obtain ⟨z_88, ez_88, hz_88⟩ := s_add (rfl : f.toInt = _) (show (1 : Int32).toInt = 1 from rfl) (by omega) (by omega)
                    refine lv_iinc (v := z_88) (lv' := [(6, .int z_88), (10, .int u), (9, .int t), (8, .int (i 395 (f.toInt + 4 * v4.toInt).toNat)), (7, .int z_9), (0, .ref (g 36)), (1, .ref (g 396)), (2, .int x), (3, .int y), (4, .int z), (5, .int v4)]) hx hb dX12_nameAt_124 hl (k := 4) rfl ez_88 (by decide) rfl (fun ls hl => ?_)
                    refine lv_goto (tgt := 3) hx hb dX12_nameAt_127 (by decide) ?_
                    exact ih_lp_1 z_88 _ _ ls (by omega) (by omega) (by omega) (nmN_s (m := z_88.toInt) hi_lp_1_1 (by omega) (fun q => nmX_no q (many := (i 395 (f.toInt + 4 * v4.toInt).toNat).toInt) (cell := z_9.toInt) (by omega) (congrArg (fun q => (i 395 q).toInt) (by omega)) hi_lp_83_1 (by omega))) (lv_sub hl [0, 5, 6, 7, 8, 9, 10] rfl) hH hS
                  · skip
                    have h_89 := s_ne (rfl : t.toInt = _) (show (0 : Int32).toInt = 0 from rfl) c_86
                    refine lv_iload hx hb dX12_nameAt_121 (lv_at hl 4 rfl) ?_
                    have hV_90 : nmR (i 396) (i 396) (i 395) x.toInt y.toInt z.toInt v4.toInt (i 394 v4.toInt.toNat).toInt (f : Int32).toInt := (Or.inl ⟨by omega, by omega, nmX_yes (many := (i 395 (f.toInt + 4 * v4.toInt).toNat).toInt) (cell := z_9.toInt) (by omega) (congrArg (fun q => (i 395 q).toInt) (by omega)) (hi_lp_83_1.resolve_right (fun q => by have := q.1; omega)) (by omega), hi_lp_1_1⟩)
                    exact sj_zret hx hb hr hlocks rfl hS () ⟨⟨by omega, by omega⟩, hV_90⟩ hH (sj_Knil hK) (Nat.le_of_ble_eq_true rfl) (Nat.le_of_ble_eq_true rfl) dX12_nameAt_123
                · skip
                  have h_91 := s_nle (rfl : (i 395 (f.toInt + 4 * v4.toInt).toNat).toInt = _) (rfl : u.toInt = _) c_84
                  refine lv_iload hx hb dX12_nameAt_73 (lv_at hl 1 rfl) ?_
                  refine lv_if_eq (tgt := 116) hx hb dX12_nameAt_75 (by decide) (fun c_92 => ?_) (fun c_92 => ?_)
                  · skip
                    have h_93 := s_eq (rfl : t.toInt = _) (show (0 : Int32).toInt = 0 from rfl) c_92
                    refine lv_iload hx hb dX12_nameAt_116 (lv_at hl 1 rfl) ?_
                    refine lv_if_eq (tgt := 124) hx hb dX12_nameAt_118 (by decide) (fun _ => ?_) (fun h => absurd (p_eq (rfl : t.toInt = _) (show (0 : Int32).toInt = 0 from rfl) (by omega)) h)
                    obtain ⟨z_94, ez_94, hz_94⟩ := s_add (rfl : f.toInt = _) (show (1 : Int32).toInt = 1 from rfl) (by omega) (by omega)
                    refine lv_iinc (v := z_94) (lv' := [(6, .int z_94), (10, .int u), (9, .int t), (8, .int (i 395 (f.toInt + 4 * v4.toInt).toNat)), (7, .int z_9), (0, .ref (g 36)), (1, .ref (g 396)), (2, .int x), (3, .int y), (4, .int z), (5, .int v4)]) hx hb dX12_nameAt_124 hl (k := 4) rfl ez_94 (by decide) rfl (fun ls hl => ?_)
                    refine lv_goto (tgt := 3) hx hb dX12_nameAt_127 (by decide) ?_
                    exact ih_lp_1 z_94 _ _ ls (by omega) (by omega) (by omega) (nmN_s (m := z_94.toInt) hi_lp_1_1 (by omega) (fun q => nmX_no q (many := (i 395 (f.toInt + 4 * v4.toInt).toNat).toInt) (cell := z_9.toInt) (by omega) (congrArg (fun q => (i 395 q).toInt) (by omega)) hi_lp_83_1 (by omega))) (lv_sub hl [0, 5, 6, 7, 8, 9, 10] rfl) hH hS
                  · skip
                    have h_95 := s_ne (rfl : t.toInt = _) (show (0 : Int32).toInt = 0 from rfl) c_92
                    have hJ := hi_lp_83_1.resolve_right (fun q => by have := q.1; omega)
                    have hJ1 := hJ.2.1
                    refine lv_aload_n hx hb dX12_nameAt_78 rfl (lv_at hl 6 rfl) ?_
                    refine lv_iload_n hx hb dX12_nameAt_79 rfl (lv_at hl 7 rfl) ?_
                    refine lv_iload hx hb dX12_nameAt_80 (lv_at hl 9 rfl) ?_
                    refine lv_iadd hx hb dX12_nameAt_82 ?_
                    obtain ⟨z_96, ez_96, hz_96⟩ := s_add (rfl : x.toInt = _) (rfl : z.toInt = _) (by omega) (by omega)
                    refine sj_i ez_96 ?_
                    refine lv_iload hx hb dX12_nameAt_83 (lv_at hl 0 rfl) ?_
                    refine lv_iadd hx hb dX12_nameAt_85 ?_
                    obtain ⟨z_97, ez_97, hz_97⟩ := s_add (rfl : z_96.toInt = _) (rfl : u.toInt = _) (by omega) (by omega)
                    refine sj_i ez_97 ?_
                    have bx_98 : (0 : Int) ≤ (i 396 (u.toInt + x.toInt + z.toInt).toNat).toInt ∧ (i 396 (u.toInt + x.toInt + z.toInt).toNat).toInt ≤ 65535 := hO 396 (u.toInt + x.toInt + z.toInt).toNat
                    refine h_cald hx hb hK hH (by decide) (rfl : kd 396 = 14) (s_vin (N := 9600) (rfl : z_97.toInt = _) (rfl : ln 396 = 9600) (by omega) (by omega)) dX12_nameAt_86 ?_
                    have ek_99 : z_97.toNatClampNeg = (u.toInt + x.toInt + z.toInt).toNat := (s_cl (show z_97.toInt = u.toInt + x.toInt + z.toInt by omega))
                    refine sj_i (y := (i 396 (u.toInt + x.toInt + z.toInt).toNat)) (by rw [ek_99]) ?_
                    refine lv_aload_n hx hb dX12_nameAt_87 rfl (lv_at hl 5 rfl) ?_
                    refine h_getr (ci := 12) (C := RX12) (F := TX12) (N := 86) hx hb hts in12 hown hK hH (by decide) (rfl : kd 36 = 12) (by decide) rfl 32 (by decide) wd2 (fun _ h9 => h9) (by decide) rfl (t := 396) (hR 36 32 rfl) (by decide) dX12_nameAt_88 ?_
                    refine lv_bipush (v := 60) hx hb dX12_nameAt_91 (by decide) ?_
                    refine lv_iload hx hb dX12_nameAt_93 (lv_at hl 3 rfl) ?_
                    refine lv_imul hx hb dX12_nameAt_95 ?_
                    obtain ⟨z_100, ez_100, hz_100⟩ := s_mul (show (60 : Int32).toInt = 60 from rfl) (rfl : z_9.toInt = _) (by omega) (by omega)
                    refine sj_i ez_100 ?_
                    refine lv_iload hx hb dX12_nameAt_96 (lv_at hl 0 rfl) ?_
                    refine lv_iadd hx hb dX12_nameAt_98 ?_
                    obtain ⟨z_101, ez_101, hz_101⟩ := s_add (rfl : z_100.toInt = _) (rfl : u.toInt = _) (by omega) (by omega)
                    refine sj_i ez_101 ?_
                    have bx_102 : (0 : Int) ≤ (i 396 (60 * f.toInt + u.toInt + 240 * v4.toInt).toNat).toInt ∧ (i 396 (60 * f.toInt + u.toInt + 240 * v4.toInt).toNat).toInt ≤ 65535 := hO 396 (60 * f.toInt + u.toInt + 240 * v4.toInt).toNat
                    refine h_cald hx hb hK hH (by decide) (rfl : kd 396 = 14) (s_vin (N := 9600) (rfl : z_101.toInt = _) (rfl : ln 396 = 9600) (by omega) (by omega)) dX12_nameAt_99 ?_
                    have ek_103 : z_101.toNatClampNeg = (60 * f.toInt + u.toInt + 240 * v4.toInt).toNat := (s_cl (show z_101.toInt = 60 * f.toInt + u.toInt + 240 * v4.toInt by omega))
                    refine sj_i (y := (i 396 (60 * f.toInt + u.toInt + 240 * v4.toInt).toNat)) (by rw [ek_103]) ?_
                    refine lv_icmp_ne (tgt := 107) hx hb dX12_nameAt_100 (by decide) (fun c_104 => ?_) (fun c_104 => ?_)
                    · skip
                      have h_105 := s_ne (rfl : (i 396 (u.toInt + x.toInt + z.toInt).toNat).toInt = _) (rfl : (i 396 (60 * f.toInt + u.toInt + 240 * v4.toInt).toNat).toInt = _) c_104
                      refine lv_iconst (v := 0) hx hb dX12_nameAt_107 (by decide) ?_
                      refine lv_istore (lv' := [(9, .int 0), (10, .int u), (8, .int (i 395 (f.toInt + 4 * v4.toInt).toNat)), (7, .int z_9), (6, .int f), (0, .ref (g 36)), (1, .ref (g 396)), (2, .int x), (3, .int y), (4, .int z), (5, .int v4)]) hx hb dX12_nameAt_108 hl (by decide) rfl (fun ls hl => ?_)
                      obtain ⟨z_106, ez_106, hz_106⟩ := s_add (rfl : u.toInt = _) (show (1 : Int32).toInt = 1 from rfl) (by omega) (by omega)
                      refine lv_iinc (v := z_106) (lv' := [(10, .int z_106), (9, .int 0), (8, .int (i 395 (f.toInt + 4 * v4.toInt).toNat)), (7, .int z_9), (6, .int f), (0, .ref (g 36)), (1, .ref (g 396)), (2, .int x), (3, .int y), (4, .int z), (5, .int v4)]) hx hb dX12_nameAt_110 hl (k := 1) rfl ez_106 (by decide) rfl (fun ls hl => ?_)
                      refine lv_goto (tgt := 66) hx hb dX12_nameAt_113 (by decide) ?_
                      have hl_107 : (0 : Int32).toInt = 0 := rfl
                      exact ih_lp_83 0 z_106 _ _ ls (by omega) (by omega) (by omega) (by omega) (Or.inr ⟨by rfl, fun q => by
                                have q1 := q.2.2 u.toInt.toNat (by omega)
                                rw [show (x.toInt + z.toInt + ((u.toInt.toNat : Nat) : Int)) = u.toInt + x.toInt + z.toInt by omega, show (60 * z_9.toInt + ((u.toInt.toNat : Nat) : Int)) = 60 * f.toInt + u.toInt + 240 * v4.toInt by omega] at q1
                                omega⟩) (lv_sub hl [0, 1, 2, 3, 4, 5, 6, 7, 8, 9, 10] rfl) hH hS
                    · skip
                      have h_108 := s_eq (rfl : (i 396 (u.toInt + x.toInt + z.toInt).toNat).toInt = _) (rfl : (i 396 (60 * f.toInt + u.toInt + 240 * v4.toInt).toNat).toInt = _) c_104
                      refine lv_iconst (v := 1) hx hb dX12_nameAt_103 (by decide) ?_
                      refine lv_goto (tgt := 108) hx hb dX12_nameAt_104 (by decide) ?_
                      refine lv_istore (lv' := [(9, .int 1), (10, .int u), (8, .int (i 395 (f.toInt + 4 * v4.toInt).toNat)), (7, .int z_9), (6, .int f), (0, .ref (g 36)), (1, .ref (g 396)), (2, .int x), (3, .int y), (4, .int z), (5, .int v4)]) hx hb dX12_nameAt_108 hl (by decide) rfl (fun ls hl => ?_)
                      obtain ⟨z_109, ez_109, hz_109⟩ := s_add (rfl : u.toInt = _) (show (1 : Int32).toInt = 1 from rfl) (by omega) (by omega)
                      refine lv_iinc (v := z_109) (lv' := [(10, .int z_109), (9, .int 1), (8, .int (i 395 (f.toInt + 4 * v4.toInt).toNat)), (7, .int z_9), (6, .int f), (0, .ref (g 36)), (1, .ref (g 396)), (2, .int x), (3, .int y), (4, .int z), (5, .int v4)]) hx hb dX12_nameAt_110 hl (k := 1) rfl ez_109 (by decide) rfl (fun ls hl => ?_)
                      refine lv_goto (tgt := 66) hx hb dX12_nameAt_113 (by decide) ?_
                      have hl_110 : (1 : Int32).toInt = 1 := rfl
                      exact ih_lp_83 1 z_109 _ _ ls (by omega) (by omega) (by omega) (by omega) (Or.inl ⟨by rfl, (hi_lp_83_1.resolve_right (fun q => by have := q.1; omega)).2.1, (hi_lp_83_1.resolve_right (fun q => by have := q.1; omega)).2.2.1, fun j hj => by
                                by_cases q : (j : Int) < u.toInt
                                · exact (hi_lp_83_1.resolve_right (fun q => by have := q.1; omega)).2.2.2 j q
                                · rw [show (x.toInt + z.toInt + (j : Int)) = u.toInt + x.toInt + z.toInt by omega, show (60 * z_9.toInt + (j : Int)) = 60 * f.toInt + u.toInt + 240 * v4.toInt by omega]; omega⟩) (lv_sub hl [0, 1, 2, 3, 4, 5, 6, 7, 8, 9, 10] rfl) hH hS
            have hl_111 : (1 : Int32).toInt = 1 := rfl
            have hl_112 : (0 : Int32).toInt = 0 := rfl
            exact lp_83 _ 1 0 _ _ ls (Nat.lt_succ_self _) (by omega) (by omega) (by omega) (Or.inl ⟨by rfl, by omega, by rw [show x.toInt + z.toInt + (i 395 (f.toInt + 4 * v4.toInt).toNat).toInt = (i 395 (f.toInt + 4 * v4.toInt).toNat).toInt + x.toInt + z.toInt by omega]; omega, fun j hj => by exfalso; have : (0 : Int32).toInt = 0 := rfl; omega⟩) (lv_sub hl [0, 1, 2, 3, 4, 5, 6, 7, 8, 9, 10] rfl) hH hS
  have hl_113 : (0 : Int32).toInt = 0 := rfl
  exact lp_1 _ 0 _ _ ls (Nat.lt_succ_self _) (by omega) (by omega) (fun a h0 h1 => by exfalso; have : (0 : Int32).toInt = 0 := rfl; omega) (lv_sub hl [0, 1, 2, 3, 4, 5, 6] rfl) hH hS
