theorem dX12_keep_0 : decode cX12_keep 0 = .ok (.aload_n 0, 1) := by decide +kernel
theorem dX12_keep_1 : decode cX12_keep 1 = .ok (.getfield 394, 3) := by decide +kernel
theorem dX12_keep_4 : decode cX12_keep 4 = .ok (.iload_n 1, 1) := by decide +kernel
theorem dX12_keep_5 : decode cX12_keep 5 = .ok (.aload_n 0, 1) := by decide +kernel
theorem dX12_keep_6 : decode cX12_keep 6 = .ok (.getfield 7, 3) := by decide +kernel
theorem dX12_keep_9 : decode cX12_keep 9 = .ok (.iastore, 1) := by decide +kernel
theorem dX12_keep_10 : decode cX12_keep 10 = .ok (.iconst 0, 1) := by decide +kernel
theorem dX12_keep_11 : decode cX12_keep 11 = .ok (.istore_n 2, 1) := by decide +kernel
theorem dX12_keep_12 : decode cX12_keep 12 = .ok (.iload_n 2, 1) := by decide +kernel
theorem dX12_keep_13 : decode cX12_keep 13 = .ok (.aload_n 0, 1) := by decide +kernel
theorem dX12_keep_14 : decode cX12_keep 14 = .ok (.getfield 7, 3) := by decide +kernel
theorem dX12_keep_17 : decode cX12_keep 17 = .ok (.if_icmp .ge 26, 3) := by decide +kernel
theorem dX12_keep_43 : decode cX12_keep 43 = .ok (.return_, 1) := by decide +kernel
theorem dX12_keep_20 : decode cX12_keep 20 = .ok (.aload_n 0, 1) := by decide +kernel
theorem dX12_keep_21 : decode cX12_keep 21 = .ok (.getfield 397, 3) := by decide +kernel
theorem dX12_keep_24 : decode cX12_keep 24 = .ok (.bipush 40, 2) := by decide +kernel
theorem dX12_keep_26 : decode cX12_keep 26 = .ok (.iload_n 1, 1) := by decide +kernel
theorem dX12_keep_27 : decode cX12_keep 27 = .ok (.imul, 1) := by decide +kernel
theorem dX12_keep_28 : decode cX12_keep 28 = .ok (.iload_n 2, 1) := by decide +kernel
theorem dX12_keep_29 : decode cX12_keep 29 = .ok (.iadd, 1) := by decide +kernel
theorem dX12_keep_30 : decode cX12_keep 30 = .ok (.aload_n 0, 1) := by decide +kernel
theorem dX12_keep_31 : decode cX12_keep 31 = .ok (.getfield 12, 3) := by decide +kernel
theorem dX12_keep_34 : decode cX12_keep 34 = .ok (.iload_n 2, 1) := by decide +kernel
theorem dX12_keep_35 : decode cX12_keep 35 = .ok (.caload, 1) := by decide +kernel
theorem dX12_keep_36 : decode cX12_keep 36 = .ok (.castore, 1) := by decide +kernel
theorem dX12_keep_37 : decode cX12_keep 37 = .ok (.iinc 2 1, 3) := by decide +kernel
theorem dX12_keep_40 : decode cX12_keep 40 = .ok (.goto (-28), 3) := by decide +kernel
set_option maxHeartbeats 2000000 in
set_option maxRecDepth 100000 in
theorem m_keep (l : Launch) (D : va_G) (g : Nat → Nat) (ka : Nat → ClassId) (ad : Nat → Nat) (i : Nat → Nat → Int32) (r : Nat → Nat → Nat) (L : Nat → Nat → Int64) (d : Nat → Nat → UInt64) (x : Int32) (hO : OkI i) (hR : RS r) (sz : Nat) (hx0 : 0 ≤ x.toInt) (hx1 : x.toInt ≤ 8) (hsz : (i 36 2).toInt ≤ 40) : Met l yX12_keep wsX12_keep ({ frames := 0, cells := 0, slots := 0, locals := 0 }) (va_Pc [.ref (g 36), .int x] (sj_B D (hwc g ka i r L d) (hT ka) sz (gx ad (va_A (hwc g ka i r L d) sz)))) (sj_Qv (S := (Nat → Nat → Int32)) D (fun u => OkI u ∧ (∀ a b, ¬ (a = 416 ∨ a = 417) → u a b = i a b) ∧ ((u 417 x.toInt.toNat).toInt = (i 36 2).toInt) ∧ (∀ k : Nat, k ≠ x.toInt.toNat → u 417 k = i 417 k) ∧ (∀ k : Nat, (k : Int) < (i 36 2).toInt → (u 416 ((40 * x.toInt).toNat + k)).toInt = (i 379 k).toInt) ∧ (∀ k : Nat, ((k : Int) < 40 * x.toInt ∨ 40 * x.toInt + 40 ≤ (k : Int)) → u 416 k = i 416 k)) (fun u => hwc g ka u r L d) (fun _ => []) (va_A (hwc g ka i r L d) sz)) 0 0 (va_A (hwc g ka i r L d) sz) := by
  refine x_met (Ex := gx ad) (cc := cX12_keep) (maxL := 3) (ret := none) (by decide) rfl (Nat.le_of_ble_eq_true rfl) ?_
  intro p e s m below meth c A ls hx hb hr hml hts hown hlocks hA hS hH hK hE hl
  have hown : s.vm.findClass RX12 = some m.cls := hown
  have in12 : ∀ w ∈ wsX120, w ∈ wsX12_keep := (fun _ h => (List.mem_cons_of_mem _ (List.mem_append_right _ h)))
  have wd0 := hts (.fieldLink RX12 394 "StoryDeskModel" "testSize" "[I") (List.mem_cons_of_mem _ (List.mem_append_left _ lm0))
  have wd1 := hts (.fieldLink RX12 7 "StoryDeskModel" "size" "I") (List.mem_cons_of_mem _ (List.mem_append_left _ lm1))
  have wd2 := hts (.fieldLink RX12 397 "StoryDeskModel" "tests" "[C") (List.mem_cons_of_mem _ (List.mem_append_left _ lm2))
  have wd3 := hts (.fieldLink RX12 12 "StoryDeskModel" "text" "[C") (List.mem_cons_of_mem _ (List.mem_append_left _ lm3))
  have hl : lv_has ls 3 [(0, .ref (g 36)), (1, .int x)] := hl
  have hK : va_K D vwCl (hT ka) s := hK
  have hb2 : (0 : Int) ≤ (i 36 2).toInt ∧ (i 36 2).toInt ≤ 480 := hO 36 2
  refine lv_aload_n hx hb dX12_keep_0 rfl (lv_at hl 0 rfl) ?_
  refine h_getr (ci := 12) (C := RX12) (F := TX12) (N := 86) hx hb hts in12 hown hK hH (by decide) (rfl : kd 36 = 12) (by decide) rfl 62 (by decide) wd0 (fun _ h9 => h9) (by decide) rfl (t := 417) (hR 36 62 rfl) (by decide) dX12_keep_1 ?_
  refine lv_iload_n hx hb dX12_keep_4 rfl (lv_at hl 1 rfl) ?_
  refine lv_aload_n hx hb dX12_keep_5 rfl (lv_at hl 0 rfl) ?_
  have bx_1 : (0 : Int) ≤ (i 36 2).toInt ∧ (i 36 2).toInt ≤ 480 := hO 36 2
  refine h_geti (ci := 12) (C := RX12) (F := TX12) (N := 86) hx hb hts in12 hown hK hH (by decide) (rfl : kd 36 = 12) (by decide) rfl 2 (by decide) wd1 (fun _ h9 => h9) (by decide) rfl dX12_keep_6 ?_
  have hO_2 := okp hO (n := 417) (k := (x.toInt).toNat) (v := (i 36 2)) (show (0 : Int) ≤ ((i 36 2) : Int32).toInt ∧ ((i 36 2) : Int32).toInt ≤ 40 from ⟨by omega, by omega⟩)
  refine h_iast hx hb hK hH hS (by decide) (rfl : kd 417 = 13) (s_vin (N := 9) (rfl : x.toInt = _) (rfl : ln 417 = 9) (by omega) (by omega)) dX12_keep_9 (fun H locs hH hS => ?_)
  rw [s_cl (show x.toInt = x.toInt by omega)] at hH
  refine lv_iconst (v := 0) hx hb dX12_keep_10 (by decide) ?_
  refine lv_istore_n (lv' := [(2, .int 0), (0, .ref (g 36)), (1, .int x)]) hx hb dX12_keep_11 rfl hl (by decide) rfl (fun ls hl => ?_)
  -- loop at 12
  have lp_3 : ∀ (fuel_lp_3 : Nat) (f : Int32) (j1 : Nat → Nat → Int32) (H : Heap) (locs : List Loc) (ls : Array Slot), (40 - f.toInt).toNat < fuel_lp_3 → (0 : Int) ≤ f.toInt ∧ f.toInt ≤ 40 → f.toInt ≤ (i 36 2).toInt → (∀ k : Nat, (k : Int) < f.toInt → (j1 416 ((40 * x.toInt).toNat + k)).toInt = (i 379 k).toInt) → (∀ k : Nat, ((k : Int) < 40 * x.toInt ∨ 40 * x.toInt + 40 ≤ (k : Int)) → j1 416 k = i 416 k) → OkI j1 → (∀ a b, ¬ (a = 416) → j1 a b = (up2 i 417 (x.toInt).toNat (i 36 2)) a b) → lv_has ls 3 [(2, .int f), (0, .ref (g 36)), (1, .int x)] → sj_H D A (hwc g ka j1 r L d) H → va_S A s.heap H locs → W p l e (headSpec wsX12_keep ({ frames := 0, cells := 0, slots := 0, locals := 0 })).room s m ([.ref (g 36), .int x] : List Value).toArray below meth c H locs 0 0 (MQ below (sj_Qv (S := (Nat → Nat → Int32)) D (fun u => OkI u ∧ (∀ a b, ¬ (a = 416 ∨ a = 417) → u a b = i a b) ∧ ((u 417 x.toInt.toNat).toInt = (i 36 2).toInt) ∧ (∀ k : Nat, k ≠ x.toInt.toNat → u 417 k = i 417 k) ∧ (∀ k : Nat, (k : Int) < (i 36 2).toInt → (u 416 ((40 * x.toInt).toNat + k)).toInt = (i 379 k).toInt) ∧ (∀ k : Nat, ((k : Int) < 40 * x.toInt ∨ 40 * x.toInt + 40 ≤ (k : Int)) → u 416 k = i 416 k)) (fun u => hwc g ka u r L d) (fun _ => []) A) ([.ref (g 36), .int x] : List Value).toArray s 0 0 A) (F0 m 12 ls []) := by
    intro fuel_lp_3
    induction fuel_lp_3 with
    | zero => intros; omega
    | succ fuel_lp_3 ih_lp_3 =>
      intro f j1 H locs ls hm hr_f hi_lp_3_0 hi_lp_3_1 hi_lp_3_2 hO_j1 hfr_j1 hl hH hS
      refine lv_iload_n hx hb dX12_keep_12 rfl (lv_at hl 0 rfl) ?_
      refine lv_aload_n hx hb dX12_keep_13 rfl (lv_at hl 1 rfl) ?_
      refine h_geti (ci := 12) (C := RX12) (F := TX12) (N := 86) hx hb hts in12 hown hK hH (by decide) (rfl : kd 36 = 12) (by decide) rfl 2 (by decide) wd1 (fun _ h9 => h9) (by decide) rfl dX12_keep_14 ?_
      refine sj_i (y := (i 36 2)) ((hfr_j1 36 2 (by omega)).trans (congrFun (up2_n _ _ (by decide)) _)) ?_
      refine lv_icmp_ge (tgt := 43) hx hb dX12_keep_17 (by decide) (fun c_4 => ?_) (fun c_4 => ?_)
      · skip
        have h_5 := s_le (rfl : (i 36 2).toInt = _) (rfl : f.toInt = _) c_4
        exact sj_vret hx hb hr hlocks hS j1 ⟨hO_j1, (fun a b ha => ((hfr_j1 a b (by omega)).trans (up2_o _ _ (by omega)))), (by rw [show j1 417 x.toInt.toNat = i 36 2 from (hfr_j1 417 _ (by omega)).trans (up2_at _ _ _ _)]), (fun k hk => (hfr_j1 417 k (by omega)).trans (up2_k _ _ hk)), (fun k hk => hi_lp_3_1 k (by omega)), hi_lp_3_2⟩ hH (sj_Knil hK) (Nat.le_of_ble_eq_true rfl) (Nat.le_of_ble_eq_true rfl) dX12_keep_43
      · skip
        have h_6 := s_nle (rfl : (i 36 2).toInt = _) (rfl : f.toInt = _) c_4
        refine lv_aload_n hx hb dX12_keep_20 rfl (lv_at hl 1 rfl) ?_
        refine h_getr (ci := 12) (C := RX12) (F := TX12) (N := 86) hx hb hts in12 hown hK hH (by decide) (rfl : kd 36 = 12) (by decide) rfl 61 (by decide) wd2 (fun _ h9 => h9) (by decide) rfl (t := 416) (hR 36 61 rfl) (by decide) dX12_keep_21 ?_
        refine lv_bipush (v := 40) hx hb dX12_keep_24 (by decide) ?_
        refine lv_iload_n hx hb dX12_keep_26 rfl (lv_at hl 2 rfl) ?_
        refine lv_imul hx hb dX12_keep_27 ?_
        obtain ⟨z_7, ez_7, hz_7⟩ := s_mul (show (40 : Int32).toInt = 40 from rfl) (rfl : x.toInt = _) (by omega) (by omega)
        refine sj_i ez_7 ?_
        refine lv_iload_n hx hb dX12_keep_28 rfl (lv_at hl 0 rfl) ?_
        refine lv_iadd hx hb dX12_keep_29 ?_
        obtain ⟨z_8, ez_8, hz_8⟩ := s_add (rfl : z_7.toInt = _) (rfl : f.toInt = _) (by omega) (by omega)
        refine sj_i ez_8 ?_
        refine lv_aload_n hx hb dX12_keep_30 rfl (lv_at hl 1 rfl) ?_
        refine h_getr (ci := 12) (C := RX12) (F := TX12) (N := 86) hx hb hts in12 hown hK hH (by decide) (rfl : kd 36 = 12) (by decide) rfl 1 (by decide) wd3 (fun _ h9 => h9) (by decide) rfl (t := 379) (hR 36 1 rfl) (by decide) dX12_keep_31 ?_
        refine lv_iload_n hx hb dX12_keep_34 rfl (lv_at hl 0 rfl) ?_
        have bx_9 : (0 : Int) ≤ (i 379 (f.toInt).toNat).toInt ∧ (i 379 (f.toInt).toNat).toInt ≤ 65535 := hO 379 (f.toInt).toNat
        refine h_cald hx hb hK hH (by decide) (rfl : kd 379 = 14) (s_vin (N := 480) (rfl : f.toInt = _) (rfl : ln 379 = 480) (by omega) (by omega)) dX12_keep_35 ?_
        have ek_10 : f.toNatClampNeg = (f.toInt).toNat := (s_cl (show f.toInt = f.toInt by omega))
        refine sj_i (y := (i 379 (f.toInt).toNat)) (by rw [ek_10]; exact ((hfr_j1 379 (f.toInt).toNat (by omega)).trans (congrFun (up2_n _ _ (by decide)) _))) ?_
        obtain ⟨z_11, ez_11⟩ : ∃ z, vp_nar .char (i 379 (f.toInt).toNat) = z := ⟨_, rfl⟩
        have hz_11 : z_11.toInt = (i 379 (f.toInt).toNat).toInt := by rw [← ez_11, s_narc (rfl : (i 379 (f.toInt).toNat).toInt = _) (by omega) (by omega)] <;> exact (rfl : (i 379 (f.toInt).toNat).toInt = _)
        have hO_12 := okp hO_j1 (n := 416) (k := (f.toInt + 40 * x.toInt).toNat) (v := z_11) (show (0 : Int) ≤ (z_11 : Int32).toInt ∧ (z_11 : Int32).toInt ≤ 65535 from ⟨by omega, by omega⟩)
        refine h_cast hx hb hK hH hS (by decide) (rfl : kd 416 = 14) (s_vin (N := 360) (rfl : z_8.toInt = _) (rfl : ln 416 = 360) (by omega) (by omega)) dX12_keep_36 (fun H locs hH hS => ?_)
        rw [ez_11] at hH
        rw [s_cl (show z_8.toInt = f.toInt + 40 * x.toInt by omega)] at hH
        obtain ⟨z_13, ez_13, hz_13⟩ := s_add (rfl : f.toInt = _) (show (1 : Int32).toInt = 1 from rfl) (by omega) (by omega)
        refine lv_iinc (v := z_13) (lv' := [(2, .int z_13), (0, .ref (g 36)), (1, .int x)]) hx hb dX12_keep_37 hl (k := 0) rfl ez_13 (by decide) rfl (fun ls hl => ?_)
        refine lv_goto (tgt := 12) hx hb dX12_keep_40 (by decide) ?_
        exact ih_lp_3 z_13 _ _ _ ls (by omega) (by omega) (by omega) (fun k hk => by
          by_cases q : (k : Int) < f.toInt
          · rw [show (up2 j1 416 (f.toInt + 40 * x.toInt).toNat z_11) 416 ((40 * x.toInt).toNat + k) = j1 416 ((40 * x.toInt).toNat + k) from up2_k _ _ (by omega)]; exact hi_lp_3_1 k q
          · rw [show (40 * x.toInt).toNat + k = (f.toInt + 40 * x.toInt).toNat by omega, up2_at, show k = (f.toInt).toNat by omega]; omega) (fun k hk => (up2_k _ _ (by omega)).trans (hi_lp_3_2 k hk)) hO_12 (fun a b ha => ((up2_o _ _ (by omega)).trans (hfr_j1 a b (by omega)))) (lv_sub hl [0, 1, 2] rfl) hH hS
  have hl_14 : (0 : Int32).toInt = 0 := rfl
  exact lp_3 _ 0 _ _ _ ls (Nat.lt_succ_self _) (by omega) (by omega) (fun k hk => by exfalso; have : (0 : Int32).toInt = 0 := rfl; omega) (fun k hk => congrFun (up2_n _ _ (by decide)) _) hO_2 (fun a b ha => rfl) (lv_sub hl [0, 1, 2] rfl) hH hS
