theorem stkS_s {f : Nat → Int32} {n : Int} {m : Nat} (h : n.toNat = m + 1) : stkS f n.toNat = (f m).toInt :: stkS f m := by rw [h]; rfl
theorem mneg_no {V : List Bool} {c : Int} {S : List Int} (h : c ≠ 33) : mneg V (c :: S) = (V, c :: S) := by
  show (if c = 33 then _ else _) = _
  rw [if_neg h]
theorem mneg_yes {V : List Bool} {S : List Int} : mneg V (33 :: S) = mneg (mapp 33 V) S := by
  show (if (33 : Int) = 33 then _ else _) = _
  rw [if_pos rfl]
theorem mneg_nil {V : List Bool} : mneg V [] = (V, []) := rfl
theorem dX12_negate_0 : decode cX12_negate 0 = .ok (.aload_n 0, 1) := by decide +kernel
theorem dX12_negate_1 : decode cX12_negate 1 = .ok (.getfield 369, 3) := by decide +kernel
theorem dX12_negate_4 : decode cX12_negate 4 = .ok (.ifCond .le 26, 3) := by decide +kernel
theorem dX12_negate_30 : decode cX12_negate 30 = .ok (.return_, 1) := by decide +kernel
theorem dX12_negate_7 : decode cX12_negate 7 = .ok (.aload_n 0, 1) := by decide +kernel
theorem dX12_negate_8 : decode cX12_negate 8 = .ok (.getfield 366, 3) := by decide +kernel
theorem dX12_negate_11 : decode cX12_negate 11 = .ok (.aload_n 0, 1) := by decide +kernel
theorem dX12_negate_12 : decode cX12_negate 12 = .ok (.getfield 369, 3) := by decide +kernel
theorem dX12_negate_15 : decode cX12_negate 15 = .ok (.iconst 1, 1) := by decide +kernel
theorem dX12_negate_16 : decode cX12_negate 16 = .ok (.isub, 1) := by decide +kernel
theorem dX12_negate_17 : decode cX12_negate 17 = .ok (.caload, 1) := by decide +kernel
theorem dX12_negate_18 : decode cX12_negate 18 = .ok (.bipush 33, 2) := by decide +kernel
theorem dX12_negate_20 : decode cX12_negate 20 = .ok (.if_icmp .ne 10, 3) := by decide +kernel
theorem dX12_negate_23 : decode cX12_negate 23 = .ok (.aload_n 0, 1) := by decide +kernel
theorem dX12_negate_24 : decode cX12_negate 24 = .ok (.invokevirtual 378, 3) := by decide +kernel
theorem dX12_negate_27 : decode cX12_negate 27 = .ok (.goto (-27), 3) := by decide +kernel
theorem gw_X12_applyTop : wsX12_applyTop.all goodWord = true := by decide +kernel
theorem gX12_negate_X12_applyTop : GoodIn wsX12_negate (wsV RX12 378 RX12 yX12_applyTop wsX12_applyTop) := goodIn_app (goodIn_sub (List.forall_mem_cons.mpr ⟨(List.mem_cons_of_mem _ (List.mem_append_left _ lm2)), List.forall_mem_cons.mpr ⟨(List.mem_cons_of_mem _ (List.mem_append_left _ lm3)), List.forall_mem_cons.mpr ⟨(List.mem_cons_of_mem _ (List.mem_append_left _ lm4)), List.forall_mem_cons.mpr ⟨(List.mem_cons_of_mem _ (List.mem_append_left _ lm5)), (fun _ h => absurd h List.not_mem_nil)⟩⟩⟩⟩) (by decide +kernel)) (goodIn_sub (by unfold wsX12_applyTop; exact List.forall_mem_cons.mpr ⟨(List.mem_cons_of_mem _ (List.mem_append_left _ lm6)), List.forall_mem_append.mpr ⟨List.forall_mem_cons.mpr ⟨(List.mem_cons_of_mem _ (List.mem_append_left _ lm1)), List.forall_mem_cons.mpr ⟨(List.mem_cons_of_mem _ (List.mem_append_left _ lm0)), List.forall_mem_cons.mpr ⟨(List.mem_cons_of_mem _ (List.mem_append_left _ lm7)), List.forall_mem_cons.mpr ⟨(List.mem_cons_of_mem _ (List.mem_append_left _ lm8)), (fun _ h => absurd h List.not_mem_nil)⟩⟩⟩⟩, (fun _ h => (List.mem_cons_of_mem _ (List.mem_append_right _ h)))⟩⟩) gw_X12_applyTop)
set_option maxHeartbeats 2000000 in
set_option maxRecDepth 100000 in
theorem m_negate (l : Launch) (D : va_G) (g : Nat → Nat) (ka : Nat → ClassId) (ad : Nat → Nat) (i : Nat → Nat → Int32) (r : Nat → Nat → Nat) (L : Nat → Nat → Int64) (d : Nat → Nat → UInt64)  (hO : OkI i) (hR : RS r) (sz : Nat) (hv1 : 1 ≤ (i 36 65).toInt) : Met l yX12_negate wsX12_negate ({ frames := 1, cells := 0, slots := 0, locals := 21 }) (va_Pc [.ref (g 36)] (sj_B D (hwc g ka i r L d) (hT ka) sz (gx ad (va_A (hwc g ka i r L d) sz)))) (sj_Qv (S := (Nat → Nat → Int32)) D (fun u => OkI u ∧ (∀ a b, ¬ ((a = 36 ∧ (b = 65 ∨ b = 66)) ∨ a = 418) → u a b = i a b) ∧ ((u 36 65).toInt = (i 36 65).toInt ∧ (u 36 66).toInt ≤ (i 36 66).toInt) ∧ (mneg (stkV (i 418) (i 36 65).toInt.toNat) (stkS (i 419) (i 36 66).toInt.toNat) = ((stkV (u 418) (u 36 65).toInt.toNat), (stkS (i 419) (u 36 66).toInt.toNat)))) (fun u => hwc g ka u r L d) (fun _ => []) (va_A (hwc g ka i r L d) sz)) 0 0 (va_A (hwc g ka i r L d) sz) := by
  refine x_met (Ex := gx ad) (cc := cX12_negate) (maxL := 1) (ret := none) (by decide) rfl (Nat.le_of_ble_eq_true rfl) ?_
  intro p e s m below meth c A ls hx hb hr hml hts hown hlocks hA hS hH hK hE hl
  have hown : s.vm.findClass RX12 = some m.cls := hown
  have in12 : ∀ w ∈ wsX120, w ∈ wsX12_negate := (fun _ h => (List.mem_cons_of_mem _ (List.mem_append_right _ h)))
  have wd0 := hts (.fieldLink RX12 369 "StoryDeskModel" "signed" "I") (List.mem_cons_of_mem _ (List.mem_append_left _ lm0))
  have wd1 := hts (.fieldLink RX12 366 "StoryDeskModel" "signs" "[C") (List.mem_cons_of_mem _ (List.mem_append_left _ lm1))
  have hl : lv_has ls 1 [(0, .ref (g 36))] := hl
  have hK : va_K D vwCl (hT ka) s := hK
  -- loop at 0
  have lp_1 : ∀ (fuel_lp_1 : Nat)  (j1 : Nat → Nat → Int32) (H : Heap) (locs : List Loc) (ls : Array Slot), ((j1 36 66).toInt).toNat < fuel_lp_1 → (j1 36 65).toInt = (i 36 65).toInt ∧ (j1 36 66).toInt ≤ (i 36 66).toInt → mneg (stkV (j1 418) (j1 36 65).toInt.toNat) (stkS (i 419) (j1 36 66).toInt.toNat) = mneg (stkV (i 418) (i 36 65).toInt.toNat) (stkS (i 419) (i 36 66).toInt.toNat) → OkI j1 → (∀ a b, ¬ ((a = 36 ∧ (b = 65 ∨ b = 66)) ∨ a = 418) → j1 a b = i a b) → lv_has ls 1 [(0, .ref (g 36))] → sj_H D A (hwc g ka j1 r L d) H → va_S A s.heap H locs → W p l e (headSpec wsX12_negate ({ frames := 1, cells := 0, slots := 0, locals := 21 })).room s m ([.ref (g 36)] : List Value).toArray below meth c H locs 0 0 (MQ below (sj_Qv (S := (Nat → Nat → Int32)) D (fun u => OkI u ∧ (∀ a b, ¬ ((a = 36 ∧ (b = 65 ∨ b = 66)) ∨ a = 418) → u a b = i a b) ∧ ((u 36 65).toInt = (i 36 65).toInt ∧ (u 36 66).toInt ≤ (i 36 66).toInt) ∧ (mneg (stkV (i 418) (i 36 65).toInt.toNat) (stkS (i 419) (i 36 66).toInt.toNat) = ((stkV (u 418) (u 36 65).toInt.toNat), (stkS (i 419) (u 36 66).toInt.toNat)))) (fun u => hwc g ka u r L d) (fun _ => []) A) ([.ref (g 36)] : List Value).toArray s 0 0 A) (F0 m 0 ls []) := by
    intro fuel_lp_1
    induction fuel_lp_1 with
    | zero => intros; omega
    | succ fuel_lp_1 ih_lp_1 =>
      intro j1 H locs ls hm hi_lp_1_0 hi_lp_1_1 hO_j1 hfr_j1 hl hH hS
      refine lv_aload_n hx hb dX12_negate_0 rfl (lv_at hl 0 rfl) ?_
      have bx_2 : (0 : Int) ≤ (j1 36 66).toInt ∧ (j1 36 66).toInt ≤ 42 := hO_j1 36 66
      refine h_geti (ci := 12) (C := RX12) (F := TX12) (N := 86) hx hb hts in12 hown hK hH (by decide) (rfl : kd 36 = 12) (by decide) rfl 66 (by decide) wd0 (fun _ h9 => h9) (by decide) rfl dX12_negate_1 ?_
      refine lv_if_le (tgt := 30) hx hb dX12_negate_4 (by decide) (fun c_3 => ?_) (fun c_3 => ?_)
      · skip
        have h_4 := s_le (rfl : (j1 36 66).toInt = _) (show (0 : Int32).toInt = 0 from rfl) c_3
        have hq_5 : j1 36 65 = (j1 36 65) := rfl
        have hq_5i := congrArg Int32.toInt hq_5
        have hq_6 : j1 36 66 = (j1 36 66) := rfl
        have hq_6i := congrArg Int32.toInt hq_6
        exact sj_vret hx hb hr hlocks hS j1 ⟨hO_j1, (fun a b ha => (hfr_j1 a b (by omega))), (by first | omega | (refine ⟨?_, ?_⟩ <;> first | assumption | omega)), (by
          have h9 := hi_lp_1_1
          by_cases q : (j1 36 66).toInt ≤ 0
          · rw [show (j1 36 66).toInt.toNat = 0 by omega] at h9 ⊢
            exact h9.symm
          · rw [stkS_s (f := i 419) (n := (j1 36 66).toInt) (m := ((j1 36 66).toInt - 1).toNat) (by omega), mneg_no (by omega), ← stkS_s (f := i 419) (n := (j1 36 66).toInt) (m := ((j1 36 66).toInt - 1).toNat) (by omega)] at h9
            exact h9.symm)⟩ hH (sj_Knil hK) (Nat.le_of_ble_eq_true rfl) (Nat.le_of_ble_eq_true rfl) dX12_negate_30
      · skip
        have h_7 := s_nle (rfl : (j1 36 66).toInt = _) (show (0 : Int32).toInt = 0 from rfl) c_3
        refine lv_aload_n hx hb dX12_negate_7 rfl (lv_at hl 0 rfl) ?_
        refine h_getr (ci := 12) (C := RX12) (F := TX12) (N := 86) hx hb hts in12 hown hK hH (by decide) (rfl : kd 36 = 12) (by decide) rfl 64 (by decide) wd1 (fun _ h9 => h9) (by decide) rfl (t := 419) (hR 36 64 rfl) (by decide) dX12_negate_8 ?_
        refine lv_aload_n hx hb dX12_negate_11 rfl (lv_at hl 0 rfl) ?_
        refine h_geti (ci := 12) (C := RX12) (F := TX12) (N := 86) hx hb hts in12 hown hK hH (by decide) (rfl : kd 36 = 12) (by decide) rfl 66 (by decide) wd0 (fun _ h9 => h9) (by decide) rfl dX12_negate_12 ?_
        refine lv_iconst (v := 1) hx hb dX12_negate_15 (by decide) ?_
        refine lv_isub hx hb dX12_negate_16 ?_
        obtain ⟨z_8, ez_8, hz_8⟩ := s_sub (rfl : (j1 36 66).toInt = _) (show (1 : Int32).toInt = 1 from rfl) (by omega) (by omega)
        refine sj_i ez_8 ?_
        have bx_9 : (0 : Int) ≤ (i 419 ((j1 36 66).toInt - 1).toNat).toInt ∧ (i 419 ((j1 36 66).toInt - 1).toNat).toInt ≤ 65535 := hO 419 ((j1 36 66).toInt - 1).toNat
        refine h_cald hx hb hK hH (by decide) (rfl : kd 419 = 14) (s_vin (N := 42) (rfl : z_8.toInt = _) (rfl : ln 419 = 42) (by omega) (by omega)) dX12_negate_17 ?_
        have ek_10 : z_8.toNatClampNeg = ((j1 36 66).toInt - 1).toNat := (s_cl (show z_8.toInt = (j1 36 66).toInt - 1 by omega))
        refine sj_i (y := (i 419 ((j1 36 66).toInt - 1).toNat)) (by rw [ek_10]; exact (hfr_j1 419 ((j1 36 66).toInt - 1).toNat (by omega))) ?_
        refine lv_bipush (v := 33) hx hb dX12_negate_18 (by decide) ?_
        refine lv_icmp_ne (tgt := 30) hx hb dX12_negate_20 (by decide) (fun c_11 => ?_) (fun c_11 => ?_)
        · skip
          have h_12 := s_ne (rfl : (i 419 ((j1 36 66).toInt - 1).toNat).toInt = _) (show (33 : Int32).toInt = 33 from rfl) c_11
          have hq_13 : j1 36 65 = (j1 36 65) := rfl
          have hq_13i := congrArg Int32.toInt hq_13
          have hq_14 : j1 36 66 = (j1 36 66) := rfl
          have hq_14i := congrArg Int32.toInt hq_14
          exact sj_vret hx hb hr hlocks hS j1 ⟨hO_j1, (fun a b ha => (hfr_j1 a b (by omega))), (by first | omega | (refine ⟨?_, ?_⟩ <;> first | assumption | omega)), (by
          have h9 := hi_lp_1_1
          by_cases q : (j1 36 66).toInt ≤ 0
          · rw [show (j1 36 66).toInt.toNat = 0 by omega] at h9 ⊢
            exact h9.symm
          · rw [stkS_s (f := i 419) (n := (j1 36 66).toInt) (m := ((j1 36 66).toInt - 1).toNat) (by omega), mneg_no (by omega), ← stkS_s (f := i 419) (n := (j1 36 66).toInt) (m := ((j1 36 66).toInt - 1).toNat) (by omega)] at h9
            exact h9.symm)⟩ hH (sj_Knil hK) (Nat.le_of_ble_eq_true rfl) (Nat.le_of_ble_eq_true rfl) dX12_negate_30
        · skip
          have h_15 := s_eq (rfl : (i 419 ((j1 36 66).toInt - 1).toNat).toInt = _) (show (33 : Int32).toInt = 33 from rfl) c_11
          refine lv_aload_n hx hb dX12_negate_23 rfl (lv_at hl 0 rfl) ?_
          have hj9 : (j1 419 ((j1 36 66).toInt - 1).toNat).toInt = (i 419 ((j1 36 66).toInt - 1).toNat).toInt := congrArg Int32.toInt (hfr_j1 419 ((j1 36 66).toInt - 1).toNat (by omega))
          refine x_callv (va_runV (As := []) (rest := []) ⟨hx, hb, hml, hown, hts⟩ (m_applyTop l D g ka ad j1 r L d  hO_j1 hR H.size (by first | omega | decide) (by first | omega | decide)) (cwV 0 hts gX12_negate_X12_applyTop rfl rfl rfl (by decide +kernel) ⟨(Nat.le_of_ble_eq_true rfl), (Nat.le_of_ble_eq_true rfl)⟩) (x_preV (q := (RX12, TX12, 86)) hH hK (q_obj (by decide) (rfl : kd 36 = 12) (by decide)) rfl gxb (gxw hE hS (x_F hH hS hA))) rfl rfl hl.1 rfl (lv_room (Nat.le_of_ble_eq_true rfl)) dX12_negate_24 ⟨(Nat.le_of_ble_eq_true rfl), (Nat.le_of_ble_eq_true rfl)⟩) hH hS hA rfl rfl (fun im_18 H locs hw_17 hH hS => ?_)
          have hH : sj_H D A (hwc g ka im_18 r L d) H := hH
          obtain ⟨hO_20, hfr_19, he_21, hx2_22⟩ := hw_17
          refine lv_goto (tgt := 0) hx hb dX12_negate_27 (by decide) ?_
          exact ih_lp_1  _ _ _ ls (by omega) (by omega) (by
          have h9 := hi_lp_1_1
          rw [stkS_s (f := i 419) (n := (j1 36 66).toInt) (m := ((j1 36 66).toInt - 1).toNat) (by omega), show (i 419 ((j1 36 66).toInt - 1).toNat).toInt = 33 by omega, mneg_yes] at h9
          rw [hx2_22, show (j1 419 ((j1 36 66).toInt - 1).toNat).toInt = 33 by rw [show j1 419 ((j1 36 66).toInt - 1).toNat = i 419 ((j1 36 66).toInt - 1).toNat from hfr_j1 419 _ (by omega)]; omega, show (im_18 36 66).toInt.toNat = ((j1 36 66).toInt - 1).toNat by omega]
          exact h9) hO_20 (fun a b ha => ((hfr_19 a b (by omega)).trans (hfr_j1 a b (by omega)))) (lv_sub hl [0] rfl) hH hS
  exact lp_1 _  _ _ _ ls (Nat.lt_succ_self _) (by omega) rfl hO (fun a b ha => rfl) (lv_sub hl [0] rfl) hH hS
