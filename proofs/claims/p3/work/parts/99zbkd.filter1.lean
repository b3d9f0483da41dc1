
set_option maxHeartbeats 2000000 in
set_option maxRecDepth 100000 in
theorem mv_filter1 (l : Launch) (D : va_G) (g : Nat → Nat) (ka : Nat → ClassId) (ad : Nat → Nat) (i : Nat → Nat → Int32) (r : Nat → Nat → Nat) (L : Nat → Nat → Int64) (d : Nat → Nat → UInt64)  (hO : OkI i) (hR : RS r) (sz : Nat) (hb76 : (i 36 76).toInt = 0) : Met l yX12_filter wsX12_filter ({ frames := 6, cells := 0, slots := 0, locals := 135 }) (va_Pc [.ref (g 36)] (sj_B D (hwc g ka i r L d) (hT ka) sz (gx ad (va_A (hwc g ka i r L d) sz)))) (sj_Qi (S := (Nat → Nat → Int32)) D (fun v u => OkI u ∧ (∀ a b, ¬ ((a = 36 ∧ (b = 0 ∨ b = 2 ∨ b = 65 ∨ b = 66)) ∨ a = 416 ∨ a = 417 ∨ a = 418 ∨ a = 419) → u a b = i a b) ∧ ((u 36 2).toInt = 0) ∧ (ftM i u) ∧ (((u 36 0).toInt = 0 ∧ mTk i ∧ v.toInt = (cnl (mcw u) (i 36 33).toInt.toNat : Int)) ∨ ((u 36 0).toInt = 2 ∧ ¬ mTk i))) (fun u => hwc g ka u r L d) (fun _ => []) (va_A (hwc g ka i r L d) sz)) 0 0 (va_A (hwc g ka i r L d) sz) := by
  refine x_met (Ex := gx ad) (cc := cX12_filter) (maxL := 1) (ret := (some .int)) (by decide) rfl (Nat.le_of_ble_eq_true rfl) ?_
  intro p e s m below meth c A ls hx hb hr hml hts hown hlocks hA hS hH hK hE hl
  have hown : s.vm.findClass RX12 = some m.cls := hown
  have in12 : ∀ w ∈ wsX120, w ∈ wsX12_filter := (fun _ h => (List.mem_cons_of_mem _ (List.mem_append_right _ h)))
  have wd0 := hts (.fieldLink RX12 12 "StoryDeskModel" "text" "[C") (List.mem_cons_of_mem _ (List.mem_append_left _ (List.mem_append_left _ lm0)))
  have wd1 := hts (.fieldLink RX12 7 "StoryDeskModel" "size" "I") (List.mem_cons_of_mem _ (List.mem_append_left _ (List.mem_append_left _ lm1)))
  have wd2 := hts (.fieldLink RX12 1 "StoryDeskModel" "thrown" "I") (List.mem_cons_of_mem _ (List.mem_append_left _ (List.mem_append_left _ lm2)))
  have hl : lv_has ls 1 [(0, .ref (g 36))] := hl
  have hK : va_K D vwCl (hT ka) s := hK
  have hb2 : (0 : Int) ≤ (i 36 2).toInt ∧ (i 36 2).toInt ≤ 480 := hO 36 2
  refine lv_aload_n hx hb dX12_filter_0 rfl (lv_at hl 0 rfl) ?_
  refine x_calli (va_runV (As := []) (rest := []) ⟨hx, hb, hml, hown, hts⟩ (mv_busy l D g ka ad i r L d  hO hR s.heap.size ) (cwV 0 hts gX12_filter_X12_busy rfl rfl rfl (by decide +kernel) ⟨(Nat.le_of_ble_eq_true rfl), (Nat.le_of_ble_eq_true rfl)⟩) (x_preV (q := (RX12, TX12, 86)) hH hK (q_obj (by decide) (rfl : kd 36 = 12) (by decide)) rfl gxb (gxw hE hS (x_F hH hS hA))) rfl rfl hl.1 rfl (lv_room (Nat.le_of_ble_eq_true rfl)) dX12_filter_1 ⟨(Nat.le_of_ble_eq_true rfl), (Nat.le_of_ble_eq_true rfl)⟩) hH hS hA rfl rfl (fun r_1 im_3 H locs hw_2 hH hS => ?_)
  have hH : sj_H D A (hwc g ka im_3 r L d) H := hH
  obtain ⟨hO_5, hfr_4, hr_6, he_7⟩ := hw_2
  have hr_6 : (0 : Int) ≤ r_1.toInt ∧ r_1.toInt ≤ 1 := hr_6
  refine lv_if_eq (tgt := 9) hx hb dX12_filter_4 (by decide) (fun _ => ?_) (fun h => absurd (p_eq (rfl : r_1.toInt = _) (show (0 : Int32).toInt = 0 from rfl) (by omega)) h)
  refine lv_aload_n hx hb dX12_filter_9 rfl (lv_at hl 0 rfl) ?_
  refine lv_aload_n hx hb dX12_filter_10 rfl (lv_at hl 0 rfl) ?_
  refine lv_aload_n hx hb dX12_filter_11 rfl (lv_at hl 0 rfl) ?_
  refine h_getr (ci := 12) (C := RX12) (F := TX12) (N := 86) hx hb hts in12 hown hK hH (by decide) (rfl : kd 36 = 12) (by decide) rfl 1 (by decide) wd0 (fun _ h9 => h9) (by decide) rfl (t := 379) (hR 36 1 rfl) (by decide) dX12_filter_12 ?_
  refine lv_iconst (v := 0) hx hb dX12_filter_15 (by decide) ?_
  refine lv_aload_n hx hb dX12_filter_16 rfl (lv_at hl 0 rfl) ?_
  have bx_8 : (0 : Int) ≤ (i 36 2).toInt ∧ (i 36 2).toInt ≤ 480 := hO 36 2
  refine h_geti (ci := 12) (C := RX12) (F := TX12) (N := 86) hx hb hts in12 hown hK hH (by decide) (rfl : kd 36 = 12) (by decide) rfl 2 (by decide) wd1 (fun _ h9 => h9) (by decide) rfl dX12_filter_17 ?_
  refine sj_i (y := (i 36 2)) (hfr_4 36 2 (by omega)) ?_
  refine lv_iconst (v := 0) hx hb dX12_filter_20 (by decide) ?_
  have hl_9 : (0 : Int32).toInt = 0 := rfl
  have hl_10 : (0 : Int32).toInt = 0 := rfl
  refine x_calli (va_runV (As := [.ref (g 379), .int 0, .int (i 36 2), .int 0]) (rest := [.ref (g 36)]) ⟨hx, hb, hml, hown, hts⟩ (m_test_text l D g ka ad im_3 r L d 0 (i 36 2) 0 hO_5 hR H.size (by first | omega | decide) (by first | omega | decide) (by first | omega | decide) (by first | omega | decide) (by first | omega | decide)) (cwV 4 hts gX12_filter_X12_test rfl rfl rfl (by decide +kernel) ⟨(Nat.le_of_ble_eq_true rfl), (Nat.le_of_ble_eq_true rfl)⟩) (x_preV (q := (RX12, TX12, 86)) hH hK (q_obj (by decide) (rfl : kd 36 = 12) (by decide)) rfl gxb (gxw hE hS (x_F hH hS hA))) rfl rfl hl.1 rfl (lv_room (Nat.le_of_ble_eq_true rfl)) dX12_filter_21 ⟨(Nat.le_of_ble_eq_true rfl), (Nat.le_of_ble_eq_true rfl)⟩) hH hS hA rfl rfl (fun r_11 im_13 H locs hw_12 hH hS => ?_)
  have hH : sj_H D A (hwc g ka im_13 r L d) H := hH
  obtain ⟨hO_15, hfr_14, hr_16, hx2_17, hx2_18, hx2_19⟩ := hw_12
  have hr_16 : (-1 : Int) ≤ r_11.toInt ∧ r_11.toInt ≤ 1 := hr_16
  have e379 : im_3 379 = i 379 := funext fun b9 => (hfr_4 379 b9 (by omega))
  rw [e379] at hx2_18
  rw [e379] at hx2_19
  have htk := mTk_v (i := i) (v := (r_11 : Int32).toInt) rfl (hx2_17) (hx2_18) (hx2_19)
  refine lv_if_lt (tgt := 31) hx hb dX12_filter_24 (by decide) (fun c_20 => ?_) (fun c_20 => ?_)
  · skip
    have h_21 := s_lt (rfl : r_11.toInt = _) (show (0 : Int32).toInt = 0 from rfl) c_20
    have hnk := (htk.resolve_left (fun q => by have := q.1; omega)).2
    refine lv_iconst (v := 2) hx hb dX12_filter_31 (by decide) ?_
    have hO_22 := okp hO_15 (n := 36) (k := 0) (v := 2) (show (0 : Int) ≤ (2 : Int32).toInt ∧ (2 : Int32).toInt ≤ 3 from ⟨by decide, by decide⟩)
    refine h_puti (ty := .int) (ci := 12) (C := RX12) (F := TX12) (N := 86) hx hb hts in12 tyX12 tyX12_ok nmX12 hown hK hH hS (by decide) (rfl : kd 36 = 12) (by decide) rfl 0 (by decide) wd2 (fun _ h9 => h9) rfl (by decide +kernel) rfl rfl (by decide) rfl dX12_filter_32 (fun H locs hH hS => ?_)
    refine lv_aload_n hx hb dX12_filter_35 rfl (lv_at hl 0 rfl) ?_
    refine h_geti (ci := 12) (C := RX12) (F := TX12) (N := 86) hx hb hts in12 hown hK hH (by decide) (rfl : kd 36 = 12) (by decide) rfl 0 (by decide) wd2 (fun _ h9 => h9) (by decide) rfl dX12_filter_36 ?_
    refine sj_i (y := 2) (up2_at _ _ _ _) ?_
    refine lv_if_ne (tgt := 48) hx hb dX12_filter_39 (by decide) (fun _ => ?_) (fun h => absurd h (by decide))
    refine lv_aload_n hx hb dX12_filter_48 rfl (lv_at hl 0 rfl) ?_
    refine lv_iconst (v := 0) hx hb dX12_filter_49 (by decide) ?_
    have hO_23 := okp hO_22 (n := 36) (k := 2) (v := 0) (show (0 : Int) ≤ (0 : Int32).toInt ∧ (0 : Int32).toInt ≤ 480 from ⟨by decide, by decide⟩)
    refine h_puti (ty := .int) (ci := 12) (C := RX12) (F := TX12) (N := 86) hx hb hts in12 tyX12 tyX12_ok nmX12 hown hK hH hS (by decide) (rfl : kd 36 = 12) (by decide) rfl 2 (by decide) wd1 (fun _ h9 => h9) rfl (by decide +kernel) rfl rfl (by decide) rfl dX12_filter_50 (fun H locs hH hS => ?_)
    refine lv_aload_n hx hb dX12_filter_53 rfl (lv_at hl 0 rfl) ?_
    refine h_geti (ci := 12) (C := RX12) (F := TX12) (N := 86) hx hb hts in12 hown hK hH (by decide) (rfl : kd 36 = 12) (by decide) rfl 0 (by decide) wd2 (fun _ h9 => h9) (by decide) rfl dX12_filter_54 ?_
    refine sj_i (y := 2) ((up2_k _ _ (by decide)).trans (up2_at _ _ _ _)) ?_
    refine lv_if_le (tgt := 64) hx hb dX12_filter_57 (by decide) (fun h => absurd h (by decide)) (fun _ => ?_)
    refine lv_iconst (v := 0) hx hb dX12_filter_60 (by decide) ?_
    refine lv_goto (tgt := 68) hx hb dX12_filter_61 (by decide) ?_
    have hp_24 : ((up2 (up2 im_13 36 0 2) 36 2 0) 36 2).toInt = (0 : Int32).toInt := congrArg Int32.toInt ((up2_at _ _ _ _))
    have hl_25 : (0 : Int32).toInt = 0 := rfl
    have hV_26 : ((up2 (up2 im_13 36 0 2) 36 2 0) 36 2).toInt = 0 := (by omega)
    have hV_27 : ftM i (up2 (up2 im_13 36 0 2) 36 2 0) := (Or.inl ⟨fun q => hnk q, (funext fun b9 => ((up2_o _ _ (by omega)).trans ((up2_o _ _ (by omega)).trans ((hfr_14 416 b9 (by omega)).trans (hfr_4 416 b9 (by omega)))))), (funext fun b9 => ((up2_o _ _ (by omega)).trans ((up2_o _ _ (by omega)).trans ((hfr_14 417 b9 (by omega)).trans (hfr_4 417 b9 (by omega))))))⟩)
    have hp_28 : ((up2 (up2 im_13 36 0 2) 36 2 0) 36 0).toInt = (2 : Int32).toInt := congrArg Int32.toInt (((up2_k _ _ (by decide)).trans (up2_at _ _ _ _)))
    have hl_29 : (2 : Int32).toInt = 2 := rfl
    have hV_30 : (((up2 (up2 im_13 36 0 2) 36 2 0) 36 0).toInt = 0 ∧ mTk i ∧ (0 : Int32).toInt = (cnl (mcw (up2 (up2 im_13 36 0 2) 36 2 0)) (i 36 33).toInt.toNat : Int)) ∨ (((up2 (up2 im_13 36 0 2) 36 2 0) 36 0).toInt = 2 ∧ ¬ mTk i) := (Or.inr ⟨by omega, hnk⟩)
    exact sj_zret hx hb hr hlocks rfl hS (up2 (up2 im_13 36 0 2) 36 2 0) ⟨hO_23, (fun a b ha => ((up2_o _ _ (by omega)).trans ((up2_o _ _ (by omega)).trans ((hfr_14 a b (by omega)).trans (hfr_4 a b (by omega)))))), hV_26, hV_27, hV_30⟩ hH (sj_Knil hK) (Nat.le_of_ble_eq_true rfl) (Nat.le_of_ble_eq_true rfl) dX12_filter_68
  · skip
    have h_31 := s_nlt (rfl : r_11.toInt = _) (show (0 : Int32).toInt = 0 from rfl) c_20
    have hkt := (htk.resolve_right (fun q => by have := q.1; omega)).2
    have hkt1 := hkt.1
    refine lv_iconst (v := 0) hx hb dX12_filter_27 (by decide) ?_
    refine lv_goto (tgt := 32) hx hb dX12_filter_28 (by decide) ?_
    have hO_32 := okp hO_15 (n := 36) (k := 0) (v := 0) (show (0 : Int) ≤ (0 : Int32).toInt ∧ (0 : Int32).toInt ≤ 3 from ⟨by decide, by decide⟩)
    refine h_puti (ty := .int) (ci := 12) (C := RX12) (F := TX12) (N := 86) hx hb hts in12 tyX12 tyX12_ok nmX12 hown hK hH hS (by decide) (rfl : kd 36 = 12) (by decide) rfl 0 (by decide) wd2 (fun _ h9 => h9) rfl (by decide +kernel) rfl rfl (by decide) rfl dX12_filter_32 (fun H locs hH hS => ?_)
    refine lv_aload_n hx hb dX12_filter_35 rfl (lv_at hl 0 rfl) ?_
    refine h_geti (ci := 12) (C := RX12) (F := TX12) (N := 86) hx hb hts in12 hown hK hH (by decide) (rfl : kd 36 = 12) (by decide) rfl 0 (by decide) wd2 (fun _ h9 => h9) (by decide) rfl dX12_filter_36 ?_
    refine sj_i (y := 0) (up2_at _ _ _ _) ?_
    refine lv_if_ne (tgt := 48) hx hb dX12_filter_39 (by decide) (fun h => absurd (by decide) h) (fun _ => ?_)
    refine lv_aload_n hx hb dX12_filter_42 rfl (lv_at hl 0 rfl) ?_
    refine lv_bipush (v := 8) hx hb dX12_filter_43 (by decide) ?_
    have hl_33 : (8 : Int32).toInt = 8 := rfl
    have hp_34 : ((up2 im_13 36 0 0) 36 2).toInt = ((i 36 2) : Int32).toInt := congrArg Int32.toInt (((up2_k _ _ (by decide)).trans ((hfr_14 36 2 (by omega)).trans (hfr_4 36 2 (by omega)))))
    refine x_callv (va_runV (As := [.int 8]) (rest := []) ⟨hx, hb, hml, hown, hts⟩ (m_keep l D g ka ad (up2 im_13 36 0 0) r L d 8 hO_32 hR H.size (by first | omega | decide) (by first | omega | decide) (by omega)) (cwV 1 hts gX12_filter_X12_keep rfl rfl rfl (by decide +kernel) ⟨(Nat.le_of_ble_eq_true rfl), (Nat.le_of_ble_eq_true rfl)⟩) (x_preV (q := (RX12, TX12, 86)) hH hK (q_obj (by decide) (rfl : kd 36 = 12) (by decide)) rfl gxb (gxw hE hS (x_F hH hS hA))) rfl rfl hl.1 rfl (lv_room (Nat.le_of_ble_eq_true rfl)) dX12_filter_45 ⟨(Nat.le_of_ble_eq_true rfl), (Nat.le_of_ble_eq_true rfl)⟩) hH hS hA rfl rfl (fun im_37 H locs hw_36 hH hS => ?_)
    have hH : sj_H D A (hwc g ka im_37 r L d) H := hH
    obtain ⟨hO_39, hfr_38, hx2_40, hx2_41, hx2_42, hx2_43⟩ := hw_36
    refine lv_aload_n hx hb dX12_filter_48 rfl (lv_at hl 0 rfl) ?_
    refine lv_iconst (v := 0) hx hb dX12_filter_49 (by decide) ?_
    have hO_44 := okp hO_39 (n := 36) (k := 2) (v := 0) (show (0 : Int) ≤ (0 : Int32).toInt ∧ (0 : Int32).toInt ≤ 480 from ⟨by decide, by decide⟩)
    refine h_puti (ty := .int) (ci := 12) (C := RX12) (F := TX12) (N := 86) hx hb hts in12 tyX12 tyX12_ok nmX12 hown hK hH hS (by decide) (rfl : kd 36 = 12) (by decide) rfl 2 (by decide) wd1 (fun _ h9 => h9) rfl (by decide +kernel) rfl rfl (by decide) rfl dX12_filter_50 (fun H locs hH hS => ?_)
    refine lv_aload_n hx hb dX12_filter_53 rfl (lv_at hl 0 rfl) ?_
    refine h_geti (ci := 12) (C := RX12) (F := TX12) (N := 86) hx hb hts in12 hown hK hH (by decide) (rfl : kd 36 = 12) (by decide) rfl 0 (by decide) wd2 (fun _ h9 => h9) (by decide) rfl dX12_filter_54 ?_
    refine sj_i (y := 0) ((up2_k _ _ (by decide)).trans ((hfr_38 36 0 (by omega)).trans (up2_at _ _ _ _))) ?_
    refine lv_if_le (tgt := 64) hx hb dX12_filter_57 (by decide) (fun _ => ?_) (fun h => absurd (by decide) h)
    refine lv_aload_n hx hb dX12_filter_64 rfl (lv_at hl 0 rfl) ?_
    refine x_calli (va_runV (As := []) (rest := []) ⟨hx, hb, hml, hown, hts⟩ (mv_wanted l D g ka ad (up2 im_37 36 2 0) r L d  hO_44 hR H.size ) (cwV 0 hts gX12_filter_X12_wanted rfl rfl rfl (by decide +kernel) ⟨(Nat.le_of_ble_eq_true rfl), (Nat.le_of_ble_eq_true rfl)⟩) (x_preV (q := (RX12, TX12, 86)) hH hK (q_obj (by decide) (rfl : kd 36 = 12) (by decide)) rfl gxb (gxw hE hS (x_F hH hS hA))) rfl rfl hl.1 rfl (lv_room (Nat.le_of_ble_eq_true rfl)) dX12_filter_65 ⟨(Nat.le_of_ble_eq_true rfl), (Nat.le_of_ble_eq_true rfl)⟩) hH hS hA rfl rfl (fun r_45 im_47 H locs hw_46 hH hS => ?_)
    have hH : sj_H D A (hwc g ka im_47 r L d) H := hH
    obtain ⟨hO_49, hfr_48, hr_50, hx2_51⟩ := hw_46
    have hr_50 : (0 : Int) ≤ r_45.toInt ∧ r_45.toInt ≤ 24 := hr_50
    have hp_52 : (im_47 36 2).toInt = (0 : Int32).toInt := congrArg Int32.toInt (((hfr_48 36 2 (by omega)).trans (up2_at _ _ _ _)))
    have hl_53 : (0 : Int32).toInt = 0 := rfl
    have hV_54 : (im_47 36 2).toInt = 0 := (by omega)
    have ha16 : im_47 416 = im_37 416 := (funext fun b9 => ((hfr_48 416 b9 (by omega)).trans (up2_o _ _ (by omega))))
    have ha17 : im_47 417 = im_37 417 := (funext fun b9 => ((hfr_48 417 b9 (by omega)).trans (up2_o _ _ (by omega))))
    have hkxe : (8 : Int32).toInt = (8 : Int) := rfl
    have hkz : ((up2 im_13 36 0 0) 36 2).toInt = (i 36 2).toInt := congrArg Int32.toInt (show (up2 im_13 36 0 0) 36 2 = i 36 2 from ((up2_o _ _ (by omega)).trans ((hfr_14 36 2 (by omega)).trans (hfr_4 36 2 (by omega)))))
    have hnew : tgLM im_47 (8 : Int).toNat = mTx i := tgLM_new (x := (8 : Int)) (by omega) (by omega) (by
        rw [ha17]
        have h9 := hx2_40
        rw [hkxe, hkz] at h9
        exact h9) (by
        intro k hk
        have h9 := hx2_42 k (by omega)
        rw [hkxe] at h9
        rw [ha16, h9]
        exact congrArg Int32.toInt (show (up2 im_13 36 0 0) 379 k = i 379 k from ((up2_o _ _ (by omega)).trans ((hfr_14 379 k (by omega)).trans (hfr_4 379 k (by omega))))))
    have hold : ∀ h : Nat, h ≠ (8 : Int).toNat → tgLM im_47 h = tgLM i h := tgLM_old (x := (8 : Int)) (by omega) (fun k => (hO 417 k).2) (by
        intro k hk
        have h9 := hx2_41 k (by rw [hkxe]; exact hk)
        rw [ha17, h9]
        exact ((up2_o _ _ (by omega)).trans ((hfr_14 417 k (by omega)).trans (hfr_4 417 k (by omega))))) (by
        intro k hk
        have h9 := hx2_43 k (by rw [hkxe]; exact hk)
        rw [ha16, h9]
        exact ((up2_o _ _ (by omega)).trans ((hfr_14 416 k (by omega)).trans (hfr_4 416 k (by omega)))))
    have hV_55 : ftM i im_47 := (Or.inr ⟨hkt, hnew, hold⟩)
    have hp_56 : (im_47 36 0).toInt = (0 : Int32).toInt := congrArg Int32.toInt (((hfr_48 36 0 (by omega)).trans ((up2_k _ _ (by decide)).trans ((hfr_38 36 0 (by omega)).trans (up2_at _ _ _ _)))))
    have hl_57 : (0 : Int32).toInt = 0 := rfl
    have hmcw : mcw im_47 = mcw (up2 im_37 36 2 0) := mcw_fr (funext fun b9 => (hfr_48 400 b9 (by omega))) (funext fun b9 => (hfr_48 416 b9 (by omega))) (funext fun b9 => (hfr_48 417 b9 (by omega)))
    have hwn9 := hx2_51
    rw [← hmcw, show (up2 im_37 36 2 0) 36 33 = i 36 33 from ((up2_o _ _ (by omega)).trans ((hfr_38 36 33 (by omega)).trans ((up2_o _ _ (by omega)).trans ((hfr_14 36 33 (by omega)).trans (hfr_4 36 33 (by omega))))))] at hwn9
    have hV_58 : ((im_47 36 0).toInt = 0 ∧ mTk i ∧ (r_45 : Int32).toInt = (cnl (mcw im_47) (i 36 33).toInt.toNat : Int)) ∨ ((im_47 36 0).toInt = 2 ∧ ¬ mTk i) := (Or.inl ⟨by omega, hkt, by omega⟩)
    exact sj_zret hx hb hr hlocks rfl hS im_47 ⟨hO_49, (fun a b ha => ((hfr_48 a b (by omega)).trans ((up2_o _ _ (by omega)).trans ((hfr_38 a b (by omega)).trans ((up2_o _ _ (by omega)).trans ((hfr_14 a b (by omega)).trans (hfr_4 a b (by omega)))))))), hV_54, hV_55, hV_58⟩ hH (sj_Knil hK) (Nat.le_of_ble_eq_true rfl) (Nat.le_of_ble_eq_true rfl) dX12_filter_68
