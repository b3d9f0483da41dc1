
set_option maxHeartbeats 2000000 in
set_option maxRecDepth 100000 in
theorem mv_hook1 (l : Launch) (D : va_G) (g : Nat → Nat) (ka : Nat → ClassId) (ad : Nat → Nat) (i : Nat → Nat → Int32) (r : Nat → Nat → Nat) (L : Nat → Nat → Int64) (d : Nat → Nat → UInt64) (x : Int32) (y : Int32) (hO : OkI i) (hR : RS r) (sz : Nat) (hx0 : 0 ≤ x.toInt) (hx1 : x.toInt ≤ 1) (hb76 : (i 36 76).toInt = 0) : Met l yX12_hook wsX12_hook ({ frames := 4, cells := 0, slots := 0, locals := 91 }) (va_Pc [.ref (g 36), .int x, .int y] (sj_B D (hwc g ka i r L d) (hT ka) sz (gx ad (va_A (hwc g ka i r L d) sz)))) (sj_Qi (S := (Nat → Nat → Int32)) D (fun v u => OkI u ∧ (∀ a b, ¬ ((a = 36 ∧ (b = 0 ∨ b = 2 ∨ b = 65 ∨ b = 66 ∨ b = 67)) ∨ a = 416 ∨ a = 417 ∨ a = 418 ∨ a = 419 ∨ a = 420 ∨ a = 421) → u a b = i a b) ∧ ((u 36 2).toInt = 0) ∧ (hkM i u x.toInt y.toInt) ∧ (((u 36 0).toInt = 0 ∧ (mTk i ∧ (0 ≤ y.toInt ∧ y.toInt < 8) ∧ (i 36 67).toInt < 8) ∧ v.toInt = (i 36 67).toInt) ∨ ((u 36 0).toInt = 2 ∧ ¬ (mTk i ∧ (0 ≤ y.toInt ∧ y.toInt < 8))) ∨ ((u 36 0).toInt = 3 ∧ (mTk i ∧ (0 ≤ y.toInt ∧ y.toInt < 8)) ∧ (i 36 67).toInt = 8))) (fun u => hwc g ka u r L d) (fun _ => []) (va_A (hwc g ka i r L d) sz)) 0 0 (va_A (hwc g ka i r L d) sz) := by
  refine x_met (Ex := gx ad) (cc := cX12_hook) (maxL := 4) (ret := (some .int)) (by decide) rfl (Nat.le_of_ble_eq_true rfl) ?_
  intro p e s m below meth c A ls hx hb hr hml hts hown hlocks hA hS hH hK hE hl
  have hown : s.vm.findClass RX12 = some m.cls := hown
  have in12 : ∀ w ∈ wsX120, w ∈ wsX12_hook := (fun _ h => (List.mem_cons_of_mem _ (List.mem_append_right _ h)))
  have wd0 := hts (.fieldLink RX12 12 "StoryDeskModel" "text" "[C") (List.mem_cons_of_mem _ (List.mem_append_left _ (List.mem_append_left _ lm0)))
  have wd1 := hts (.fieldLink RX12 7 "StoryDeskModel" "size" "I") (List.mem_cons_of_mem _ (List.mem_append_left _ (List.mem_append_left _ lm1)))
  have wd2 := hts (.fieldLink RX12 1 "StoryDeskModel" "thrown" "I") (List.mem_cons_of_mem _ (List.mem_append_left _ (List.mem_append_left _ lm3)))
  have wd3 := hts (.fieldLink RX12 404 "StoryDeskModel" "hooks" "I") (List.mem_cons_of_mem _ (List.mem_append_left _ (List.mem_append_left _ lm2)))
  have wd4 := hts (.fieldLink RX12 411 "StoryDeskModel" "early" "[Z") (List.mem_cons_of_mem _ (List.mem_append_left _ (List.mem_append_left _ lm4)))
  have wd5 := hts (.fieldLink RX12 415 "StoryDeskModel" "hookScript" "[I") (List.mem_cons_of_mem _ (List.mem_append_left _ (List.mem_append_left _ lm5)))
  have hl : lv_has ls 4 [(0, .ref (g 36)), (1, .int x), (2, .int y)] := hl
  have hK : va_K D vwCl (hT ka) s := hK
  have hg_1 := s_rng y
  have hb67 : (0 : Int) ≤ (i 36 67).toInt ∧ (i 36 67).toInt ≤ 8 := hO 36 67
  have hb2 : (0 : Int) ≤ (i 36 2).toInt ∧ (i 36 2).toInt ≤ 480 := hO 36 2
  refine lv_aload_n hx hb dX12_hook_0 rfl (lv_at hl 0 rfl) ?_
  refine x_calli (va_runV (As := []) (rest := []) ⟨hx, hb, hml, hown, hts⟩ (mv_busy l D g ka ad i r L d  hO hR s.heap.size ) (cwV 0 hts gX12_hook_X12_busy rfl rfl rfl (by decide +kernel) ⟨(Nat.le_of_ble_eq_true rfl), (Nat.le_of_ble_eq_true rfl)⟩) (x_preV (q := (RX12, TX12, 86)) hH hK (q_obj (by decide) (rfl : kd 36 = 12) (by decide)) rfl gxb (gxw hE hS (x_F hH hS hA))) rfl rfl hl.1 rfl (lv_room (Nat.le_of_ble_eq_true rfl)) dX12_hook_1 ⟨(Nat.le_of_ble_eq_true rfl), (Nat.le_of_ble_eq_true rfl)⟩) hH hS hA rfl rfl (fun r_2 im_4 H locs hw_3 hH hS => ?_)
  have hH : sj_H D A (hwc g ka im_4 r L d) H := hH
  obtain ⟨hO_6, hfr_5, hr_7, he_8⟩ := hw_3
  have hr_7 : (0 : Int) ≤ r_2.toInt ∧ r_2.toInt ≤ 1 := hr_7
  refine lv_if_eq (tgt := 9) hx hb dX12_hook_4 (by decide) (fun _ => ?_) (fun h => absurd (p_eq (rfl : r_2.toInt = _) (show (0 : Int32).toInt = 0 from rfl) (by omega)) h)
  refine lv_aload_n hx hb dX12_hook_9 rfl (lv_at hl 0 rfl) ?_
  refine lv_aload_n hx hb dX12_hook_10 rfl (lv_at hl 0 rfl) ?_
  refine h_getr (ci := 12) (C := RX12) (F := TX12) (N := 86) hx hb hts in12 hown hK hH (by decide) (rfl : kd 36 = 12) (by decide) rfl 1 (by decide) wd0 (fun _ h9 => h9) (by decide) rfl (t := 379) (hR 36 1 rfl) (by decide) dX12_hook_11 ?_
  refine lv_iconst (v := 0) hx hb dX12_hook_14 (by decide) ?_
  refine lv_aload_n hx hb dX12_hook_15 rfl (lv_at hl 0 rfl) ?_
  have bx_9 : (0 : Int) ≤ (i 36 2).toInt ∧ (i 36 2).toInt ≤ 480 := hO 36 2
  refine h_geti (ci := 12) (C := RX12) (F := TX12) (N := 86) hx hb hts in12 hown hK hH (by decide) (rfl : kd 36 = 12) (by decide) rfl 2 (by decide) wd1 (fun _ h9 => h9) (by decide) rfl dX12_hook_16 ?_
  refine sj_i (y := (i 36 2)) (hfr_5 36 2 (by omega)) ?_
  refine lv_iconst (v := 0) hx hb dX12_hook_19 (by decide) ?_
  have hl_10 : (0 : Int32).toInt = 0 := rfl
  have hl_11 : (0 : Int32).toInt = 0 := rfl
  refine x_calli (va_runV (As := [.ref (g 379), .int 0, .int (i 36 2), .int 0]) (rest := []) ⟨hx, hb, hml, hown, hts⟩ (m_test_text l D g ka ad im_4 r L d 0 (i 36 2) 0 hO_6 hR H.size (by first | omega | decide) (by first | omega | decide) (by first | omega | decide) (by first | omega | decide) (by first | omega | decide)) (cwV 4 hts gX12_hook_X12_test rfl rfl rfl (by decide +kernel) ⟨(Nat.le_of_ble_eq_true rfl), (Nat.le_of_ble_eq_true rfl)⟩) (x_preV (q := (RX12, TX12, 86)) hH hK (q_obj (by decide) (rfl : kd 36 = 12) (by decide)) rfl gxb (gxw hE hS (x_F hH hS hA))) rfl rfl hl.1 rfl (lv_room (Nat.le_of_ble_eq_true rfl)) dX12_hook_20 ⟨(Nat.le_of_ble_eq_true rfl), (Nat.le_of_ble_eq_true rfl)⟩) hH hS hA rfl rfl (fun r_12 im_14 H locs hw_13 hH hS => ?_)
  have hH : sj_H D A (hwc g ka im_14 r L d) H := hH
  obtain ⟨hO_16, hfr_15, hr_17, hx2_18, hx2_19, hx2_20⟩ := hw_13
  have hr_17 : (-1 : Int) ≤ r_12.toInt ∧ r_12.toInt ≤ 1 := hr_17
  have e379 : im_4 379 = i 379 := funext fun b9 => (hfr_5 379 b9 (by omega))
  rw [e379] at hx2_19
  rw [e379] at hx2_20
  have htk := mTk_v (i := i) (v := (r_12 : Int32).toInt) rfl (hx2_18) (hx2_19) (hx2_20)
  refine lv_if_lt (tgt := 40) hx hb dX12_hook_23 (by decide) (fun c_21 => ?_) (fun c_21 => ?_)
  · skip
    have h_22 := s_lt (rfl : r_12.toInt = _) (show (0 : Int32).toInt = 0 from rfl) c_21
    have hnk := (htk.resolve_left (fun q => by have := q.1; omega)).2
    refine lv_iconst (v := 0) hx hb dX12_hook_40 (by decide) ?_
    refine lv_istore_n (lv' := [(3, .int 0), (0, .ref (g 36)), (1, .int x), (2, .int y)]) hx hb dX12_hook_41 rfl hl (by decide) rfl (fun ls hl => ?_)
    refine lv_aload_n hx hb dX12_hook_42 rfl (lv_at hl 1 rfl) ?_
    refine lv_iload_n hx hb dX12_hook_43 rfl (lv_at hl 0 rfl) ?_
    refine lv_if_ne (tgt := 51) hx hb dX12_hook_44 (by decide) (fun h => absurd (by decide) h) (fun _ => ?_)
    refine lv_iconst (v := 2) hx hb dX12_hook_47 (by decide) ?_
    refine lv_goto (tgt := 65) hx hb dX12_hook_48 (by decide) ?_
    have hO_23 := okp hO_16 (n := 36) (k := 0) (v := 2) (show (0 : Int) ≤ (2 : Int32).toInt ∧ (2 : Int32).toInt ≤ 3 from ⟨by decide, by decide⟩)
    refine h_puti (ty := .int) (ci := 12) (C := RX12) (F := TX12) (N := 86) hx hb hts in12 tyX12 tyX12_ok nmX12 hown hK hH hS (by decide) (rfl : kd 36 = 12) (by decide) rfl 0 (by decide) wd2 (fun _ h9 => h9) rfl (by decide +kernel) rfl rfl (by decide) rfl dX12_hook_65 (fun H locs hH hS => ?_)
    refine lv_aload_n hx hb dX12_hook_68 rfl (lv_at hl 1 rfl) ?_
    refine h_geti (ci := 12) (C := RX12) (F := TX12) (N := 86) hx hb hts in12 hown hK hH (by decide) (rfl : kd 36 = 12) (by decide) rfl 0 (by decide) wd2 (fun _ h9 => h9) (by decide) rfl dX12_hook_69 ?_
    refine sj_i (y := 2) (up2_at _ _ _ _) ?_
    refine lv_if_ne (tgt := 83) hx hb dX12_hook_72 (by decide) (fun _ => ?_) (fun h => absurd h (by decide))
    refine lv_aload_n hx hb dX12_hook_83 rfl (lv_at hl 1 rfl) ?_
    refine lv_iconst (v := 0) hx hb dX12_hook_84 (by decide) ?_
    have hO_24 := okp hO_23 (n := 36) (k := 2) (v := 0) (show (0 : Int) ≤ (0 : Int32).toInt ∧ (0 : Int32).toInt ≤ 480 from ⟨by decide, by decide⟩)
    refine h_puti (ty := .int) (ci := 12) (C := RX12) (F := TX12) (N := 86) hx hb hts in12 tyX12 tyX12_ok nmX12 hown hK hH hS (by decide) (rfl : kd 36 = 12) (by decide) rfl 2 (by decide) wd1 (fun _ h9 => h9) rfl (by decide +kernel) rfl rfl (by decide) rfl dX12_hook_85 (fun H locs hH hS => ?_)
    refine lv_aload_n hx hb dX12_hook_88 rfl (lv_at hl 1 rfl) ?_
    refine h_geti (ci := 12) (C := RX12) (F := TX12) (N := 86) hx hb hts in12 hown hK hH (by decide) (rfl : kd 36 = 12) (by decide) rfl 0 (by decide) wd2 (fun _ h9 => h9) (by decide) rfl dX12_hook_89 ?_
    refine sj_i (y := 2) ((up2_k _ _ (by decide)).trans (up2_at _ _ _ _)) ?_
    refine lv_if_le (tgt := 97) hx hb dX12_hook_92 (by decide) (fun h => absurd h (by decide)) (fun _ => ?_)
    refine lv_iconst (v := 0) hx hb dX12_hook_95 (by decide) ?_
    have hp_25 : ((up2 (up2 im_14 36 0 2) 36 2 0) 36 2).toInt = (0 : Int32).toInt := congrArg Int32.toInt ((up2_at _ _ _ _))
    have hl_26 : (0 : Int32).toInt = 0 := rfl
    have hV_27 : ((up2 (up2 im_14 36 0 2) 36 2 0) 36 2).toInt = 0 := (by omega)
    have hV_28 : hkM i (up2 (up2 im_14 36 0 2) 36 2 0) x.toInt y.toInt := (Or.inl ⟨fun q => hnk q.1, ((up2_o _ _ (by omega)).trans ((up2_o _ _ (by omega)).trans ((hfr_15 36 67 (by omega)).trans (hfr_5 36 67 (by omega))))), (funext fun b9 => ((up2_o _ _ (by omega)).trans ((up2_o _ _ (by omega)).trans ((hfr_15 416 b9 (by omega)).trans (hfr_5 416 b9 (by omega)))))), (funext fun b9 => ((up2_o _ _ (by omega)).trans ((up2_o _ _ (by omega)).trans ((hfr_15 417 b9 (by omega)).trans (hfr_5 417 b9 (by omega)))))), (funext fun b9 => ((up2_o _ _ (by omega)).trans ((up2_o _ _ (by omega)).trans ((hfr_15 420 b9 (by omega)).trans (hfr_5 420 b9 (by omega))))))⟩)
    have hp_29 : ((up2 (up2 im_14 36 0 2) 36 2 0) 36 0).toInt = (2 : Int32).toInt := congrArg Int32.toInt (((up2_k _ _ (by decide)).trans (up2_at _ _ _ _)))
    have hl_30 : (2 : Int32).toInt = 2 := rfl
    have hV_31 : (((up2 (up2 im_14 36 0 2) 36 2 0) 36 0).toInt = 0 ∧ (mTk i ∧ (0 ≤ y.toInt ∧ y.toInt < 8) ∧ (i 36 67).toInt < 8) ∧ (0 : Int32).toInt = (i 36 67).toInt) ∨ (((up2 (up2 im_14 36 0 2) 36 2 0) 36 0).toInt = 2 ∧ ¬ (mTk i ∧ (0 ≤ y.toInt ∧ y.toInt < 8))) ∨ (((up2 (up2 im_14 36 0 2) 36 2 0) 36 0).toInt = 3 ∧ (mTk i ∧ (0 ≤ y.toInt ∧ y.toInt < 8)) ∧ (i 36 67).toInt = 8) := (Or.inr (Or.inl ⟨by omega, fun q => hnk q.1⟩))
    exact sj_zret hx hb hr hlocks rfl hS (up2 (up2 im_14 36 0 2) 36 2 0) ⟨hO_24, (fun a b ha => ((up2_o _ _ (by omega)).trans ((up2_o _ _ (by omega)).trans ((hfr_15 a b (by omega)).trans (hfr_5 a b (by omega)))))), hV_27, hV_28, hV_31⟩ hH (sj_Knil hK) (Nat.le_of_ble_eq_true rfl) (Nat.le_of_ble_eq_true rfl) dX12_hook_96
  · skip
    have h_32 := s_nlt (rfl : r_12.toInt = _) (show (0 : Int32).toInt = 0 from rfl) c_21
    have hkt := (htk.resolve_right (fun q => by have := q.1; omega)).2
    have hkt1 := hkt.1
    refine lv_iload_n hx hb dX12_hook_26 rfl (lv_at hl 2 rfl) ?_
    refine lv_if_lt (tgt := 40) hx hb dX12_hook_27 (by decide) (fun c_33 => ?_) (fun c_33 => ?_)
    · skip
      have h_34 := s_lt (rfl : y.toInt = _) (show (0 : Int32).toInt = 0 from rfl) c_33
      refine lv_iconst (v := 0) hx hb dX12_hook_40 (by decide) ?_
      refine lv_istore_n (lv' := [(3, .int 0), (0, .ref (g 36)), (1, .int x), (2, .int y)]) hx hb dX12_hook_41 rfl hl (by decide) rfl (fun ls hl => ?_)
      refine lv_aload_n hx hb dX12_hook_42 rfl (lv_at hl 1 rfl) ?_
      refine lv_iload_n hx hb dX12_hook_43 rfl (lv_at hl 0 rfl) ?_
      refine lv_if_ne (tgt := 51) hx hb dX12_hook_44 (by decide) (fun h => absurd (by decide) h) (fun _ => ?_)
      refine lv_iconst (v := 2) hx hb dX12_hook_47 (by decide) ?_
      refine lv_goto (tgt := 65) hx hb dX12_hook_48 (by decide) ?_
      have hO_35 := okp hO_16 (n := 36) (k := 0) (v := 2) (show (0 : Int) ≤ (2 : Int32).toInt ∧ (2 : Int32).toInt ≤ 3 from ⟨by decide, by decide⟩)
      refine h_puti (ty := .int) (ci := 12) (C := RX12) (F := TX12) (N := 86) hx hb hts in12 tyX12 tyX12_ok nmX12 hown hK hH hS (by decide) (rfl : kd 36 = 12) (by decide) rfl 0 (by decide) wd2 (fun _ h9 => h9) rfl (by decide +kernel) rfl rfl (by decide) rfl dX12_hook_65 (fun H locs hH hS => ?_)
      refine lv_aload_n hx hb dX12_hook_68 rfl (lv_at hl 1 rfl) ?_
      refine h_geti (ci := 12) (C := RX12) (F := TX12) (N := 86) hx hb hts in12 hown hK hH (by decide) (rfl : kd 36 = 12) (by decide) rfl 0 (by decide) wd2 (fun _ h9 => h9) (by decide) rfl dX12_hook_69 ?_
      refine sj_i (y := 2) (up2_at _ _ _ _) ?_
      refine lv_if_ne (tgt := 83) hx hb dX12_hook_72 (by decide) (fun _ => ?_) (fun h => absurd h (by decide))
      refine lv_aload_n hx hb dX12_hook_83 rfl (lv_at hl 1 rfl) ?_
      refine lv_iconst (v := 0) hx hb dX12_hook_84 (by decide) ?_
      have hO_36 := okp hO_35 (n := 36) (k := 2) (v := 0) (show (0 : Int) ≤ (0 : Int32).toInt ∧ (0 : Int32).toInt ≤ 480 from ⟨by decide, by decide⟩)
      refine h_puti (ty := .int) (ci := 12) (C := RX12) (F := TX12) (N := 86) hx hb hts in12 tyX12 tyX12_ok nmX12 hown hK hH hS (by decide) (rfl : kd 36 = 12) (by decide) rfl 2 (by decide) wd1 (fun _ h9 => h9) rfl (by decide +kernel) rfl rfl (by decide) rfl dX12_hook_85 (fun H locs hH hS => ?_)
      refine lv_aload_n hx hb dX12_hook_88 rfl (lv_at hl 1 rfl) ?_
      refine h_geti (ci := 12) (C := RX12) (F := TX12) (N := 86) hx hb hts in12 hown hK hH (by decide) (rfl : kd 36 = 12) (by decide) rfl 0 (by decide) wd2 (fun _ h9 => h9) (by decide) rfl dX12_hook_89 ?_
      refine sj_i (y := 2) ((up2_k _ _ (by decide)).trans (up2_at _ _ _ _)) ?_
      refine lv_if_le (tgt := 97) hx hb dX12_hook_92 (by decide) (fun h => absurd h (by decide)) (fun _ => ?_)
      refine lv_iconst (v := 0) hx hb dX12_hook_95 (by decide) ?_
      have hp_37 : ((up2 (up2 im_14 36 0 2) 36 2 0) 36 2).toInt = (0 : Int32).toInt := congrArg Int32.toInt ((up2_at _ _ _ _))
      have hl_38 : (0 : Int32).toInt = 0 := rfl
      have hV_39 : ((up2 (up2 im_14 36 0 2) 36 2 0) 36 2).toInt = 0 := (by omega)
      have hV_40 : hkM i (up2 (up2 im_14 36 0 2) 36 2 0) x.toInt y.toInt := (Or.inl ⟨fun q => by have q1 := q.2.1; have q2 := q.2.2; omega, ((up2_o _ _ (by omega)).trans ((up2_o _ _ (by omega)).trans ((hfr_15 36 67 (by omega)).trans (hfr_5 36 67 (by omega))))), (funext fun b9 => ((up2_o _ _ (by omega)).trans ((up2_o _ _ (by omega)).trans ((hfr_15 416 b9 (by omega)).trans (hfr_5 416 b9 (by omega)))))), (funext fun b9 => ((up2_o _ _ (by omega)).trans ((up2_o _ _ (by omega)).trans ((hfr_15 417 b9 (by omega)).trans (hfr_5 417 b9 (by omega)))))), (funext fun b9 => ((up2_o _ _ (by omega)).trans ((up2_o _ _ (by omega)).trans ((hfr_15 420 b9 (by omega)).trans (hfr_5 420 b9 (by omega))))))⟩)
      have hp_41 : ((up2 (up2 im_14 36 0 2) 36 2 0) 36 0).toInt = (2 : Int32).toInt := congrArg Int32.toInt (((up2_k _ _ (by decide)).trans (up2_at _ _ _ _)))
      have hl_42 : (2 : Int32).toInt = 2 := rfl
      have hV_43 : (((up2 (up2 im_14 36 0 2) 36 2 0) 36 0).toInt = 0 ∧ (mTk i ∧ (0 ≤ y.toInt ∧ y.toInt < 8) ∧ (i 36 67).toInt < 8) ∧ (0 : Int32).toInt = (i 36 67).toInt) ∨ (((up2 (up2 im_14 36 0 2) 36 2 0) 36 0).toInt = 2 ∧ ¬ (mTk i ∧ (0 ≤ y.toInt ∧ y.toInt < 8))) ∨ (((up2 (up2 im_14 36 0 2) 36 2 0) 36 0).toInt = 3 ∧ (mTk i ∧ (0 ≤ y.toInt ∧ y.toInt < 8)) ∧ (i 36 67).toInt = 8) := (Or.inr (Or.inl ⟨by omega, fun q => by have q1 := q.2; omega⟩))
      exact sj_zret hx hb hr hlocks rfl hS (up2 (up2 im_14 36 0 2) 36 2 0) ⟨hO_36, (fun a b ha => ((up2_o _ _ (by omega)).trans ((up2_o _ _ (by omega)).trans ((hfr_15 a b (by omega)).trans (hfr_5 a b (by omega)))))), hV_39, hV_40, hV_43⟩ hH (sj_Knil hK) (Nat.le_of_ble_eq_true rfl) (Nat.le_of_ble_eq_true rfl) dX12_hook_96
    · skip
      have h_44 := s_nlt (rfl : y.toInt = _) (show (0 : Int32).toInt = 0 from rfl) c_33
      refine lv_iload_n hx hb dX12_hook_30 rfl (lv_at hl 2 rfl) ?_
      refine lv_bipush (v := 8) hx hb dX12_hook_31 (by decide) ?_
      refine lv_icmp_ge (tgt := 40) hx hb dX12_hook_33 (by decide) (fun c_45 => ?_) (fun c_45 => ?_)
      · skip
        have h_46 := s_le (show (8 : Int32).toInt = 8 from rfl) (rfl : y.toInt = _) c_45
        refine lv_iconst (v := 0) hx hb dX12_hook_40 (by decide) ?_
        refine lv_istore_n (lv' := [(3, .int 0), (0, .ref (g 36)), (1, .int x), (2, .int y)]) hx hb dX12_hook_41 rfl hl (by decide) rfl (fun ls hl => ?_)
        refine lv_aload_n hx hb dX12_hook_42 rfl (lv_at hl 1 rfl) ?_
        refine lv_iload_n hx hb dX12_hook_43 rfl (lv_at hl 0 rfl) ?_
        refine lv_if_ne (tgt := 51) hx hb dX12_hook_44 (by decide) (fun h => absurd (by decide) h) (fun _ => ?_)
        refine lv_iconst (v := 2) hx hb dX12_hook_47 (by decide) ?_
        refine lv_goto (tgt := 65) hx hb dX12_hook_48 (by decide) ?_
        have hO_47 := okp hO_16 (n := 36) (k := 0) (v := 2) (show (0 : Int) ≤ (2 : Int32).toInt ∧ (2 : Int32).toInt ≤ 3 from ⟨by decide, by decide⟩)
        refine h_puti (ty := .int) (ci := 12) (C := RX12) (F := TX12) (N := 86) hx hb hts in12 tyX12 tyX12_ok nmX12 hown hK hH hS (by decide) (rfl : kd 36 = 12) (by decide) rfl 0 (by decide) wd2 (fun _ h9 => h9) rfl (by decide +kernel) rfl rfl (by decide) rfl dX12_hook_65 (fun H locs hH hS => ?_)
        refine lv_aload_n hx hb dX12_hook_68 rfl (lv_at hl 1 rfl) ?_
        refine h_geti (ci := 12) (C := RX12) (F := TX12) (N := 86) hx hb hts in12 hown hK hH (by decide) (rfl : kd 36 = 12) (by decide) rfl 0 (by decide) wd2 (fun _ h9 => h9) (by decide) rfl dX12_hook_69 ?_
        refine sj_i (y := 2) (up2_at _ _ _ _) ?_
        refine lv_if_ne (tgt := 83) hx hb dX12_hook_72 (by decide) (fun _ => ?_) (fun h => absurd h (by decide))
        refine lv_aload_n hx hb dX12_hook_83 rfl (lv_at hl 1 rfl) ?_
        refine lv_iconst (v := 0) hx hb dX12_hook_84 (by decide) ?_
        have hO_48 := okp hO_47 (n := 36) (k := 2) (v := 0) (show (0 : Int) ≤ (0 : Int32).toInt ∧ (0 : Int32).toInt ≤ 480 from ⟨by decide, by decide⟩)
        refine h_puti (ty := .int) (ci := 12) (C := RX12) (F := TX12) (N := 86) hx hb hts in12 tyX12 tyX12_ok nmX12 hown hK hH hS (by decide) (rfl : kd 36 = 12) (by decide) rfl 2 (by decide) wd1 (fun _ h9 => h9) rfl (by decide +kernel) rfl rfl (by decide) rfl dX12_hook_85 (fun H locs hH hS => ?_)
        refine lv_aload_n hx hb dX12_hook_88 rfl (lv_at hl 1 rfl) ?_
        refine h_geti (ci := 12) (C := RX12) (F := TX12) (N := 86) hx hb hts in12 hown hK hH (by decide) (rfl : kd 36 = 12) (by decide) rfl 0 (by decide) wd2 (fun _ h9 => h9) (by decide) rfl dX12_hook_89 ?_
        refine sj_i (y := 2) ((up2_k _ _ (by decide)).trans (up2_at _ _ _ _)) ?_
        refine lv_if_le (tgt := 97) hx hb dX12_hook_92 (by decide) (fun h => absurd h (by decide)) (fun _ => ?_)
        refine lv_iconst (v := 0) hx hb dX12_hook_95 (by decide) ?_
        have hp_49 : ((up2 (up2 im_14 36 0 2) 36 2 0) 36 2).toInt = (0 : Int32).toInt := congrArg Int32.toInt ((up2_at _ _ _ _))
        have hl_50 : (0 : Int32).toInt = 0 := rfl
        have hV_51 : ((up2 (up2 im_14 36 0 2) 36 2 0) 36 2).toInt = 0 := (by omega)
        have hV_52 : hkM i (up2 (up2 im_14 36 0 2) 36 2 0) x.toInt y.toInt := (Or.inl ⟨fun q => by have q1 := q.2.1; have q2 := q.2.2; omega, ((up2_o _ _ (by omega)).trans ((up2_o _ _ (by omega)).trans ((hfr_15 36 67 (by omega)).trans (hfr_5 36 67 (by omega))))), (funext fun b9 => ((up2_o _ _ (by omega)).trans ((up2_o _ _ (by omega)).trans ((hfr_15 416 b9 (by omega)).trans (hfr_5 416 b9 (by omega)))))), (funext fun b9 => ((up2_o _ _ (by omega)).trans ((up2_o _ _ (by omega)).trans ((hfr_15 417 b9 (by omega)).trans (hfr_5 417 b9 (by omega)))))), (funext fun b9 => ((up2_o _ _ (by omega)).trans ((up2_o _ _ (by omega)).trans ((hfr_15 420 b9 (by omega)).trans (hfr_5 420 b9 (by omega))))))⟩)
        have hp_53 : ((up2 (up2 im_14 36 0 2) 36 2 0) 36 0).toInt = (2 : Int32).toInt := congrArg Int32.toInt (((up2_k _ _ (by decide)).trans (up2_at _ _ _ _)))
        have hl_54 : (2 : Int32).toInt = 2 := rfl
        have hV_55 : (((up2 (up2 im_14 36 0 2) 36 2 0) 36 0).toInt = 0 ∧ (mTk i ∧ (0 ≤ y.toInt ∧ y.toInt < 8) ∧ (i 36 67).toInt < 8) ∧ (0 : Int32).toInt = (i 36 67).toInt) ∨ (((up2 (up2 im_14 36 0 2) 36 2 0) 36 0).toInt = 2 ∧ ¬ (mTk i ∧ (0 ≤ y.toInt ∧ y.toInt < 8))) ∨ (((up2 (up2 im_14 36 0 2) 36 2 0) 36 0).toInt = 3 ∧ (mTk i ∧ (0 ≤ y.toInt ∧ y.toInt < 8)) ∧ (i 36 67).toInt = 8) := (Or.inr (Or.inl ⟨by omega, fun q => by have q1 := q.2; omega⟩))
        exact sj_zret hx hb hr hlocks rfl hS (up2 (up2 im_14 36 0 2) 36 2 0) ⟨hO_48, (fun a b ha => ((up2_o _ _ (by omega)).trans ((up2_o _ _ (by omega)).trans ((hfr_15 a b (by omega)).trans (hfr_5 a b (by omega)))))), hV_51, hV_52, hV_55⟩ hH (sj_Knil hK) (Nat.le_of_ble_eq_true rfl) (Nat.le_of_ble_eq_true rfl) dX12_hook_96
      · skip
        have h_56 := s_nle (show (8 : Int32).toInt = 8 from rfl) (rfl : y.toInt = _) c_45
        refine lv_iconst (v := 1) hx hb dX12_hook_36 (by decide) ?_
        refine lv_goto (tgt := 41) hx hb dX12_hook_37 (by decide) ?_
        refine lv_istore_n (lv' := [(3, .int 1), (0, .ref (g 36)), (1, .int x), (2, .int y)]) hx hb dX12_hook_41 rfl hl (by decide) rfl (fun ls hl => ?_)
        refine lv_aload_n hx hb dX12_hook_42 rfl (lv_at hl 1 rfl) ?_
        refine lv_iload_n hx hb dX12_hook_43 rfl (lv_at hl 0 rfl) ?_
        refine lv_if_ne (tgt := 51) hx hb dX12_hook_44 (by decide) (fun _ => ?_) (fun h => absurd h (by decide))
        refine lv_aload_n hx hb dX12_hook_51 rfl (lv_at hl 1 rfl) ?_
        have bx_57 : (0 : Int) ≤ (i 36 67).toInt ∧ (i 36 67).toInt ≤ 8 := hO 36 67
        refine h_geti (ci := 12) (C := RX12) (F := TX12) (N := 86) hx hb hts in12 hown hK hH (by decide) (rfl : kd 36 = 12) (by decide) rfl 67 (by decide) wd3 (fun _ h9 => h9) (by decide) rfl dX12_hook_52 ?_
        refine sj_i (y := (i 36 67)) ((hfr_15 36 67 (by omega)).trans (hfr_5 36 67 (by omega))) ?_
        refine lv_bipush (v := 8) hx hb dX12_hook_55 (by decide) ?_
        refine lv_icmp_ne (tgt := 64) hx hb dX12_hook_57 (by decide) (fun c_58 => ?_) (fun c_58 => ?_)
        · skip
          have h_59 := s_ne (rfl : (i 36 67).toInt = _) (show (8 : Int32).toInt = 8 from rfl) c_58
          refine lv_iconst (v := 0) hx hb dX12_hook_64 (by decide) ?_
          have hO_60 := okp hO_16 (n := 36) (k := 0) (v := 0) (show (0 : Int) ≤ (0 : Int32).toInt ∧ (0 : Int32).toInt ≤ 3 from ⟨by decide, by decide⟩)
          refine h_puti (ty := .int) (ci := 12) (C := RX12) (F := TX12) (N := 86) hx hb hts in12 tyX12 tyX12_ok nmX12 hown hK hH hS (by decide) (rfl : kd 36 = 12) (by decide) rfl 0 (by decide) wd2 (fun _ h9 => h9) rfl (by decide +kernel) rfl rfl (by decide) rfl dX12_hook_65 (fun H locs hH hS => ?_)
          refine lv_aload_n hx hb dX12_hook_68 rfl (lv_at hl 1 rfl) ?_
          refine h_geti (ci := 12) (C := RX12) (F := TX12) (N := 86) hx hb hts in12 hown hK hH (by decide) (rfl : kd 36 = 12) (by decide) rfl 0 (by decide) wd2 (fun _ h9 => h9) (by decide) rfl dX12_hook_69 ?_
          refine sj_i (y := 0) (up2_at _ _ _ _) ?_
          refine lv_if_ne (tgt := 83) hx hb dX12_hook_72 (by decide) (fun h => absurd (by decide) h) (fun _ => ?_)
          refine lv_aload_n hx hb dX12_hook_75 rfl (lv_at hl 1 rfl) ?_
          refine lv_aload_n hx hb dX12_hook_76 rfl (lv_at hl 1 rfl) ?_
          refine h_geti (ci := 12) (C := RX12) (F := TX12) (N := 86) hx hb hts in12 hown hK hH (by decide) (rfl : kd 36 = 12) (by decide) rfl 67 (by decide) wd3 (fun _ h9 => h9) (by decide) rfl dX12_hook_77 ?_
          refine sj_i (y := (i 36 67)) ((up2_k _ _ (by decide)).trans ((hfr_15 36 67 (by omega)).trans (hfr_5 36 67 (by omega)))) ?_
          have hp_61 : ((up2 im_14 36 0 0) 36 2).toInt = ((i 36 2) : Int32).toInt := congrArg Int32.toInt (((up2_k _ _ (by decide)).trans ((hfr_15 36 2 (by omega)).trans (hfr_5 36 2 (by omega)))))
          refine x_callv (va_runV (As := [.int (i 36 67)]) (rest := []) ⟨hx, hb, hml, hown, hts⟩ (m_keep l D g ka ad (up2 im_14 36 0 0) r L d (i 36 67) hO_60 hR H.size (by first | omega | decide) (by first | omega | decide) (by omega)) (cwV 1 hts gX12_hook_X12_keep rfl rfl rfl (by decide +kernel) ⟨(Nat.le_of_ble_eq_true rfl), (Nat.le_of_ble_eq_true rfl)⟩) (x_preV (q := (RX12, TX12, 86)) hH hK (q_obj (by decide) (rfl : kd 36 = 12) (by decide)) rfl gxb (gxw hE hS (x_F hH hS hA))) rfl rfl hl.1 rfl (lv_room (Nat.le_of_ble_eq_true rfl)) dX12_hook_80 ⟨(Nat.le_of_ble_eq_true rfl), (Nat.le_of_ble_eq_true rfl)⟩) hH hS hA rfl rfl (fun im_64 H locs hw_63 hH hS => ?_)
          have hH : sj_H D A (hwc g ka im_64 r L d) H := hH
          obtain ⟨hO_66, hfr_65, hx2_67, hx2_68, hx2_69, hx2_70⟩ := hw_63
          refine lv_aload_n hx hb dX12_hook_83 rfl (lv_at hl 1 rfl) ?_
          refine lv_iconst (v := 0) hx hb dX12_hook_84 (by decide) ?_
          have hO_71 := okp hO_66 (n := 36) (k := 2) (v := 0) (show (0 : Int) ≤ (0 : Int32).toInt ∧ (0 : Int32).toInt ≤ 480 from ⟨by decide, by decide⟩)
          refine h_puti (ty := .int) (ci := 12) (C := RX12) (F := TX12) (N := 86) hx hb hts in12 tyX12 tyX12_ok nmX12 hown hK hH hS (by decide) (rfl : kd 36 = 12) (by decide) rfl 2 (by decide) wd1 (fun _ h9 => h9) rfl (by decide +kernel) rfl rfl (by decide) rfl dX12_hook_85 (fun H locs hH hS => ?_)
          refine lv_aload_n hx hb dX12_hook_88 rfl (lv_at hl 1 rfl) ?_
          refine h_geti (ci := 12) (C := RX12) (F := TX12) (N := 86) hx hb hts in12 hown hK hH (by decide) (rfl : kd 36 = 12) (by decide) rfl 0 (by decide) wd2 (fun _ h9 => h9) (by decide) rfl dX12_hook_89 ?_
          refine sj_i (y := 0) ((up2_k _ _ (by decide)).trans ((hfr_65 36 0 (by omega)).trans (up2_at _ _ _ _))) ?_
          refine lv_if_le (tgt := 97) hx hb dX12_hook_92 (by decide) (fun _ => ?_) (fun h => absurd (by decide) h)
          refine lv_aload_n hx hb dX12_hook_97 rfl (lv_at hl 1 rfl) ?_
          refine h_getr (ci := 12) (C := RX12) (F := TX12) (N := 86) hx hb hts in12 hown hK hH (by decide) (rfl : kd 36 = 12) (by decide) rfl 68 (by decide) wd4 (fun _ h9 => h9) (by decide) rfl (t := 420) (hR 36 68 rfl) (by decide) dX12_hook_98 ?_
          refine lv_aload_n hx hb dX12_hook_101 rfl (lv_at hl 1 rfl) ?_
          refine h_geti (ci := 12) (C := RX12) (F := TX12) (N := 86) hx hb hts in12 hown hK hH (by decide) (rfl : kd 36 = 12) (by decide) rfl 67 (by decide) wd3 (fun _ h9 => h9) (by decide) rfl dX12_hook_102 ?_
          refine sj_i (y := (i 36 67)) ((up2_k _ _ (by decide)).trans ((hfr_65 36 67 (by omega)).trans ((up2_k _ _ (by decide)).trans ((hfr_15 36 67 (by omega)).trans (hfr_5 36 67 (by omega)))))) ?_
          refine lv_iload_n hx hb dX12_hook_105 rfl (lv_at hl 2 rfl) ?_
          obtain ⟨z_72, ez_72⟩ : ∃ z, vp_nar .boolean x = z := ⟨_, rfl⟩
          have hz_72 : z_72.toInt = x.toInt := by rw [← ez_72, s_narb (rfl : x.toInt = _) (by omega) (by omega)] <;> exact (rfl : x.toInt = _)
          have hO_73 := okp hO_71 (n := 420) (k := ((i 36 67).toInt).toNat) (v := z_72) (show (0 : Int) ≤ (z_72 : Int32).toInt ∧ (z_72 : Int32).toInt ≤ 1 from ⟨by omega, by omega⟩)
          refine h_zast hx hb hK hH hS (by decide) (rfl : kd 420 = 15) (s_vin (N := 8) (rfl : (i 36 67).toInt = _) (rfl : ln 420 = 8) (by omega) (by omega)) dX12_hook_106 (fun H locs hH hS => ?_)
          rw [ez_72] at hH
          rw [s_cl (show (i 36 67).toInt = (i 36 67).toInt by omega)] at hH
          refine lv_aload_n hx hb dX12_hook_107 rfl (lv_at hl 1 rfl) ?_
          refine h_getr (ci := 12) (C := RX12) (F := TX12) (N := 86) hx hb hts in12 hown hK hH (by decide) (rfl : kd 36 = 12) (by decide) rfl 69 (by decide) wd5 (fun _ h9 => h9) (by decide) rfl (t := 421) (hR 36 69 rfl) (by decide) dX12_hook_108 ?_
          refine lv_aload_n hx hb dX12_hook_111 rfl (lv_at hl 1 rfl) ?_
          refine h_geti (ci := 12) (C := RX12) (F := TX12) (N := 86) hx hb hts in12 hown hK hH (by decide) (rfl : kd 36 = 12) (by decide) rfl 67 (by decide) wd3 (fun _ h9 => h9) (by decide) rfl dX12_hook_112 ?_
          refine sj_i (y := (i 36 67)) ((congrFun (up2_n _ _ (by decide)) _).trans ((up2_k _ _ (by decide)).trans ((hfr_65 36 67 (by omega)).trans ((up2_k _ _ (by decide)).trans ((hfr_15 36 67 (by omega)).trans (hfr_5 36 67 (by omega))))))) ?_
          refine lv_iload_n hx hb dX12_hook_115 rfl (lv_at hl 3 rfl) ?_
          have hO_74 := okp hO_73 (n := 421) (k := ((i 36 67).toInt).toNat) (v := y) (show (0 : Int) ≤ (y : Int32).toInt ∧ (y : Int32).toInt ≤ 7 from ⟨by omega, by omega⟩)
          refine h_iast hx hb hK hH hS (by decide) (rfl : kd 421 = 13) (s_vin (N := 8) (rfl : (i 36 67).toInt = _) (rfl : ln 421 = 8) (by omega) (by omega)) dX12_hook_116 (fun H locs hH hS => ?_)
          rw [s_cl (show (i 36 67).toInt = (i 36 67).toInt by omega)] at hH
          refine lv_aload_n hx hb dX12_hook_117 rfl (lv_at hl 1 rfl) ?_
          refine lv_dup hx hb dX12_hook_118 rfl ?_
          refine h_geti (ci := 12) (C := RX12) (F := TX12) (N := 86) hx hb hts in12 hown hK hH (by decide) (rfl : kd 36 = 12) (by decide) rfl 67 (by decide) wd3 (fun _ h9 => h9) (by decide) rfl dX12_hook_119 ?_
          refine sj_i (y := (i 36 67)) ((congrFun (up2_n _ _ (by decide)) _).trans ((congrFun (up2_n _ _ (by decide)) _).trans ((up2_k _ _ (by decide)).trans ((hfr_65 36 67 (by omega)).trans ((up2_k _ _ (by decide)).trans ((hfr_15 36 67 (by omega)).trans (hfr_5 36 67 (by omega)))))))) ?_
          refine lv_iconst (v := 1) hx hb dX12_hook_122 (by decide) ?_
          refine lv_iadd hx hb dX12_hook_123 ?_
          obtain ⟨z_75, ez_75, hz_75⟩ := s_add (rfl : (i 36 67).toInt = _) (show (1 : Int32).toInt = 1 from rfl) (by omega) (by omega)
          refine sj_i ez_75 ?_
          have hO_76 := okp hO_74 (n := 36) (k := 67) (v := z_75) (show (0 : Int) ≤ (z_75 : Int32).toInt ∧ (z_75 : Int32).toInt ≤ 8 from ⟨by omega, by omega⟩)
          refine h_puti (ty := .int) (ci := 12) (C := RX12) (F := TX12) (N := 86) hx hb hts in12 tyX12 tyX12_ok nmX12 hown hK hH hS (by decide) (rfl : kd 36 = 12) (by decide) rfl 67 (by decide) wd3 (fun _ h9 => h9) rfl (by decide +kernel) rfl rfl (by decide) rfl dX12_hook_124 (fun H locs hH hS => ?_)
          refine lv_aload_n hx hb dX12_hook_127 rfl (lv_at hl 1 rfl) ?_
          refine h_geti (ci := 12) (C := RX12) (F := TX12) (N := 86) hx hb hts in12 hown hK hH (by decide) (rfl : kd 36 = 12) (by decide) rfl 67 (by decide) wd3 (fun _ h9 => h9) (by decide) rfl dX12_hook_128 ?_
          refine sj_i (y := z_75) (up2_at _ _ _ _) ?_
          refine lv_iconst (v := 1) hx hb dX12_hook_131 (by decide) ?_
          refine lv_isub hx hb dX12_hook_132 ?_
          obtain ⟨z_77, ez_77, hz_77⟩ := s_sub (rfl : z_75.toInt = _) (show (1 : Int32).toInt = 1 from rfl) (by omega) (by omega)
          refine sj_i ez_77 ?_
          have hp_78 : ((up2 (up2 (up2 (up2 im_64 36 2 0) 420 ((i 36 67).toInt).toNat z_72) 421 ((i 36 67).toInt).toNat y) 36 67 z_75) 36 2).toInt = (0 : Int32).toInt := congrArg Int32.toInt (((up2_k _ _ (by decide)).trans ((congrFun (up2_n _ _ (by decide)) _).trans ((congrFun (up2_n _ _ (by decide)) _).trans (up2_at _ _ _ _)))))
          have hl_79 : (0 : Int32).toInt = 0 := rfl
          have hV_80 : ((up2 (up2 (up2 (up2 im_64 36 2 0) 420 ((i 36 67).toInt).toNat z_72) 421 ((i 36 67).toInt).toNat y) 36 67 z_75) 36 2).toInt = 0 := (by omega)
          have ha16 : (up2 (up2 (up2 (up2 im_64 36 2 0) 420 ((i 36 67).toInt).toNat z_72) 421 ((i 36 67).toInt).toNat y) 36 67 z_75) 416 = im_64 416 := (funext fun b9 => ((up2_o _ _ (by omega)).trans ((up2_o _ _ (by omega)).trans ((up2_o _ _ (by omega)).trans (up2_o _ _ (by omega))))))
          have ha17 : (up2 (up2 (up2 (up2 im_64 36 2 0) 420 ((i 36 67).toInt).toNat z_72) 421 ((i 36 67).toInt).toNat y) 36 67 z_75) 417 = im_64 417 := (funext fun b9 => ((up2_o _ _ (by omega)).trans ((up2_o _ _ (by omega)).trans ((up2_o _ _ (by omega)).trans (up2_o _ _ (by omega))))))
          have hkxe : ((i 36 67) : Int32).toInt = (i 36 67).toInt := rfl
          have hkz : ((up2 im_14 36 0 0) 36 2).toInt = (i 36 2).toInt := congrArg Int32.toInt (show (up2 im_14 36 0 0) 36 2 = i 36 2 from ((up2_o _ _ (by omega)).trans ((hfr_15 36 2 (by omega)).trans (hfr_5 36 2 (by omega)))))
          have hnew : tgLM (up2 (up2 (up2 (up2 im_64 36 2 0) 420 ((i 36 67).toInt).toNat z_72) 421 ((i 36 67).toInt).toNat y) 36 67 z_75) (i 36 67).toInt.toNat = mTx i := tgLM_new (x := (i 36 67).toInt) (by omega) (by omega) (by
              rw [ha17]
              have h9 := hx2_67
              rw [hkxe, hkz] at h9
              exact h9) (by
              intro k hk
              have h9 := hx2_69 k (by omega)
              rw [hkxe] at h9
              rw [ha16, h9]
              exact congrArg Int32.toInt (show (up2 im_14 36 0 0) 379 k = i 379 k from ((up2_o _ _ (by omega)).trans ((hfr_15 379 k (by omega)).trans (hfr_5 379 k (by omega))))))
          have hold : ∀ h : Nat, h ≠ (i 36 67).toInt.toNat → tgLM (up2 (up2 (up2 (up2 im_64 36 2 0) 420 ((i 36 67).toInt).toNat z_72) 421 ((i 36 67).toInt).toNat y) 36 67 z_75) h = tgLM i h := tgLM_old (x := (i 36 67).toInt) (by omega) (fun k => (hO 417 k).2) (by
              intro k hk
              have h9 := hx2_68 k (by rw [hkxe]; exact hk)
              rw [ha17, h9]
              exact ((up2_o _ _ (by omega)).trans ((hfr_15 417 k (by omega)).trans (hfr_5 417 k (by omega))))) (by
              intro k hk
              have h9 := hx2_70 k (by rw [hkxe]; exact hk)
              rw [ha16, h9]
              exact ((up2_o _ _ (by omega)).trans ((hfr_15 416 k (by omega)).trans (hfr_5 416 k (by omega)))))
          have hp_81 : ((up2 (up2 (up2 (up2 im_64 36 2 0) 420 ((i 36 67).toInt).toNat z_72) 421 ((i 36 67).toInt).toNat y) 36 67 z_75) 36 67).toInt = (z_75 : Int32).toInt := congrArg Int32.toInt ((up2_at _ _ _ _))
          have hq20 : ((up2 (up2 (up2 (up2 im_64 36 2 0) 420 ((i 36 67).toInt).toNat z_72) 421 ((i 36 67).toInt).toNat y) 36 67 z_75) 420 (i 36 67).toInt.toNat).toInt = (z_72 : Int32).toInt := congrArg Int32.toInt (((congrFun (up2_n _ _ (by decide)) _).trans ((congrFun (up2_n _ _ (by decide)) _).trans (up2_at _ _ _ _))))
          have hV_82 : hkM i (up2 (up2 (up2 (up2 im_64 36 2 0) 420 ((i 36 67).toInt).toNat z_72) 421 ((i 36 67).toInt).toNat y) 36 67 z_75) x.toInt y.toInt := (Or.inr ⟨⟨hkt, ⟨by omega, by omega⟩, by omega⟩, by omega, hnew, by omega, fun h hh => ⟨hold h hh, ((up2_o _ _ (by omega)).trans ((up2_o _ _ (by omega)).trans ((up2_o _ _ (by omega)).trans ((up2_o _ _ (by omega)).trans ((hfr_65 420 h (by omega)).trans ((up2_o _ _ (by omega)).trans ((hfr_15 420 h (by omega)).trans (hfr_5 420 h (by omega)))))))))⟩⟩)
          have hp_83 : ((up2 (up2 (up2 (up2 im_64 36 2 0) 420 ((i 36 67).toInt).toNat z_72) 421 ((i 36 67).toInt).toNat y) 36 67 z_75) 36 0).toInt = (0 : Int32).toInt := congrArg Int32.toInt (((up2_k _ _ (by decide)).trans ((congrFun (up2_n _ _ (by decide)) _).trans ((congrFun (up2_n _ _ (by decide)) _).trans ((up2_k _ _ (by decide)).trans ((hfr_65 36 0 (by omega)).trans (up2_at _ _ _ _)))))))
          have hl_84 : (0 : Int32).toInt = 0 := rfl
          have hV_85 : (((up2 (up2 (up2 (up2 im_64 36 2 0) 420 ((i 36 67).toInt).toNat z_72) 421 ((i 36 67).toInt).toNat y) 36 67 z_75) 36 0).toInt = 0 ∧ (mTk i ∧ (0 ≤ y.toInt ∧ y.toInt < 8) ∧ (i 36 67).toInt < 8) ∧ (z_77 : Int32).toInt = (i 36 67).toInt) ∨ (((up2 (up2 (up2 (up2 im_64 36 2 0) 420 ((i 36 67).toInt).toNat z_72) 421 ((i 36 67).toInt).toNat y) 36 67 z_75) 36 0).toInt = 2 ∧ ¬ (mTk i ∧ (0 ≤ y.toInt ∧ y.toInt < 8))) ∨ (((up2 (up2 (up2 (up2 im_64 36 2 0) 420 ((i 36 67).toInt).toNat z_72) 421 ((i 36 67).toInt).toNat y) 36 67 z_75) 36 0).toInt = 3 ∧ (mTk i ∧ (0 ≤ y.toInt ∧ y.toInt < 8)) ∧ (i 36 67).toInt = 8) := (Or.inl ⟨by omega, ⟨hkt, ⟨by omega, by omega⟩, by omega⟩, by omega⟩)
          exact sj_zret hx hb hr hlocks rfl hS (up2 (up2 (up2 (up2 im_64 36 2 0) 420 ((i 36 67).toInt).toNat z_72) 421 ((i 36 67).toInt).toNat y) 36 67 z_75) ⟨hO_76, (fun a b ha => ((up2_o _ _ (by omega)).trans ((up2_o _ _ (by omega)).trans ((up2_o _ _ (by omega)).trans ((up2_o _ _ (by omega)).trans ((hfr_65 a b (by omega)).trans ((up2_o _ _ (by omega)).trans ((hfr_15 a b (by omega)).trans (hfr_5 a b (by omega)))))))))), hV_80, hV_82, hV_85⟩ hH (sj_Knil hK) (Nat.le_of_ble_eq_true rfl) (Nat.le_of_ble_eq_true rfl) dX12_hook_133
        · skip
          have h_86 := s_eq (rfl : (i 36 67).toInt = _) (show (8 : Int32).toInt = 8 from rfl) c_58
          refine lv_iconst (v := 3) hx hb dX12_hook_60 (by decide) ?_
          refine lv_goto (tgt := 65) hx hb dX12_hook_61 (by decide) ?_
          have hO_87 := okp hO_16 (n := 36) (k := 0) (v := 3) (show (0 : Int) ≤ (3 : Int32).toInt ∧ (3 : Int32).toInt ≤ 3 from ⟨by decide, by decide⟩)
          refine h_puti (ty := .int) (ci := 12) (C := RX12) (F := TX12) (N := 86) hx hb hts in12 tyX12 tyX12_ok nmX12 hown hK hH hS (by decide) (rfl : kd 36 = 12) (by decide) rfl 0 (by decide) wd2 (fun _ h9 => h9) rfl (by decide +kernel) rfl rfl (by decide) rfl dX12_hook_65 (fun H locs hH hS => ?_)
          refine lv_aload_n hx hb dX12_hook_68 rfl (lv_at hl 1 rfl) ?_
          refine h_geti (ci := 12) (C := RX12) (F := TX12) (N := 86) hx hb hts in12 hown hK hH (by decide) (rfl : kd 36 = 12) (by decide) rfl 0 (by decide) wd2 (fun _ h9 => h9) (by decide) rfl dX12_hook_69 ?_
          refine sj_i (y := 3) (up2_at _ _ _ _) ?_
          refine lv_if_ne (tgt := 83) hx hb dX12_hook_72 (by decide) (fun _ => ?_) (fun h => absurd h (by decide))
          refine lv_aload_n hx hb dX12_hook_83 rfl (lv_at hl 1 rfl) ?_
          refine lv_iconst (v := 0) hx hb dX12_hook_84 (by decide) ?_
          have hO_88 := okp hO_87 (n := 36) (k := 2) (v := 0) (show (0 : Int) ≤ (0 : Int32).toInt ∧ (0 : Int32).toInt ≤ 480 from ⟨by decide, by decide⟩)
          refine h_puti (ty := .int) (ci := 12) (C := RX12) (F := TX12) (N := 86) hx hb hts in12 tyX12 tyX12_ok nmX12 hown hK hH hS (by decide) (rfl : kd 36 = 12) (by decide) rfl 2 (by decide) wd1 (fun _ h9 => h9) rfl (by decide +kernel) rfl rfl (by decide) rfl dX12_hook_85 (fun H locs hH hS => ?_)
          refine lv_aload_n hx hb dX12_hook_88 rfl (lv_at hl 1 rfl) ?_
          refine h_geti (ci := 12) (C := RX12) (F := TX12) (N := 86) hx hb hts in12 hown hK hH (by decide) (rfl : kd 36 = 12) (by decide) rfl 0 (by decide) wd2 (fun _ h9 => h9) (by decide) rfl dX12_hook_89 ?_
          refine sj_i (y := 3) ((up2_k _ _ (by decide)).trans (up2_at _ _ _ _)) ?_
          refine lv_if_le (tgt := 97) hx hb dX12_hook_92 (by decide) (fun h => absurd h (by decide)) (fun _ => ?_)
          refine lv_iconst (v := 0) hx hb dX12_hook_95 (by decide) ?_
          have hp_89 : ((up2 (up2 im_14 36 0 3) 36 2 0) 36 2).toInt = (0 : Int32).toInt := congrArg Int32.toInt ((up2_at _ _ _ _))
          have hl_90 : (0 : Int32).toInt = 0 := rfl
          have hV_91 : ((up2 (up2 im_14 36 0 3) 36 2 0) 36 2).toInt = 0 := (by omega)
          have hV_92 : hkM i (up2 (up2 im_14 36 0 3) 36 2 0) x.toInt y.toInt := (Or.inl ⟨fun q => by have q1 := q.2.1; have q2 := q.2.2; omega, ((up2_o _ _ (by omega)).trans ((up2_o _ _ (by omega)).trans ((hfr_15 36 67 (by omega)).trans (hfr_5 36 67 (by omega))))), (funext fun b9 => ((up2_o _ _ (by omega)).trans ((up2_o _ _ (by omega)).trans ((hfr_15 416 b9 (by omega)).trans (hfr_5 416 b9 (by omega)))))), (funext fun b9 => ((up2_o _ _ (by omega)).trans ((up2_o _ _ (by omega)).trans ((hfr_15 417 b9 (by omega)).trans (hfr_5 417 b9 (by omega)))))), (funext fun b9 => ((up2_o _ _ (by omega)).trans ((up2_o _ _ (by omega)).trans ((hfr_15 420 b9 (by omega)).trans (hfr_5 420 b9 (by omega))))))⟩)
          have hp_93 : ((up2 (up2 im_14 36 0 3) 36 2 0) 36 0).toInt = (3 : Int32).toInt := congrArg Int32.toInt (((up2_k _ _ (by decide)).trans (up2_at _ _ _ _)))
          have hl_94 : (3 : Int32).toInt = 3 := rfl
          have hV_95 : (((up2 (up2 im_14 36 0 3) 36 2 0) 36 0).toInt = 0 ∧ (mTk i ∧ (0 ≤ y.toInt ∧ y.toInt < 8) ∧ (i 36 67).toInt < 8) ∧ (0 : Int32).toInt = (i 36 67).toInt) ∨ (((up2 (up2 im_14 36 0 3) 36 2 0) 36 0).toInt = 2 ∧ ¬ (mTk i ∧ (0 ≤ y.toInt ∧ y.toInt < 8))) ∨ (((up2 (up2 im_14 36 0 3) 36 2 0) 36 0).toInt = 3 ∧ (mTk i ∧ (0 ≤ y.toInt ∧ y.toInt < 8)) ∧ (i 36 67).toInt = 8) := (Or.inr (Or.inr ⟨by omega, ⟨hkt, by omega, by omega⟩, by omega⟩))
          exact sj_zret hx hb hr hlocks rfl hS (up2 (up2 im_14 36 0 3) 36 2 0) ⟨hO_88, (fun a b ha => ((up2_o _ _ (by omega)).trans ((up2_o _ _ (by omega)).trans ((hfr_15 a b (by omega)).trans (hfr_5 a b (by omega)))))), hV_91, hV_92, hV_95⟩ hH (sj_Knil hK) (Nat.le_of_ble_eq_true rfl) (Nat.le_of_ble_eq_true rfl) dX12_hook_96
