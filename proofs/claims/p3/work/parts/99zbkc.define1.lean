
set_option maxHeartbeats 2000000 in
set_option maxRecDepth 100000 in
theorem mv_define1 (l : Launch) (D : va_G) (g : Nat → Nat) (ka : Nat → ClassId) (ad : Nat → Nat) (i : Nat → Nat → Int32) (r : Nat → Nat → Nat) (L : Nat → Nat → Int64) (d : Nat → Nat → UInt64) (x : Int32) (hO : OkI i) (hR : RS r) (sz : Nat) (hb76 : (i 36 76).toInt = 0) (hdi : DI i) : Met l yX12_define wsX12_define ({ frames := 3, cells := 0, slots := 0, locals := 72 }) (va_Pc [.ref (g 36), .int x] (sj_B D (hwc g ka i r L d) (hT ka) sz (gx ad (va_A (hwc g ka i r L d) sz)))) (sj_Qi (S := (Nat → Nat → Int32)) D (fun v u => OkI u ∧ (∀ a b, ¬ ((a = 36 ∧ (b = 0 ∨ b = 2 ∨ b = 41 ∨ b = 45 ∨ b = 49 ∨ b = 52 ∨ b = 54 ∨ b = 55)) ∨ a = 403 ∨ a = 404 ∨ a = 405 ∨ a = 406 ∨ a = 407 ∨ a = 408 ∨ a = 409 ∨ a = 410 ∨ a = 411) → u a b = i a b) ∧ ((u 36 2).toInt = 0) ∧ (DI u) ∧ (((u 36 0).toInt = 0 ∧ (prOK (lnL (i 379) 0 (i 36 2).toInt) ∧ (0 ≤ x.toInt ∧ x.toInt < 8) ∧ (i 36 41).toInt < 12) ∧ v.toInt = (i 36 41).toInt ∧ (u 36 41).toInt = (i 36 41).toInt + 1) ∨ ((u 36 0).toInt = 2 ∧ ¬ (prOK (lnL (i 379) 0 (i 36 2).toInt) ∧ (0 ≤ x.toInt ∧ x.toInt < 8)) ∧ (u 36 41).toInt = (i 36 41).toInt) ∨ ((u 36 0).toInt = 3 ∧ (prOK (lnL (i 379) 0 (i 36 2).toInt) ∧ (0 ≤ x.toInt ∧ x.toInt < 8)) ∧ (i 36 41).toInt = 12 ∧ (u 36 41).toInt = (i 36 41).toInt))) (fun u => hwc g ka u r L d) (fun _ => []) (va_A (hwc g ka i r L d) sz)) 0 0 (va_A (hwc g ka i r L d) sz) := by
  refine x_met (Ex := gx ad) (cc := cX12_define) (maxL := 5) (ret := (some .int)) (by decide) rfl (Nat.le_of_ble_eq_true rfl) ?_
  intro p e s m below meth c A ls hx hb hr hml hts hown hlocks hA hS hH hK hE hl
  have hown : s.vm.findClass RX12 = some m.cls := hown
  have in12 : ∀ w ∈ wsX120, w ∈ wsX12_define := (fun _ h => (List.mem_cons_of_mem _ (List.mem_append_right _ h)))
  have wd0 := hts (.fieldLink RX12 12 "StoryDeskModel" "text" "[C") (List.mem_cons_of_mem _ (List.mem_append_left _ (List.mem_append_left _ lm0)))
  have wd1 := hts (.fieldLink RX12 7 "StoryDeskModel" "size" "I") (List.mem_cons_of_mem _ (List.mem_append_left _ (List.mem_append_left _ lm1)))
  have wd2 := hts (.fieldLink RX12 308 "StoryDeskModel" "defined" "I") (List.mem_cons_of_mem _ (List.mem_append_left _ (List.mem_append_left _ lm2)))
  have wd3 := hts (.fieldLink RX12 314 "StoryDeskModel" "writtenSize" "[I") (List.mem_cons_of_mem _ (List.mem_append_left _ (List.mem_append_left _ lm4)))
  have wd4 := hts (.fieldLink RX12 317 "StoryDeskModel" "definitionScript" "[I") (List.mem_cons_of_mem _ (List.mem_append_left _ (List.mem_append_left _ lm5)))
  have wd5 := hts (.fieldLink RX12 311 "StoryDeskModel" "written" "[C") (List.mem_cons_of_mem _ (List.mem_append_left _ (List.mem_append_left _ lm3)))
  have hl : lv_has ls 5 [(0, .ref (g 36)), (1, .int x)] := hl
  have hK : va_K D vwCl (hT ka) s := hK
  have hg_1 := s_rng x
  have hb41 : (0 : Int) ≤ (i 36 41).toInt ∧ (i 36 41).toInt ≤ 12 := hO 36 41
  have hb2 : (0 : Int) ≤ (i 36 2).toInt ∧ (i 36 2).toInt ≤ 480 := hO 36 2
  refine lv_aload_n hx hb dX12_define_0 rfl (lv_at hl 0 rfl) ?_
  refine x_calli (va_runV (As := []) (rest := []) ⟨hx, hb, hml, hown, hts⟩ (mv_busy l D g ka ad i r L d  hO hR s.heap.size ) (cwV 0 hts gX12_define_X12_busy rfl rfl rfl (by decide +kernel) ⟨(Nat.le_of_ble_eq_true rfl), (Nat.le_of_ble_eq_true rfl)⟩) (x_preV (q := (RX12, TX12, 86)) hH hK (q_obj (by decide) (rfl : kd 36 = 12) (by decide)) rfl gxb (gxw hE hS (x_F hH hS hA))) rfl rfl hl.1 rfl (lv_room (Nat.le_of_ble_eq_true rfl)) dX12_define_1 ⟨(Nat.le_of_ble_eq_true rfl), (Nat.le_of_ble_eq_true rfl)⟩) hH hS hA rfl rfl (fun r_2 im_4 H locs hw_3 hH hS => ?_)
  have hH : sj_H D A (hwc g ka im_4 r L d) H := hH
  obtain ⟨hO_6, hfr_5, hr_7, he_8⟩ := hw_3
  have hr_7 : (0 : Int) ≤ r_2.toInt ∧ r_2.toInt ≤ 1 := hr_7
  refine lv_if_eq (tgt := 9) hx hb dX12_define_4 (by decide) (fun _ => ?_) (fun h => absurd (p_eq (rfl : r_2.toInt = _) (show (0 : Int32).toInt = 0 from rfl) (by omega)) h)
  refine lv_aload_n hx hb dX12_define_9 rfl (lv_at hl 0 rfl) ?_
  refine lv_aload_n hx hb dX12_define_10 rfl (lv_at hl 0 rfl) ?_
  refine h_getr (ci := 12) (C := RX12) (F := TX12) (N := 86) hx hb hts in12 hown hK hH (by decide) (rfl : kd 36 = 12) (by decide) rfl 1 (by decide) wd0 (fun _ h9 => h9) (by decide) rfl (t := 379) (hR 36 1 rfl) (by decide) dX12_define_11 ?_
  refine lv_iconst (v := 0) hx hb dX12_define_14 (by decide) ?_
  refine lv_aload_n hx hb dX12_define_15 rfl (lv_at hl 0 rfl) ?_
  have bx_9 : (0 : Int) ≤ (i 36 2).toInt ∧ (i 36 2).toInt ≤ 480 := hO 36 2
  refine h_geti (ci := 12) (C := RX12) (F := TX12) (N := 86) hx hb hts in12 hown hK hH (by decide) (rfl : kd 36 = 12) (by decide) rfl 2 (by decide) wd1 (fun _ h9 => h9) (by decide) rfl dX12_define_16 ?_
  refine sj_i (y := (i 36 2)) (hfr_5 36 2 (by omega)) ?_
  have hl_10 : (0 : Int32).toInt = 0 := rfl
  refine x_calli (va_runV (As := [.ref (g 379), .int 0, .int (i 36 2)]) (rest := []) ⟨hx, hb, hml, hown, hts⟩ (m_parse_T l D g ka ad im_4 r L d 0 (i 36 2) hO_6 hR H.size (by first | omega | decide) (by first | omega | decide) (by first | omega | decide)) (cwV 3 hts gX12_define_X12_parse rfl rfl rfl (by decide +kernel) ⟨(Nat.le_of_ble_eq_true rfl), (Nat.le_of_ble_eq_true rfl)⟩) (x_preV (q := (RX12, TX12, 86)) hH hK (q_obj (by decide) (rfl : kd 36 = 12) (by decide)) rfl gxb (gxw hE hS (x_F hH hS hA))) rfl rfl hl.1 rfl (lv_room (Nat.le_of_ble_eq_true rfl)) dX12_define_19 ⟨(Nat.le_of_ble_eq_true rfl), (Nat.le_of_ble_eq_true rfl)⟩) hH hS hA rfl rfl (fun r_11 im_13 H locs hw_12 hH hS => ?_)
  have hH : sj_H D A (hwc g ka im_13 r L d) H := hH
  obtain ⟨hO_15, hfr_14, hr_16, hx2_17⟩ := hw_12
  have hr_16 : (0 : Int) ≤ r_11.toInt ∧ r_11.toInt ≤ 1 := hr_16
  have hpr := hx2_17
  refine lv_if_eq (tgt := 39) hx hb dX12_define_22 (by decide) (fun c_18 => ?_) (fun c_18 => ?_)
  · skip
    have h_19 := s_eq (rfl : r_11.toInt = _) (show (0 : Int32).toInt = 0 from rfl) c_18
    have hnpk : ¬ prOK (lnL (i 379) 0 (i 36 2).toInt) := by
      have h9 := (hpr.resolve_left (fun q => by have := q.1; omega)).2
      rw [show im_4 379 = i 379 from funext fun b9 => (hfr_5 379 b9 (by omega)), show (0 : Int32).toInt + ((i 36 2) : Int32).toInt = (i 36 2).toInt by have h8 : (0 : Int32).toInt = 0 := rfl; omega] at h9
      exact h9
    refine lv_iconst (v := 0) hx hb dX12_define_39 (by decide) ?_
    refine lv_istore_n (lv' := [(2, .int 0), (0, .ref (g 36)), (1, .int x)]) hx hb dX12_define_40 rfl hl (by decide) rfl (fun ls hl => ?_)
    refine lv_aload_n hx hb dX12_define_41 rfl (lv_at hl 1 rfl) ?_
    refine h_geti (ci := 12) (C := RX12) (F := TX12) (N := 86) hx hb hts in12 hown hK hH (by decide) (rfl : kd 36 = 12) (by decide) rfl 2 (by decide) wd1 (fun _ h9 => h9) (by decide) rfl dX12_define_42 ?_
    refine sj_i (y := (i 36 2)) ((hfr_14 36 2 (by omega)).trans (hfr_5 36 2 (by omega))) ?_
    refine lv_istore_n (lv' := [(3, .int (i 36 2)), (2, .int 0), (0, .ref (g 36)), (1, .int x)]) hx hb dX12_define_45 rfl hl (by decide) rfl (fun ls hl => ?_)
    refine lv_aload_n hx hb dX12_define_46 rfl (lv_at hl 2 rfl) ?_
    refine lv_iconst (v := 0) hx hb dX12_define_47 (by decide) ?_
    have hO_20 := okp hO_15 (n := 36) (k := 2) (v := 0) (show (0 : Int) ≤ (0 : Int32).toInt ∧ (0 : Int32).toInt ≤ 480 from ⟨by decide, by decide⟩)
    refine h_puti (ty := .int) (ci := 12) (C := RX12) (F := TX12) (N := 86) hx hb hts in12 tyX12 tyX12_ok nmX12 hown hK hH hS (by decide) (rfl : kd 36 = 12) (by decide) rfl 2 (by decide) wd1 (fun _ h9 => h9) rfl (by decide +kernel) rfl rfl (by decide) rfl dX12_define_48 (fun H locs hH hS => ?_)
    refine lv_aload_n hx hb dX12_define_51 rfl (lv_at hl 2 rfl) ?_
    refine lv_iload_n hx hb dX12_define_52 rfl (lv_at hl 1 rfl) ?_
    refine lv_if_ne (tgt := 60) hx hb dX12_define_53 (by decide) (fun h => absurd (by decide) h) (fun _ => ?_)
    refine lv_iconst (v := 2) hx hb dX12_define_56 (by decide) ?_
    refine lv_goto (tgt := 74) hx hb dX12_define_57 (by decide) ?_
    have hl_21 : (2 : Int32).toInt = 2 := rfl
    refine x_calli (va_runV (As := [.int 2]) (rest := []) ⟨hx, hb, hml, hown, hts⟩ (mv_throwsNow l D g ka ad (up2 im_13 36 2 0) r L d 2 hO_20 hR H.size (by first | omega | decide) (by first | omega | decide)) (cwV 1 hts gX12_define_X12_throwsNow rfl rfl rfl (by decide +kernel) ⟨(Nat.le_of_ble_eq_true rfl), (Nat.le_of_ble_eq_true rfl)⟩) (x_preV (q := (RX12, TX12, 86)) hH hK (q_obj (by decide) (rfl : kd 36 = 12) (by decide)) rfl gxb (gxw hE hS (x_F hH hS hA))) rfl rfl hl.1 rfl (lv_room (Nat.le_of_ble_eq_true rfl)) dX12_define_74 ⟨(Nat.le_of_ble_eq_true rfl), (Nat.le_of_ble_eq_true rfl)⟩) hH hS hA rfl rfl (fun r_22 im_24 H locs hw_23 hH hS => ?_)
    have hH : sj_H D A (hwc g ka im_24 r L d) H := hH
    obtain ⟨hO_26, hfr_25, hr_27, he_28⟩ := hw_23
    have hr_27 : (0 : Int) ≤ r_22.toInt ∧ r_22.toInt ≤ 1 := hr_27
    refine lv_if_eq (tgt := 82) hx hb dX12_define_77 (by decide) (fun c_29 => ?_) (fun c_29 => ?_)
    · skip
      have h_30 := s_eq (rfl : r_22.toInt = _) (show (0 : Int32).toInt = 0 from rfl) c_29
      exfalso; omega
    · skip
      have h_31 := s_ne (rfl : r_22.toInt = _) (show (0 : Int32).toInt = 0 from rfl) c_29
      refine lv_iconst (v := 0) hx hb dX12_define_80 (by decide) ?_
      have hp_32 : (im_24 36 2).toInt = (0 : Int32).toInt := congrArg Int32.toInt (((hfr_25 36 2 (by omega)).trans (up2_at _ _ _ _)))
      have hl_33 : (0 : Int32).toInt = 0 := rfl
      have hV_34 : (im_24 36 2).toInt = 0 := (by omega)
      have hV_35 : DI im_24 := (DI_fr hdi ((hfr_25 36 41 (by omega)).trans ((up2_o _ _ (by omega)).trans ((hfr_14 36 41 (by omega)).trans (hfr_5 36 41 (by omega))))) (funext fun b9 => ((hfr_25 403 b9 (by omega)).trans ((up2_o _ _ (by omega)).trans ((hfr_14 403 b9 (by omega)).trans (hfr_5 403 b9 (by omega)))))) (funext fun b9 => ((hfr_25 404 b9 (by omega)).trans ((up2_o _ _ (by omega)).trans ((hfr_14 404 b9 (by omega)).trans (hfr_5 404 b9 (by omega)))))))
      have hp_36 : (im_24 36 0).toInt = ((im_24 36 0) : Int32).toInt := rfl
      have hp_37 : (im_24 36 41).toInt = ((i 36 41) : Int32).toInt := congrArg Int32.toInt (((hfr_25 36 41 (by omega)).trans ((up2_k _ _ (by decide)).trans ((hfr_14 36 41 (by omega)).trans (hfr_5 36 41 (by omega))))))
      have hV_38 : ((im_24 36 0).toInt = 0 ∧ (prOK (lnL (i 379) 0 (i 36 2).toInt) ∧ (0 ≤ x.toInt ∧ x.toInt < 8) ∧ (i 36 41).toInt < 12) ∧ (0 : Int32).toInt = (i 36 41).toInt ∧ (im_24 36 41).toInt = (i 36 41).toInt + 1) ∨ ((im_24 36 0).toInt = 2 ∧ ¬ (prOK (lnL (i 379) 0 (i 36 2).toInt) ∧ (0 ≤ x.toInt ∧ x.toInt < 8)) ∧ (im_24 36 41).toInt = (i 36 41).toInt) ∨ ((im_24 36 0).toInt = 3 ∧ (prOK (lnL (i 379) 0 (i 36 2).toInt) ∧ (0 ≤ x.toInt ∧ x.toInt < 8)) ∧ (i 36 41).toInt = 12 ∧ (im_24 36 41).toInt = (i 36 41).toInt) := (Or.inr (Or.inl ⟨by omega, fun q => hnpk q.1, by omega⟩))
      exact sj_zret hx hb hr hlocks rfl hS im_24 ⟨hO_26, (fun a b ha => ((hfr_25 a b (by omega)).trans ((up2_o _ _ (by omega)).trans ((hfr_14 a b (by omega)).trans (hfr_5 a b (by omega)))))), hV_34, hV_35, hV_38⟩ hH (sj_Knil hK) (Nat.le_of_ble_eq_true rfl) (Nat.le_of_ble_eq_true rfl) dX12_define_81
  · skip
    have h_39 := s_ne (rfl : r_11.toInt = _) (show (0 : Int32).toInt = 0 from rfl) c_18
    have hpk : prOK (lnL (i 379) 0 (i 36 2).toInt) := by
      have h9 := (hpr.resolve_right (fun q => by have := q.1; omega)).2.1
      rw [show im_4 379 = i 379 from funext fun b9 => (hfr_5 379 b9 (by omega)), show (0 : Int32).toInt + ((i 36 2) : Int32).toInt = (i 36 2).toInt by have h8 : (0 : Int32).toInt = 0 := rfl; omega] at h9
      exact h9
    have hpl := hpk.2.1
    have hpl2 := lnL_len (f := i 379) (show 0 ≤ (i 36 2).toInt by omega)
    have h60 : (i 36 2).toInt ≤ 60 := by omega
    refine lv_iload_n hx hb dX12_define_25 rfl (lv_at hl 1 rfl) ?_
    refine lv_if_lt (tgt := 39) hx hb dX12_define_26 (by decide) (fun c_40 => ?_) (fun c_40 => ?_)
    · skip
      have h_41 := s_lt (rfl : x.toInt = _) (show (0 : Int32).toInt = 0 from rfl) c_40
      refine lv_iconst (v := 0) hx hb dX12_define_39 (by decide) ?_
      refine lv_istore_n (lv' := [(2, .int 0), (0, .ref (g 36)), (1, .int x)]) hx hb dX12_define_40 rfl hl (by decide) rfl (fun ls hl => ?_)
      refine lv_aload_n hx hb dX12_define_41 rfl (lv_at hl 1 rfl) ?_
      refine h_geti (ci := 12) (C := RX12) (F := TX12) (N := 86) hx hb hts in12 hown hK hH (by decide) (rfl : kd 36 = 12) (by decide) rfl 2 (by decide) wd1 (fun _ h9 => h9) (by decide) rfl dX12_define_42 ?_
      refine sj_i (y := (i 36 2)) ((hfr_14 36 2 (by omega)).trans (hfr_5 36 2 (by omega))) ?_
      refine lv_istore_n (lv' := [(3, .int (i 36 2)), (2, .int 0), (0, .ref (g 36)), (1, .int x)]) hx hb dX12_define_45 rfl hl (by decide) rfl (fun ls hl => ?_)
      refine lv_aload_n hx hb dX12_define_46 rfl (lv_at hl 2 rfl) ?_
      refine lv_iconst (v := 0) hx hb dX12_define_47 (by decide) ?_
      have hO_42 := okp hO_15 (n := 36) (k := 2) (v := 0) (show (0 : Int) ≤ (0 : Int32).toInt ∧ (0 : Int32).toInt ≤ 480 from ⟨by decide, by decide⟩)
      refine h_puti (ty := .int) (ci := 12) (C := RX12) (F := TX12) (N := 86) hx hb hts in12 tyX12 tyX12_ok nmX12 hown hK hH hS (by decide) (rfl : kd 36 = 12) (by decide) rfl 2 (by decide) wd1 (fun _ h9 => h9) rfl (by decide +kernel) rfl rfl (by decide) rfl dX12_define_48 (fun H locs hH hS => ?_)
      refine lv_aload_n hx hb dX12_define_51 rfl (lv_at hl 2 rfl) ?_
      refine lv_iload_n hx hb dX12_define_52 rfl (lv_at hl 1 rfl) ?_
      refine lv_if_ne (tgt := 60) hx hb dX12_define_53 (by decide) (fun h => absurd (by decide) h) (fun _ => ?_)
      refine lv_iconst (v := 2) hx hb dX12_define_56 (by decide) ?_
      refine lv_goto (tgt := 74) hx hb dX12_define_57 (by decide) ?_
      have hl_43 : (2 : Int32).toInt = 2 := rfl
      refine x_calli (va_runV (As := [.int 2]) (rest := []) ⟨hx, hb, hml, hown, hts⟩ (mv_throwsNow l D g ka ad (up2 im_13 36 2 0) r L d 2 hO_42 hR H.size (by first | omega | decide) (by first | omega | decide)) (cwV 1 hts gX12_define_X12_throwsNow rfl rfl rfl (by decide +kernel) ⟨(Nat.le_of_ble_eq_true rfl), (Nat.le_of_ble_eq_true rfl)⟩) (x_preV (q := (RX12, TX12, 86)) hH hK (q_obj (by decide) (rfl : kd 36 = 12) (by decide)) rfl gxb (gxw hE hS (x_F hH hS hA))) rfl rfl hl.1 rfl (lv_room (Nat.le_of_ble_eq_true rfl)) dX12_define_74 ⟨(Nat.le_of_ble_eq_true rfl), (Nat.le_of_ble_eq_true rfl)⟩) hH hS hA rfl rfl (fun r_44 im_46 H locs hw_45 hH hS => ?_)
      have hH : sj_H D A (hwc g ka im_46 r L d) H := hH
      obtain ⟨hO_48, hfr_47, hr_49, he_50⟩ := hw_45
      have hr_49 : (0 : Int) ≤ r_44.toInt ∧ r_44.toInt ≤ 1 := hr_49
      refine lv_if_eq (tgt := 82) hx hb dX12_define_77 (by decide) (fun c_51 => ?_) (fun c_51 => ?_)
      · skip
        have h_52 := s_eq (rfl : r_44.toInt = _) (show (0 : Int32).toInt = 0 from rfl) c_51
        exfalso; omega
      · skip
        have h_53 := s_ne (rfl : r_44.toInt = _) (show (0 : Int32).toInt = 0 from rfl) c_51
        refine lv_iconst (v := 0) hx hb dX12_define_80 (by decide) ?_
        have hp_54 : (im_46 36 2).toInt = (0 : Int32).toInt := congrArg Int32.toInt (((hfr_47 36 2 (by omega)).trans (up2_at _ _ _ _)))
        have hl_55 : (0 : Int32).toInt = 0 := rfl
        have hV_56 : (im_46 36 2).toInt = 0 := (by omega)
        have hV_57 : DI im_46 := (DI_fr hdi ((hfr_47 36 41 (by omega)).trans ((up2_o _ _ (by omega)).trans ((hfr_14 36 41 (by omega)).trans (hfr_5 36 41 (by omega))))) (funext fun b9 => ((hfr_47 403 b9 (by omega)).trans ((up2_o _ _ (by omega)).trans ((hfr_14 403 b9 (by omega)).trans (hfr_5 403 b9 (by omega)))))) (funext fun b9 => ((hfr_47 404 b9 (by omega)).trans ((up2_o _ _ (by omega)).trans ((hfr_14 404 b9 (by omega)).trans (hfr_5 404 b9 (by omega)))))))
        have hp_58 : (im_46 36 0).toInt = ((im_46 36 0) : Int32).toInt := rfl
        have hp_59 : (im_46 36 41).toInt = ((i 36 41) : Int32).toInt := congrArg Int32.toInt (((hfr_47 36 41 (by omega)).trans ((up2_k _ _ (by decide)).trans ((hfr_14 36 41 (by omega)).trans (hfr_5 36 41 (by omega))))))
        have hV_60 : ((im_46 36 0).toInt = 0 ∧ (prOK (lnL (i 379) 0 (i 36 2).toInt) ∧ (0 ≤ x.toInt ∧ x.toInt < 8) ∧ (i 36 41).toInt < 12) ∧ (0 : Int32).toInt = (i 36 41).toInt ∧ (im_46 36 41).toInt = (i 36 41).toInt + 1) ∨ ((im_46 36 0).toInt = 2 ∧ ¬ (prOK (lnL (i 379) 0 (i 36 2).toInt) ∧ (0 ≤ x.toInt ∧ x.toInt < 8)) ∧ (im_46 36 41).toInt = (i 36 41).toInt) ∨ ((im_46 36 0).toInt = 3 ∧ (prOK (lnL (i 379) 0 (i 36 2).toInt) ∧ (0 ≤ x.toInt ∧ x.toInt < 8)) ∧ (i 36 41).toInt = 12 ∧ (im_46 36 41).toInt = (i 36 41).toInt) := (Or.inr (Or.inl ⟨by omega, fun q => by have q1 := q.2; omega, by omega⟩))
        exact sj_zret hx hb hr hlocks rfl hS im_46 ⟨hO_48, (fun a b ha => ((hfr_47 a b (by omega)).trans ((up2_o _ _ (by omega)).trans ((hfr_14 a b (by omega)).trans (hfr_5 a b (by omega)))))), hV_56, hV_57, hV_60⟩ hH (sj_Knil hK) (Nat.le_of_ble_eq_true rfl) (Nat.le_of_ble_eq_true rfl) dX12_define_81
    · skip
      have h_61 := s_nlt (rfl : x.toInt = _) (show (0 : Int32).toInt = 0 from rfl) c_40
      refine lv_iload_n hx hb dX12_define_29 rfl (lv_at hl 1 rfl) ?_
      refine lv_bipush (v := 8) hx hb dX12_define_30 (by decide) ?_
      refine lv_icmp_ge (tgt := 39) hx hb dX12_define_32 (by decide) (fun c_62 => ?_) (fun c_62 => ?_)
      · skip
        have h_63 := s_le (show (8 : Int32).toInt = 8 from rfl) (rfl : x.toInt = _) c_62
        refine lv_iconst (v := 0) hx hb dX12_define_39 (by decide) ?_
        refine lv_istore_n (lv' := [(2, .int 0), (0, .ref (g 36)), (1, .int x)]) hx hb dX12_define_40 rfl hl (by decide) rfl (fun ls hl => ?_)
        refine lv_aload_n hx hb dX12_define_41 rfl (lv_at hl 1 rfl) ?_
        refine h_geti (ci := 12) (C := RX12) (F := TX12) (N := 86) hx hb hts in12 hown hK hH (by decide) (rfl : kd 36 = 12) (by decide) rfl 2 (by decide) wd1 (fun _ h9 => h9) (by decide) rfl dX12_define_42 ?_
        refine sj_i (y := (i 36 2)) ((hfr_14 36 2 (by omega)).trans (hfr_5 36 2 (by omega))) ?_
        refine lv_istore_n (lv' := [(3, .int (i 36 2)), (2, .int 0), (0, .ref (g 36)), (1, .int x)]) hx hb dX12_define_45 rfl hl (by decide) rfl (fun ls hl => ?_)
        refine lv_aload_n hx hb dX12_define_46 rfl (lv_at hl 2 rfl) ?_
        refine lv_iconst (v := 0) hx hb dX12_define_47 (by decide) ?_
        have hO_64 := okp hO_15 (n := 36) (k := 2) (v := 0) (show (0 : Int) ≤ (0 : Int32).toInt ∧ (0 : Int32).toInt ≤ 480 from ⟨by decide, by decide⟩)
        refine h_puti (ty := .int) (ci := 12) (C := RX12) (F := TX12) (N := 86) hx hb hts in12 tyX12 tyX12_ok nmX12 hown hK hH hS (by decide) (rfl : kd 36 = 12) (by decide) rfl 2 (by decide) wd1 (fun _ h9 => h9) rfl (by decide +kernel) rfl rfl (by decide) rfl dX12_define_48 (fun H locs hH hS => ?_)
        refine lv_aload_n hx hb dX12_define_51 rfl (lv_at hl 2 rfl) ?_
        refine lv_iload_n hx hb dX12_define_52 rfl (lv_at hl 1 rfl) ?_
        refine lv_if_ne (tgt := 60) hx hb dX12_define_53 (by decide) (fun h => absurd (by decide) h) (fun _ => ?_)
        refine lv_iconst (v := 2) hx hb dX12_define_56 (by decide) ?_
        refine lv_goto (tgt := 74) hx hb dX12_define_57 (by decide) ?_
        have hl_65 : (2 : Int32).toInt = 2 := rfl
        refine x_calli (va_runV (As := [.int 2]) (rest := []) ⟨hx, hb, hml, hown, hts⟩ (mv_throwsNow l D g ka ad (up2 im_13 36 2 0) r L d 2 hO_64 hR H.size (by first | omega | decide) (by first | omega | decide)) (cwV 1 hts gX12_define_X12_throwsNow rfl rfl rfl (by decide +kernel) ⟨(Nat.le_of_ble_eq_true rfl), (Nat.le_of_ble_eq_true rfl)⟩) (x_preV (q := (RX12, TX12, 86)) hH hK (q_obj (by decide) (rfl : kd 36 = 12) (by decide)) rfl gxb (gxw hE hS (x_F hH hS hA))) rfl rfl hl.1 rfl (lv_room (Nat.le_of_ble_eq_true rfl)) dX12_define_74 ⟨(Nat.le_of_ble_eq_true rfl), (Nat.le_of_ble_eq_true rfl)⟩) hH hS hA rfl rfl (fun r_66 im_68 H locs hw_67 hH hS => ?_)
        have hH : sj_H D A (hwc g ka im_68 r L d) H := hH
        obtain ⟨hO_70, hfr_69, hr_71, he_72⟩ := hw_67
        have hr_71 : (0 : Int) ≤ r_66.toInt ∧ r_66.toInt ≤ 1 := hr_71
        refine lv_if_eq (tgt := 82) hx hb dX12_define_77 (by decide) (fun c_73 => ?_) (fun c_73 => ?_)
        · skip
          have h_74 := s_eq (rfl : r_66.toInt = _) (show (0 : Int32).toInt = 0 from rfl) c_73
          exfalso; omega
        · skip
          have h_75 := s_ne (rfl : r_66.toInt = _) (show (0 : Int32).toInt = 0 from rfl) c_73
          refine lv_iconst (v := 0) hx hb dX12_define_80 (by decide) ?_
          have hp_76 : (im_68 36 2).toInt = (0 : Int32).toInt := congrArg Int32.toInt (((hfr_69 36 2 (by omega)).trans (up2_at _ _ _ _)))
          have hl_77 : (0 : Int32).toInt = 0 := rfl
          have hV_78 : (im_68 36 2).toInt = 0 := (by omega)
          have hV_79 : DI im_68 := (DI_fr hdi ((hfr_69 36 41 (by omega)).trans ((up2_o _ _ (by omega)).trans ((hfr_14 36 41 (by omega)).trans (hfr_5 36 41 (by omega))))) (funext fun b9 => ((hfr_69 403 b9 (by omega)).trans ((up2_o _ _ (by omega)).trans ((hfr_14 403 b9 (by omega)).trans (hfr_5 403 b9 (by omega)))))) (funext fun b9 => ((hfr_69 404 b9 (by omega)).trans ((up2_o _ _ (by omega)).trans ((hfr_14 404 b9 (by omega)).trans (hfr_5 404 b9 (by omega)))))))
          have hp_80 : (im_68 36 0).toInt = ((im_68 36 0) : Int32).toInt := rfl
          have hp_81 : (im_68 36 41).toInt = ((i 36 41) : Int32).toInt := congrArg Int32.toInt (((hfr_69 36 41 (by omega)).trans ((up2_k _ _ (by decide)).trans ((hfr_14 36 41 (by omega)).trans (hfr_5 36 41 (by omega))))))
          have hV_82 : ((im_68 36 0).toInt = 0 ∧ (prOK (lnL (i 379) 0 (i 36 2).toInt) ∧ (0 ≤ x.toInt ∧ x.toInt < 8) ∧ (i 36 41).toInt < 12) ∧ (0 : Int32).toInt = (i 36 41).toInt ∧ (im_68 36 41).toInt = (i 36 41).toInt + 1) ∨ ((im_68 36 0).toInt = 2 ∧ ¬ (prOK (lnL (i 379) 0 (i 36 2).toInt) ∧ (0 ≤ x.toInt ∧ x.toInt < 8)) ∧ (im_68 36 41).toInt = (i 36 41).toInt) ∨ ((im_68 36 0).toInt = 3 ∧ (prOK (lnL (i 379) 0 (i 36 2).toInt) ∧ (0 ≤ x.toInt ∧ x.toInt < 8)) ∧ (i 36 41).toInt = 12 ∧ (im_68 36 41).toInt = (i 36 41).toInt) := (Or.inr (Or.inl ⟨by omega, fun q => by have q1 := q.2; omega, by omega⟩))
          exact sj_zret hx hb hr hlocks rfl hS im_68 ⟨hO_70, (fun a b ha => ((hfr_69 a b (by omega)).trans ((up2_o _ _ (by omega)).trans ((hfr_14 a b (by omega)).trans (hfr_5 a b (by omega)))))), hV_78, hV_79, hV_82⟩ hH (sj_Knil hK) (Nat.le_of_ble_eq_true rfl) (Nat.le_of_ble_eq_true rfl) dX12_define_81
      · skip
        have h_83 := s_nle (show (8 : Int32).toInt = 8 from rfl) (rfl : x.toInt = _) c_62
        refine lv_iconst (v := 1) hx hb dX12_define_35 (by decide) ?_
        refine lv_goto (tgt := 40) hx hb dX12_define_36 (by decide) ?_
        refine lv_istore_n (lv' := [(2, .int 1), (0, .ref (g 36)), (1, .int x)]) hx hb dX12_define_40 rfl hl (by decide) rfl (fun ls hl => ?_)
        refine lv_aload_n hx hb dX12_define_41 rfl (lv_at hl 1 rfl) ?_
        refine h_geti (ci := 12) (C := RX12) (F := TX12) (N := 86) hx hb hts in12 hown hK hH (by decide) (rfl : kd 36 = 12) (by decide) rfl 2 (by decide) wd1 (fun _ h9 => h9) (by decide) rfl dX12_define_42 ?_
        refine sj_i (y := (i 36 2)) ((hfr_14 36 2 (by omega)).trans (hfr_5 36 2 (by omega))) ?_
        refine lv_istore_n (lv' := [(3, .int (i 36 2)), (2, .int 1), (0, .ref (g 36)), (1, .int x)]) hx hb dX12_define_45 rfl hl (by decide) rfl (fun ls hl => ?_)
        refine lv_aload_n hx hb dX12_define_46 rfl (lv_at hl 2 rfl) ?_
        refine lv_iconst (v := 0) hx hb dX12_define_47 (by decide) ?_
        have hO_84 := okp hO_15 (n := 36) (k := 2) (v := 0) (show (0 : Int) ≤ (0 : Int32).toInt ∧ (0 : Int32).toInt ≤ 480 from ⟨by decide, by decide⟩)
        refine h_puti (ty := .int) (ci := 12) (C := RX12) (F := TX12) (N := 86) hx hb hts in12 tyX12 tyX12_ok nmX12 hown hK hH hS (by decide) (rfl : kd 36 = 12) (by decide) rfl 2 (by decide) wd1 (fun _ h9 => h9) rfl (by decide +kernel) rfl rfl (by decide) rfl dX12_define_48 (fun H locs hH hS => ?_)
        refine lv_aload_n hx hb dX12_define_51 rfl (lv_at hl 2 rfl) ?_
        refine lv_iload_n hx hb dX12_define_52 rfl (lv_at hl 1 rfl) ?_
        refine lv_if_ne (tgt := 60) hx hb dX12_define_53 (by decide) (fun _ => ?_) (fun h => absurd h (by decide))
        refine lv_aload_n hx hb dX12_define_60 rfl (lv_at hl 2 rfl) ?_
        have bx_85 : (0 : Int) ≤ (i 36 41).toInt ∧ (i 36 41).toInt ≤ 12 := hO 36 41
        refine h_geti (ci := 12) (C := RX12) (F := TX12) (N := 86) hx hb hts in12 hown hK hH (by decide) (rfl : kd 36 = 12) (by decide) rfl 41 (by decide) wd2 (fun _ h9 => h9) (by decide) rfl dX12_define_61 ?_
        refine sj_i (y := (i 36 41)) ((up2_k _ _ (by decide)).trans ((hfr_14 36 41 (by omega)).trans (hfr_5 36 41 (by omega)))) ?_
        refine lv_bipush (v := 12) hx hb dX12_define_64 (by decide) ?_
        refine lv_icmp_ne (tgt := 73) hx hb dX12_define_66 (by decide) (fun c_86 => ?_) (fun c_86 => ?_)
        · skip
          have h_87 := s_ne (rfl : (i 36 41).toInt = _) (show (12 : Int32).toInt = 12 from rfl) c_86
          refine lv_iconst (v := 0) hx hb dX12_define_73 (by decide) ?_
          have hl_88 : (0 : Int32).toInt = 0 := rfl
          refine x_calli (va_runV (As := [.int 0]) (rest := []) ⟨hx, hb, hml, hown, hts⟩ (mv_throwsNow l D g ka ad (up2 im_13 36 2 0) r L d 0 hO_84 hR H.size (by first | omega | decide) (by first | omega | decide)) (cwV 1 hts gX12_define_X12_throwsNow rfl rfl rfl (by decide +kernel) ⟨(Nat.le_of_ble_eq_true rfl), (Nat.le_of_ble_eq_true rfl)⟩) (x_preV (q := (RX12, TX12, 86)) hH hK (q_obj (by decide) (rfl : kd 36 = 12) (by decide)) rfl gxb (gxw hE hS (x_F hH hS hA))) rfl rfl hl.1 rfl (lv_room (Nat.le_of_ble_eq_true rfl)) dX12_define_74 ⟨(Nat.le_of_ble_eq_true rfl), (Nat.le_of_ble_eq_true rfl)⟩) hH hS hA rfl rfl (fun r_89 im_91 H locs hw_90 hH hS => ?_)
          have hH : sj_H D A (hwc g ka im_91 r L d) H := hH
          obtain ⟨hO_93, hfr_92, hr_94, he_95⟩ := hw_90
          have hr_94 : (0 : Int) ≤ r_89.toInt ∧ r_89.toInt ≤ 1 := hr_94
          refine lv_if_eq (tgt := 82) hx hb dX12_define_77 (by decide) (fun c_96 => ?_) (fun c_96 => ?_)
          · skip
            have h_97 := s_eq (rfl : r_89.toInt = _) (show (0 : Int32).toInt = 0 from rfl) c_96
            refine lv_iconst (v := 0) hx hb dX12_define_82 (by decide) ?_
            refine lv_istore (lv' := [(4, .int 0), (3, .int (i 36 2)), (2, .int 1), (0, .ref (g 36)), (1, .int x)]) hx hb dX12_define_83 hl (by decide) rfl (fun ls hl => ?_)
            -- loop at 85
            have lp_98 : ∀ (fuel_lp_98 : Nat) (f : Int32) (j1 : Nat → Nat → Int32) (H : Heap) (locs : List Loc) (ls : Array Slot), (60 - f.toInt).toNat < fuel_lp_98 → (0 : Int) ≤ f.toInt ∧ f.toInt ≤ 60 → f.toInt ≤ (i 36 2).toInt → (∀ k : Nat, (k : Int) < f.toInt → (j1 403 ((60 * (i 36 41).toInt).toNat + k)).toInt = (i 379 k).toInt) → (∀ k : Nat, ((k : Int) < 60 * (i 36 41).toInt ∨ 60 * (i 36 41).toInt + 60 ≤ (k : Int)) → j1 403 k = i 403 k) → OkI j1 → (∀ a b, ¬ (a = 403) → j1 a b = im_91 a b) → lv_has ls 5 [(4, .int f), (3, .int (i 36 2)), (2, .int 1), (0, .ref (g 36)), (1, .int x)] → sj_H D A (hwc g ka j1 r L d) H → va_S A s.heap H locs → W p l e (headSpec wsX12_define ({ frames := 3, cells := 0, slots := 0, locals := 72 })).room s m ([.ref (g 36), .int x] : List Value).toArray below meth c H locs 0 0 (MQ below (sj_Qi (S := (Nat → Nat → Int32)) D (fun v u => OkI u ∧ (∀ a b, ¬ ((a = 36 ∧ (b = 0 ∨ b = 2 ∨ b = 41 ∨ b = 45 ∨ b = 49 ∨ b = 52 ∨ b = 54 ∨ b = 55)) ∨ a = 403 ∨ a = 404 ∨ a = 405 ∨ a = 406 ∨ a = 407 ∨ a = 408 ∨ a = 409 ∨ a = 410 ∨ a = 411) → u a b = i a b) ∧ ((u 36 2).toInt = 0) ∧ (DI u) ∧ (((u 36 0).toInt = 0 ∧ (prOK (lnL (i 379) 0 (i 36 2).toInt) ∧ (0 ≤ x.toInt ∧ x.toInt < 8) ∧ (i 36 41).toInt < 12) ∧ v.toInt = (i 36 41).toInt ∧ (u 36 41).toInt = (i 36 41).toInt + 1) ∨ ((u 36 0).toInt = 2 ∧ ¬ (prOK (lnL (i 379) 0 (i 36 2).toInt) ∧ (0 ≤ x.toInt ∧ x.toInt < 8)) ∧ (u 36 41).toInt = (i 36 41).toInt) ∨ ((u 36 0).toInt = 3 ∧ (prOK (lnL (i 379) 0 (i 36 2).toInt) ∧ (0 ≤ x.toInt ∧ x.toInt < 8)) ∧ (i 36 41).toInt = 12 ∧ (u 36 41).toInt = (i 36 41).toInt))) (fun u => hwc g ka u r L d) (fun _ => []) A) ([.ref (g 36), .int x] : List Value).toArray s 0 0 A) (F0 m 85 ls []) := by
              intro fuel_lp_98
              induction fuel_lp_98 with
              | zero => intros; omega
              | succ fuel_lp_98 ih_lp_98 =>
                intro f j1 H locs ls hm hr_f hi_lp_98_0 hi_lp_98_1 hi_lp_98_2 hO_j1 hfr_j1 hl hH hS
                refine lv_iload hx hb dX12_define_85 (lv_at hl 0 rfl) ?_
                refine lv_iload_n hx hb dX12_define_87 rfl (lv_at hl 1 rfl) ?_
                refine lv_icmp_ge (tgt := 119) hx hb dX12_define_88 (by decide) (fun c_99 => ?_) (fun c_99 => ?_)
                · skip
                  have h_100 := s_le (rfl : (i 36 2).toInt = _) (rfl : f.toInt = _) c_99
                  refine lv_aload_n hx hb dX12_define_119 rfl (lv_at hl 3 rfl) ?_
                  refine h_getr (ci := 12) (C := RX12) (F := TX12) (N := 86) hx hb hts in12 hown hK hH (by decide) (rfl : kd 36 = 12) (by decide) rfl 43 (by decide) wd3 (fun _ h9 => h9) (by decide) rfl (t := 404) (hR 36 43 rfl) (by decide) dX12_define_120 ?_
                  refine lv_aload_n hx hb dX12_define_123 rfl (lv_at hl 3 rfl) ?_
                  refine h_geti (ci := 12) (C := RX12) (F := TX12) (N := 86) hx hb hts in12 hown hK hH (by decide) (rfl : kd 36 = 12) (by decide) rfl 41 (by decide) wd2 (fun _ h9 => h9) (by decide) rfl dX12_define_124 ?_
                  refine sj_i (y := (i 36 41)) ((hfr_j1 36 41 (by omega)).trans ((hfr_92 36 41 (by omega)).trans ((up2_k _ _ (by decide)).trans ((hfr_14 36 41 (by omega)).trans (hfr_5 36 41 (by omega)))))) ?_
                  refine lv_iload_n hx hb dX12_define_127 rfl (lv_at hl 1 rfl) ?_
                  have hO_101 := okp hO_j1 (n := 404) (k := ((i 36 41).toInt).toNat) (v := (i 36 2)) (show (0 : Int) ≤ ((i 36 2) : Int32).toInt ∧ ((i 36 2) : Int32).toInt ≤ 60 from ⟨by omega, by omega⟩)
                  refine h_iast hx hb hK hH hS (by decide) (rfl : kd 404 = 13) (s_vin (N := 12) (rfl : (i 36 41).toInt = _) (rfl : ln 404 = 12) (by omega) (by omega)) dX12_define_128 (fun H locs hH hS => ?_)
                  rw [s_cl (show (i 36 41).toInt = (i 36 41).toInt by omega)] at hH
                  refine lv_aload_n hx hb dX12_define_129 rfl (lv_at hl 3 rfl) ?_
                  refine h_getr (ci := 12) (C := RX12) (F := TX12) (N := 86) hx hb hts in12 hown hK hH (by decide) (rfl : kd 36 = 12) (by decide) rfl 44 (by decide) wd4 (fun _ h9 => h9) (by decide) rfl (t := 405) (hR 36 44 rfl) (by decide) dX12_define_130 ?_
                  refine lv_aload_n hx hb dX12_define_133 rfl (lv_at hl 3 rfl) ?_
                  refine h_geti (ci := 12) (C := RX12) (F := TX12) (N := 86) hx hb hts in12 hown hK hH (by decide) (rfl : kd 36 = 12) (by decide) rfl 41 (by decide) wd2 (fun _ h9 => h9) (by decide) rfl dX12_define_134 ?_
                  refine sj_i (y := (i 36 41)) ((congrFun (up2_n _ _ (by decide)) _).trans ((hfr_j1 36 41 (by omega)).trans ((hfr_92 36 41 (by omega)).trans ((up2_k _ _ (by decide)).trans ((hfr_14 36 41 (by omega)).trans (hfr_5 36 41 (by omega))))))) ?_
                  refine lv_iload_n hx hb dX12_define_137 rfl (lv_at hl 4 rfl) ?_
                  have hO_102 := okp hO_101 (n := 405) (k := ((i 36 41).toInt).toNat) (v := x) (show (0 : Int) ≤ (x : Int32).toInt ∧ (x : Int32).toInt ≤ 7 from ⟨by omega, by omega⟩)
                  refine h_iast hx hb hK hH hS (by decide) (rfl : kd 405 = 13) (s_vin (N := 12) (rfl : (i 36 41).toInt = _) (rfl : ln 405 = 12) (by omega) (by omega)) dX12_define_138 (fun H locs hH hS => ?_)
                  rw [s_cl (show (i 36 41).toInt = (i 36 41).toInt by omega)] at hH
                  refine lv_aload_n hx hb dX12_define_139 rfl (lv_at hl 3 rfl) ?_
                  refine lv_dup hx hb dX12_define_140 rfl ?_
                  refine h_geti (ci := 12) (C := RX12) (F := TX12) (N := 86) hx hb hts in12 hown hK hH (by decide) (rfl : kd 36 = 12) (by decide) rfl 41 (by decide) wd2 (fun _ h9 => h9) (by decide) rfl dX12_define_141 ?_
                  refine sj_i (y := (i 36 41)) ((congrFun (up2_n _ _ (by decide)) _).trans ((congrFun (up2_n _ _ (by decide)) _).trans ((hfr_j1 36 41 (by omega)).trans ((hfr_92 36 41 (by omega)).trans ((up2_k _ _ (by decide)).trans ((hfr_14 36 41 (by omega)).trans (hfr_5 36 41 (by omega)))))))) ?_
                  refine lv_iconst (v := 1) hx hb dX12_define_144 (by decide) ?_
                  refine lv_iadd hx hb dX12_define_145 ?_
                  obtain ⟨z_103, ez_103, hz_103⟩ := s_add (rfl : (i 36 41).toInt = _) (show (1 : Int32).toInt = 1 from rfl) (by omega) (by omega)
                  refine sj_i ez_103 ?_
                  have hO_104 := okp hO_102 (n := 36) (k := 41) (v := z_103) (show (0 : Int) ≤ (z_103 : Int32).toInt ∧ (z_103 : Int32).toInt ≤ 12 from ⟨by omega, by omega⟩)
                  refine h_puti (ty := .int) (ci := 12) (C := RX12) (F := TX12) (N := 86) hx hb hts in12 tyX12 tyX12_ok nmX12 hown hK hH hS (by decide) (rfl : kd 36 = 12) (by decide) rfl 41 (by decide) wd2 (fun _ h9 => h9) rfl (by decide +kernel) rfl rfl (by decide) rfl dX12_define_146 (fun H locs hH hS => ?_)
                  refine lv_aload_n hx hb dX12_define_149 rfl (lv_at hl 3 rfl) ?_
                  refine h_geti (ci := 12) (C := RX12) (F := TX12) (N := 86) hx hb hts in12 hown hK hH (by decide) (rfl : kd 36 = 12) (by decide) rfl 41 (by decide) wd2 (fun _ h9 => h9) (by decide) rfl dX12_define_150 ?_
                  refine sj_i (y := z_103) (up2_at _ _ _ _) ?_
                  refine lv_iconst (v := 1) hx hb dX12_define_153 (by decide) ?_
                  refine lv_isub hx hb dX12_define_154 ?_
                  obtain ⟨z_105, ez_105, hz_105⟩ := s_sub (rfl : z_103.toInt = _) (show (1 : Int32).toInt = 1 from rfl) (by omega) (by omega)
                  refine sj_i ez_105 ?_
                  have hp_106 : ((up2 (up2 (up2 j1 404 ((i 36 41).toInt).toNat (i 36 2)) 405 ((i 36 41).toInt).toNat x) 36 41 z_103) 36 2).toInt = (0 : Int32).toInt := congrArg Int32.toInt (((up2_k _ _ (by decide)).trans ((congrFun (up2_n _ _ (by decide)) _).trans ((congrFun (up2_n _ _ (by decide)) _).trans ((hfr_j1 36 2 (by omega)).trans ((hfr_92 36 2 (by omega)).trans (up2_at _ _ _ _)))))))
                  have hl_107 : (0 : Int32).toInt = 0 := rfl
                  have hV_108 : ((up2 (up2 (up2 j1 404 ((i 36 41).toInt).toNat (i 36 2)) 405 ((i 36 41).toInt).toNat x) 36 41 z_103) 36 2).toInt = 0 := (by omega)
                  have hp_109 : ((up2 (up2 (up2 j1 404 ((i 36 41).toInt).toNat (i 36 2)) 405 ((i 36 41).toInt).toNat x) 36 41 z_103) 36 41).toInt = (z_103 : Int32).toInt := congrArg Int32.toInt ((up2_at _ _ _ _))
                  have hq4 : ((up2 (up2 (up2 j1 404 ((i 36 41).toInt).toNat (i 36 2)) 405 ((i 36 41).toInt).toNat x) 36 41 z_103) 404 (i 36 41).toInt.toNat).toInt = ((i 36 2) : Int32).toInt := congrArg Int32.toInt (((congrFun (up2_n _ _ (by decide)) _).trans ((congrFun (up2_n _ _ (by decide)) _).trans (up2_at _ _ _ _))))
                  have hV_110 : DI (up2 (up2 (up2 j1 404 ((i 36 41).toInt).toNat (i 36 2)) 405 ((i 36 41).toInt).toNat x) 36 41 z_103) := (DI_new hdi (by omega) (by omega) (by omega) hpk h60 (by omega) (fun k hk => (congrArg Int32.toInt (show (up2 (up2 (up2 j1 404 ((i 36 41).toInt).toNat (i 36 2)) 405 ((i 36 41).toInt).toNat x) 36 41 z_103) 403 _ = j1 403 _ from ((up2_o _ _ (by omega)).trans ((up2_o _ _ (by omega)).trans (up2_o _ _ (by omega)))))).trans (hi_lp_98_1 k (by omega))) (fun k hk => (show (up2 (up2 (up2 j1 404 ((i 36 41).toInt).toNat (i 36 2)) 405 ((i 36 41).toInt).toNat x) 36 41 z_103) 403 k = j1 403 k from ((up2_o _ _ (by omega)).trans ((up2_o _ _ (by omega)).trans (up2_o _ _ (by omega))))).trans (hi_lp_98_2 k hk)) (fun k hk => ((up2_o _ _ (by omega)).trans ((up2_o _ _ (by omega)).trans ((up2_o _ _ (by omega)).trans ((hfr_j1 404 k (by omega)).trans ((hfr_92 404 k (by omega)).trans ((up2_o _ _ (by omega)).trans ((hfr_14 404 k (by omega)).trans (hfr_5 404 k (by omega)))))))))) (hO 404))
                  have hp_111 : ((up2 (up2 (up2 j1 404 ((i 36 41).toInt).toNat (i 36 2)) 405 ((i 36 41).toInt).toNat x) 36 41 z_103) 36 0).toInt = ((im_91 36 0) : Int32).toInt := congrArg Int32.toInt (((up2_k _ _ (by decide)).trans ((congrFun (up2_n _ _ (by decide)) _).trans ((congrFun (up2_n _ _ (by decide)) _).trans (hfr_j1 36 0 (by omega))))))
                  have hp_112 : ((up2 (up2 (up2 j1 404 ((i 36 41).toInt).toNat (i 36 2)) 405 ((i 36 41).toInt).toNat x) 36 41 z_103) 36 41).toInt = (z_103 : Int32).toInt := congrArg Int32.toInt ((up2_at _ _ _ _))
                  have hV_113 : (((up2 (up2 (up2 j1 404 ((i 36 41).toInt).toNat (i 36 2)) 405 ((i 36 41).toInt).toNat x) 36 41 z_103) 36 0).toInt = 0 ∧ (prOK (lnL (i 379) 0 (i 36 2).toInt) ∧ (0 ≤ x.toInt ∧ x.toInt < 8) ∧ (i 36 41).toInt < 12) ∧ (z_105 : Int32).toInt = (i 36 41).toInt ∧ ((up2 (up2 (up2 j1 404 ((i 36 41).toInt).toNat (i 36 2)) 405 ((i 36 41).toInt).toNat x) 36 41 z_103) 36 41).toInt = (i 36 41).toInt + 1) ∨ (((up2 (up2 (up2 j1 404 ((i 36 41).toInt).toNat (i 36 2)) 405 ((i 36 41).toInt).toNat x) 36 41 z_103) 36 0).toInt = 2 ∧ ¬ (prOK (lnL (i 379) 0 (i 36 2).toInt) ∧ (0 ≤ x.toInt ∧ x.toInt < 8)) ∧ ((up2 (up2 (up2 j1 404 ((i 36 41).toInt).toNat (i 36 2)) 405 ((i 36 41).toInt).toNat x) 36 41 z_103) 36 41).toInt = (i 36 41).toInt) ∨ (((up2 (up2 (up2 j1 404 ((i 36 41).toInt).toNat (i 36 2)) 405 ((i 36 41).toInt).toNat x) 36 41 z_103) 36 0).toInt = 3 ∧ (prOK (lnL (i 379) 0 (i 36 2).toInt) ∧ (0 ≤ x.toInt ∧ x.toInt < 8)) ∧ (i 36 41).toInt = 12 ∧ ((up2 (up2 (up2 j1 404 ((i 36 41).toInt).toNat (i 36 2)) 405 ((i 36 41).toInt).toNat x) 36 41 z_103) 36 41).toInt = (i 36 41).toInt) := (Or.inl ⟨by omega, ⟨hpk, ⟨by omega, by omega⟩, by omega⟩, by omega, by omega⟩)
                  exact sj_zret hx hb hr hlocks rfl hS (up2 (up2 (up2 j1 404 ((i 36 41).toInt).toNat (i 36 2)) 405 ((i 36 41).toInt).toNat x) 36 41 z_103) ⟨hO_104, (fun a b ha => ((up2_o _ _ (by omega)).trans ((up2_o _ _ (by omega)).trans ((up2_o _ _ (by omega)).trans ((hfr_j1 a b (by omega)).trans ((hfr_92 a b (by omega)).trans ((up2_o _ _ (by omega)).trans ((hfr_14 a b (by omega)).trans (hfr_5 a b (by omega)))))))))), hV_108, hV_110, hV_113⟩ hH (sj_Knil hK) (Nat.le_of_ble_eq_true rfl) (Nat.le_of_ble_eq_true rfl) dX12_define_155
                · skip
                  have h_114 := s_nle (rfl : (i 36 2).toInt = _) (rfl : f.toInt = _) c_99
                  refine lv_aload_n hx hb dX12_define_91 rfl (lv_at hl 3 rfl) ?_
                  refine h_getr (ci := 12) (C := RX12) (F := TX12) (N := 86) hx hb hts in12 hown hK hH (by decide) (rfl : kd 36 = 12) (by decide) rfl 42 (by decide) wd5 (fun _ h9 => h9) (by decide) rfl (t := 403) (hR 36 42 rfl) (by decide) dX12_define_92 ?_
                  refine lv_bipush (v := 60) hx hb dX12_define_95 (by decide) ?_
                  refine lv_aload_n hx hb dX12_define_97 rfl (lv_at hl 3 rfl) ?_
                  refine h_geti (ci := 12) (C := RX12) (F := TX12) (N := 86) hx hb hts in12 hown hK hH (by decide) (rfl : kd 36 = 12) (by decide) rfl 41 (by decide) wd2 (fun _ h9 => h9) (by decide) rfl dX12_define_98 ?_
                  refine sj_i (y := (i 36 41)) ((hfr_j1 36 41 (by omega)).trans ((hfr_92 36 41 (by omega)).trans ((up2_k _ _ (by decide)).trans ((hfr_14 36 41 (by omega)).trans (hfr_5 36 41 (by omega)))))) ?_
                  refine lv_imul hx hb dX12_define_101 ?_
                  obtain ⟨z_115, ez_115, hz_115⟩ := s_mul (show (60 : Int32).toInt = 60 from rfl) (rfl : (i 36 41).toInt = _) (by omega) (by omega)
                  refine sj_i ez_115 ?_
                  refine lv_iload hx hb dX12_define_102 (lv_at hl 0 rfl) ?_
                  refine lv_iadd hx hb dX12_define_104 ?_
                  obtain ⟨z_116, ez_116, hz_116⟩ := s_add (rfl : z_115.toInt = _) (rfl : f.toInt = _) (by omega) (by omega)
                  refine sj_i ez_116 ?_
                  refine lv_aload_n hx hb dX12_define_105 rfl (lv_at hl 3 rfl) ?_
                  refine h_getr (ci := 12) (C := RX12) (F := TX12) (N := 86) hx hb hts in12 hown hK hH (by decide) (rfl : kd 36 = 12) (by decide) rfl 1 (by decide) wd0 (fun _ h9 => h9) (by decide) rfl (t := 379) (hR 36 1 rfl) (by decide) dX12_define_106 ?_
                  refine lv_iload hx hb dX12_define_109 (lv_at hl 0 rfl) ?_
                  have bx_117 : (0 : Int) ≤ (i 379 (f.toInt).toNat).toInt ∧ (i 379 (f.toInt).toNat).toInt ≤ 65535 := hO 379 (f.toInt).toNat
                  refine h_cald hx hb hK hH (by decide) (rfl : kd 379 = 14) (s_vin (N := 480) (rfl : f.toInt = _) (rfl : ln 379 = 480) (by omega) (by omega)) dX12_define_111 ?_
                  have ek_118 : f.toNatClampNeg = (f.toInt).toNat := (s_cl (show f.toInt = f.toInt by omega))
                  refine sj_i (y := (i 379 (f.toInt).toNat)) (by rw [ek_118]; exact ((hfr_j1 379 (f.toInt).toNat (by omega)).trans ((hfr_92 379 (f.toInt).toNat (by omega)).trans ((congrFun (up2_n _ _ (by decide)) _).trans ((hfr_14 379 (f.toInt).toNat (by omega)).trans (hfr_5 379 (f.toInt).toNat (by omega))))))) ?_
                  obtain ⟨z_119, ez_119⟩ : ∃ z, vp_nar .char (i 379 (f.toInt).toNat) = z := ⟨_, rfl⟩
                  have hz_119 : z_119.toInt = (i 379 (f.toInt).toNat).toInt := by rw [← ez_119, s_narc (rfl : (i 379 (f.toInt).toNat).toInt = _) (by omega) (by omega)] <;> exact (rfl : (i 379 (f.toInt).toNat).toInt = _)
                  have hO_120 := okp hO_j1 (n := 403) (k := (60 * (i 36 41).toInt + f.toInt).toNat) (v := z_119) (show (0 : Int) ≤ (z_119 : Int32).toInt ∧ (z_119 : Int32).toInt ≤ 65535 from ⟨by omega, by omega⟩)
                  refine h_cast hx hb hK hH hS (by decide) (rfl : kd 403 = 14) (s_vin (N := 720) (rfl : z_116.toInt = _) (rfl : ln 403 = 720) (by omega) (by omega)) dX12_define_112 (fun H locs hH hS => ?_)
                  rw [ez_119] at hH
                  rw [s_cl (show z_116.toInt = 60 * (i 36 41).toInt + f.toInt by omega)] at hH
                  obtain ⟨z_121, ez_121, hz_121⟩ := s_add (rfl : f.toInt = _) (show (1 : Int32).toInt = 1 from rfl) (by omega) (by omega)
                  refine lv_iinc (v := z_121) (lv' := [(4, .int z_121), (3, .int (i 36 2)), (2, .int 1), (0, .ref (g 36)), (1, .int x)]) hx hb dX12_define_113 hl (k := 0) rfl ez_121 (by decide) rfl (fun ls hl => ?_)
                  refine lv_goto (tgt := 85) hx hb dX12_define_116 (by decide) ?_
                  exact ih_lp_98 z_121 _ _ _ ls (by omega) (by omega) (by omega) (fun k hk => by
                            by_cases q : (k : Int) < f.toInt
                            · rw [show (up2 j1 403 (60 * (i 36 41).toInt + f.toInt).toNat z_119) 403 ((60 * (i 36 41).toInt).toNat + k) = j1 403 ((60 * (i 36 41).toInt).toNat + k) from (up2_o _ _ (by omega))]; exact hi_lp_98_1 k q
                            · rw [show (60 * (i 36 41).toInt).toNat + k = (60 * (i 36 41).toInt + f.toInt).toNat by omega, up2_at, show k = (f.toInt).toNat by omega]; omega) (fun k hk => ((up2_o _ _ (by omega)).trans (hi_lp_98_2 k hk))) hO_120 (fun a b ha => ((up2_o _ _ (by omega)).trans (hfr_j1 a b (by omega)))) (lv_sub hl [0, 1, 2, 3, 4] rfl) hH hS
            have hl_122 : (0 : Int32).toInt = 0 := rfl
            exact lp_98 _ 0 _ _ _ ls (Nat.lt_succ_self _) (by omega) (by omega) (fun k hk => by exfalso; have : (0 : Int32).toInt = 0 := rfl; omega) (fun k hk => ((hfr_92 403 k (by omega)).trans ((up2_o _ _ (by omega)).trans ((hfr_14 403 k (by omega)).trans (hfr_5 403 k (by omega)))))) hO_93 (fun a b ha => rfl) (lv_sub hl [0, 1, 2, 3, 4] rfl) hH hS
          · skip
            have h_123 := s_ne (rfl : r_89.toInt = _) (show (0 : Int32).toInt = 0 from rfl) c_96
            exfalso; omega
        · skip
          have h_124 := s_eq (rfl : (i 36 41).toInt = _) (show (12 : Int32).toInt = 12 from rfl) c_86
          refine lv_iconst (v := 3) hx hb dX12_define_69 (by decide) ?_
          refine lv_goto (tgt := 74) hx hb dX12_define_70 (by decide) ?_
          have hl_125 : (3 : Int32).toInt = 3 := rfl
          refine x_calli (va_runV (As := [.int 3]) (rest := []) ⟨hx, hb, hml, hown, hts⟩ (mv_throwsNow l D g ka ad (up2 im_13 36 2 0) r L d 3 hO_84 hR H.size (by first | omega | decide) (by first | omega | decide)) (cwV 1 hts gX12_define_X12_throwsNow rfl rfl rfl (by decide +kernel) ⟨(Nat.le_of_ble_eq_true rfl), (Nat.le_of_ble_eq_true rfl)⟩) (x_preV (q := (RX12, TX12, 86)) hH hK (q_obj (by decide) (rfl : kd 36 = 12) (by decide)) rfl gxb (gxw hE hS (x_F hH hS hA))) rfl rfl hl.1 rfl (lv_room (Nat.le_of_ble_eq_true rfl)) dX12_define_74 ⟨(Nat.le_of_ble_eq_true rfl), (Nat.le_of_ble_eq_true rfl)⟩) hH hS hA rfl rfl (fun r_126 im_128 H locs hw_127 hH hS => ?_)
          have hH : sj_H D A (hwc g ka im_128 r L d) H := hH
          obtain ⟨hO_130, hfr_129, hr_131, he_132⟩ := hw_127
          have hr_131 : (0 : Int) ≤ r_126.toInt ∧ r_126.toInt ≤ 1 := hr_131
          refine lv_if_eq (tgt := 82) hx hb dX12_define_77 (by decide) (fun c_133 => ?_) (fun c_133 => ?_)
          · skip
            have h_134 := s_eq (rfl : r_126.toInt = _) (show (0 : Int32).toInt = 0 from rfl) c_133
            exfalso; omega
          · skip
            have h_135 := s_ne (rfl : r_126.toInt = _) (show (0 : Int32).toInt = 0 from rfl) c_133
            refine lv_iconst (v := 0) hx hb dX12_define_80 (by decide) ?_
            have hp_136 : (im_128 36 2).toInt = (0 : Int32).toInt := congrArg Int32.toInt (((hfr_129 36 2 (by omega)).trans (up2_at _ _ _ _)))
            have hl_137 : (0 : Int32).toInt = 0 := rfl
            have hV_138 : (im_128 36 2).toInt = 0 := (by omega)
            have hV_139 : DI im_128 := (DI_fr hdi ((hfr_129 36 41 (by omega)).trans ((up2_o _ _ (by omega)).trans ((hfr_14 36 41 (by omega)).trans (hfr_5 36 41 (by omega))))) (funext fun b9 => ((hfr_129 403 b9 (by omega)).trans ((up2_o _ _ (by omega)).trans ((hfr_14 403 b9 (by omega)).trans (hfr_5 403 b9 (by omega)))))) (funext fun b9 => ((hfr_129 404 b9 (by omega)).trans ((up2_o _ _ (by omega)).trans ((hfr_14 404 b9 (by omega)).trans (hfr_5 404 b9 (by omega)))))))
            have hp_140 : (im_128 36 0).toInt = ((im_128 36 0) : Int32).toInt := rfl
            have hp_141 : (im_128 36 41).toInt = ((i 36 41) : Int32).toInt := congrArg Int32.toInt (((hfr_129 36 41 (by omega)).trans ((up2_k _ _ (by decide)).trans ((hfr_14 36 41 (by omega)).trans (hfr_5 36 41 (by omega))))))
            have hV_142 : ((im_128 36 0).toInt = 0 ∧ (prOK (lnL (i 379) 0 (i 36 2).toInt) ∧ (0 ≤ x.toInt ∧ x.toInt < 8) ∧ (i 36 41).toInt < 12) ∧ (0 : Int32).toInt = (i 36 41).toInt ∧ (im_128 36 41).toInt = (i 36 41).toInt + 1) ∨ ((im_128 36 0).toInt = 2 ∧ ¬ (prOK (lnL (i 379) 0 (i 36 2).toInt) ∧ (0 ≤ x.toInt ∧ x.toInt < 8)) ∧ (im_128 36 41).toInt = (i 36 41).toInt) ∨ ((im_128 36 0).toInt = 3 ∧ (prOK (lnL (i 379) 0 (i 36 2).toInt) ∧ (0 ≤ x.toInt ∧ x.toInt < 8)) ∧ (i 36 41).toInt = 12 ∧ (im_128 36 41).toInt = (i 36 41).toInt) := (Or.inr (Or.inr ⟨by omega, ⟨hpk, by omega, by omega⟩, by omega, by omega⟩))
            exact sj_zret hx hb hr hlocks rfl hS im_128 ⟨hO_130, (fun a b ha => ((hfr_129 a b (by omega)).trans ((up2_o _ _ (by omega)).trans ((hfr_14 a b (by omega)).trans (hfr_5 a b (by omega)))))), hV_138, hV_139, hV_142⟩ hH (sj_Knil hK) (Nat.le_of_ble_eq_true rfl) (Nat.le_of_ble_eq_true rfl) dX12_define_81
