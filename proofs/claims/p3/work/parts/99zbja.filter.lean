
set_option maxHeartbeats 2000000 in
set_option maxRecDepth 100000 in
theorem kv_filter (l : Launch) (D : va_G) (g : Nat → Nat) (ka : Nat → ClassId) (ad : Nat → Nat) (i : Nat → Nat → Int32) (r : Nat → Nat → Nat) (L : Nat → Nat → Int64) (d : Nat → Nat → UInt64) (a9 : Nat) (b9 : Nat) (hO : OkI i) (hR : RS r) (sz : Nat) (hst : l.stackTraces = false) (hPC : PC i r) (ha9 : 9 ≤ a9 ∧ a9 < 11) (hb9 : 9 ≤ b9 ∧ b9 < 11) (hab : a9 ≠ b9) (hr12 : r 0 12 = 357 + 2 * a9) (hr13 : r 0 13 = 357 + 2 * b9) (hTO : tgO i a9) : vx_Met l yX11_filter wsX11_filter ({ frames := 125, cells := 1, slots := 6, locals := 4947 }) (va_Pc [.ref (g 0)] (sj_B D (hwc g ka i r L d) (hT ka) sz (gx ad (va_A (hwc g ka i r L d) sz)))) (sj_Qi (S := (Nat → Nat → Int32) × (Nat → Nat → Nat)) D (fun v u => OkI u.1 ∧ (∀ a, ¬ (a = 1 ∨ (375 ≤ a ∧ a < 379)) → u.1 a = i a) ∧ RS u.2 ∧ (∀ a b, ¬ (a = 0 ∧ (b = 12 ∨ b = 13)) → u.2 a b = r a b) ∧ ((i 23 8).toInt = 0 ∧ (u.1 1 1).toInt = 0) ∧ (ftC i u.1 r u.2 a9 b9) ∧ ((i 23 8).toInt = 0 ∧ cTk i ∧ v.toInt = (cnl (fun c9 => tgH u.1 b9 (ctag i c9)) (i 13 4).toInt.toNat : Int))) (fun u => hwc g ka u.1 u.2 L d) (fun _ => []) (va_A (hwc g ka i r L d) sz)) (x_XC (S := (Nat → Nat → Int32) × (Nat → Nat → Nat)) D (fun (E : String) u => (E = "java/lang/IllegalStateException" ∨ E = "java/lang/IllegalArgumentException") ∧ OkI u.1 ∧ (∀ a, ¬ (a = 1 ∨ (375 ≤ a ∧ a < 379)) → u.1 a = i a) ∧ RS u.2 ∧ (∀ a b, ¬ (a = 0 ∧ (b = 12 ∨ b = 13)) → u.2 a b = r a b) ∧ (((i 23 8).toInt = 1 ∧ u.1 = i ∧ u.2 = r) ∨ ((i 23 8).toInt = 0 ∧ (u.1 1 1).toInt = 0 ∧ ftC i u.1 r u.2 a9 b9)) ∧ (eX E ((i 23 8).toInt = 1) ((i 23 8).toInt = 0 ∧ ¬ cTk i) (False) (False))) (fun u => hwc g ka u.1 u.2 L d) (va_A (hwc g ka i r L d) sz)) 1 6 (va_A (hwc g ka i r L d) sz) := by
  refine x_vmet (Ex := gx ad) (XC := x_XC (S := (Nat → Nat → Int32) × (Nat → Nat → Nat)) D (fun (E : String) u => (E = "java/lang/IllegalStateException" ∨ E = "java/lang/IllegalArgumentException") ∧ OkI u.1 ∧ (∀ a, ¬ (a = 1 ∨ (375 ≤ a ∧ a < 379)) → u.1 a = i a) ∧ RS u.2 ∧ (∀ a b, ¬ (a = 0 ∧ (b = 12 ∨ b = 13)) → u.2 a b = r a b) ∧ (((i 23 8).toInt = 1 ∧ u.1 = i ∧ u.2 = r) ∨ ((i 23 8).toInt = 0 ∧ (u.1 1 1).toInt = 0 ∧ ftC i u.1 r u.2 a9 b9)) ∧ (eX E ((i 23 8).toInt = 1) ((i 23 8).toInt = 0 ∧ ¬ cTk i) (False) (False))) (fun u => hwc g ka u.1 u.2 L d)) (cc := cX11_filter) (maxL := 5) (ret := (some .int)) (by decide) rfl (Nat.le_of_ble_eq_true rfl) ?_
  intro p e s m below meth c A ls hx hb hr hml hts hown hlocks hnt hA hS hH hK hE hl
  have hown : s.vm.findClass RX11 = some m.cls := hown
  have in0 : ∀ w ∈ wsX00, w ∈ wsX11_filter := (fun _ h => (List.mem_cons_of_mem _ (List.mem_append_left _ (List.mem_append_left _ (List.mem_append_left _ (List.mem_append_right _ h))))))
  have in1 : ∀ w ∈ wsX10, w ∈ wsX11_filter := (fun _ h => (List.mem_cons_of_mem _ (List.mem_append_left _ (List.mem_append_left _ (List.mem_append_left _ (List.mem_append_left _ (List.mem_append_right _ h)))))))
  have in3 : ∀ w ∈ wsX30, w ∈ wsX11_filter := (fun _ h => (List.mem_cons_of_mem _ (List.mem_append_left _ (List.mem_append_left _ (List.mem_append_left _ (List.mem_append_left _ (List.mem_append_left _ (List.mem_append_right _ h))))))))
  have in7 : ∀ w ∈ wsX70, w ∈ wsX11_filter := (fun _ h => (List.mem_cons_of_mem _ (List.mem_append_left _ (List.mem_append_left _ (List.mem_append_left _ (List.mem_append_left _ (List.mem_append_left _ (List.mem_append_left _ (List.mem_append_right _ h)))))))))
  have in11 : ∀ w ∈ wsX110, w ∈ wsX11_filter := (fun _ h => (List.mem_cons_of_mem _ (List.mem_append_left _ (List.mem_append_left _ (List.mem_append_left _ (List.mem_append_left _ (List.mem_append_left _ (List.mem_append_left _ (List.mem_append_left _ (List.mem_append_right _ h))))))))))
  have wd0 := hts (.fieldLink RX11 44 "StoryDesk" "run" "LStoryDesk$Run;") (List.mem_cons_of_mem _ (List.mem_append_left _ (List.mem_append_left _ (List.mem_append_left _ (List.mem_append_left _ (List.mem_append_left _ (List.mem_append_left _ (List.mem_append_left _ (List.mem_append_left _ (List.mem_append_left _ lm4))))))))))
  have wd1 := hts (.fieldLink RX11 88 "StoryDesk$Run" "underWay" "Z") (List.mem_cons_of_mem _ (List.mem_append_left _ (List.mem_append_left _ (List.mem_append_left _ (List.mem_append_left _ (List.mem_append_left _ (List.mem_append_left _ (List.mem_append_left _ (List.mem_append_left _ (List.mem_append_left _ lm5))))))))))
  have wd2 := hts (.fieldLink RX11 77 "StoryDesk" "filterToTry" "LStoryDesk$TagExpression;") (List.mem_cons_of_mem _ (List.mem_append_left _ (List.mem_append_left _ (List.mem_append_left _ (List.mem_append_left _ (List.mem_append_left _ (List.mem_append_left _ (List.mem_append_left _ (List.mem_append_left _ (List.mem_append_left _ lm6))))))))))
  have wd3 := hts (.fieldLink RX11 14 "StoryDesk" "text" "LStoryDesk$Letters;") (List.mem_cons_of_mem _ (List.mem_append_left _ (List.mem_append_left _ (List.mem_append_left _ (List.mem_append_left _ (List.mem_append_left _ (List.mem_append_left _ (List.mem_append_left _ (List.mem_append_left _ (List.mem_append_left _ lm7))))))))))
  have wd4 := hts (.fieldLink RX11 80 "StoryDesk$Letters" "length" "I") (List.mem_cons_of_mem _ (List.mem_append_left _ (List.mem_append_left _ (List.mem_append_left _ (List.mem_append_left _ (List.mem_append_left _ (List.mem_append_left _ (List.mem_append_left _ (List.mem_append_left _ (List.mem_append_left _ lm8))))))))))
  have wd5 := hts (.fieldLink RX11 73 "StoryDesk" "filterInUse" "LStoryDesk$TagExpression;") (List.mem_cons_of_mem _ (List.mem_append_left _ (List.mem_append_left _ (List.mem_append_left _ (List.mem_append_left _ (List.mem_append_left _ (List.mem_append_left _ (List.mem_append_left _ (List.mem_append_left _ (List.mem_append_left _ lm9))))))))))
  have wd6 := hts (.fieldLink RX11 30 "StoryDesk" "cases" "LStoryDesk$Cases;") (List.mem_cons_of_mem _ (List.mem_append_left _ (List.mem_append_left _ (List.mem_append_left _ (List.mem_append_left _ (List.mem_append_left _ (List.mem_append_left _ (List.mem_append_left _ (List.mem_append_left _ (List.mem_append_left _ lm10))))))))))
  have wd7 := hts (.fieldLink RX11 134 "StoryDesk$Cases" "count" "I") (List.mem_cons_of_mem _ (List.mem_append_left _ (List.mem_append_left _ (List.mem_append_left _ (List.mem_append_left _ (List.mem_append_left _ (List.mem_append_left _ (List.mem_append_left _ (List.mem_append_left _ (List.mem_append_left _ lm11))))))))))
  have wd8 := hts (.fieldLink RX11 137 "StoryDesk$Cases" "all" "[LStoryDesk$Case;") (List.mem_cons_of_mem _ (List.mem_append_left _ (List.mem_append_left _ (List.mem_append_left _ (List.mem_append_left _ (List.mem_append_left _ (List.mem_append_left _ (List.mem_append_left _ (List.mem_append_left _ (List.mem_append_left _ lm12))))))))))
  have wd9 := hts (.fieldLink RX11 141 "StoryDesk$Case" "tags" "I") (List.mem_cons_of_mem _ (List.mem_append_left _ (List.mem_append_left _ (List.mem_append_left _ (List.mem_append_left _ (List.mem_append_left _ (List.mem_append_left _ (List.mem_append_left _ (List.mem_append_left _ (List.mem_append_left _ lm13))))))))))
  have wd10 := hts (.classLink RX11 124 "java/lang/IllegalArgumentException") (List.mem_cons_of_mem _ (List.mem_append_left _ (List.mem_append_left _ (List.mem_append_left _ (List.mem_append_left _ (List.mem_append_left _ (List.mem_append_left _ (List.mem_append_left _ (List.mem_append_left _ (List.mem_append_left _ lm2))))))))))
  have wd11 := hts (.initialized "java/lang/IllegalArgumentException") (List.mem_cons_of_mem _ (List.mem_append_left _ (List.mem_append_left _ (List.mem_append_left _ (List.mem_append_left _ (List.mem_append_left _ (List.mem_append_left _ (List.mem_append_left _ (List.mem_append_left _ (List.mem_append_left _ lm3))))))))))
  have wd12 := hts (.classLink RX11 92 "java/lang/IllegalStateException") (List.mem_cons_of_mem _ (List.mem_append_left _ (List.mem_append_left _ (List.mem_append_left _ (List.mem_append_left _ (List.mem_append_left _ (List.mem_append_left _ (List.mem_append_left _ (List.mem_append_left _ (List.mem_append_left _ lm0))))))))))
  have wd13 := hts (.initialized "java/lang/IllegalStateException") (List.mem_cons_of_mem _ (List.mem_append_left _ (List.mem_append_left _ (List.mem_append_left _ (List.mem_append_left _ (List.mem_append_left _ (List.mem_append_left _ (List.mem_append_left _ (List.mem_append_left _ (List.mem_append_left _ lm1))))))))))
  have thr_94 : ∀ w ∈ (vx_at0 RX11 94 "java/lang/IllegalStateException" ["java/lang/RuntimeException", "java/lang/Exception"]).filter goodWord, w ∈ wsX11_filter := by decide +kernel
  have thr_126 : ∀ w ∈ (vx_at0 RX11 126 "java/lang/IllegalArgumentException" ["java/lang/RuntimeException", "java/lang/Exception"]).filter goodWord, w ∈ wsX11_filter := by decide +kernel
  have hl : lv_has ls 5 [(0, .ref (g 0))] := hl
  have hK : va_K D vwCl (hT ka) s := hK
  have hbu8 : (0 : Int) ≤ (i 23 8).toInt ∧ (i 23 8).toInt ≤ 1 := hO 23 8
  have hb13 : (0 : Int) ≤ (i 13 4).toInt ∧ (i 13 4).toInt ≤ 24 := hO 13 4
  refine lv_aload_n hx hb dX11_filter_0 rfl (lv_at hl 0 rfl) ?_
  refine h_getr (ci := 11) (C := RX11) (F := TX11) (N := 14) hx hb hts in11 hown hK hH (by decide) (rfl : kd 0 = 11) (by decide) rfl 4 (by decide) wd0 (fun _ h9 => h9) (by decide) rfl (t := 23) (hR 0 4 rfl) (by decide) dX11_filter_1 ?_
  have bx_1 : (0 : Int) ≤ (i 23 8).toInt ∧ (i 23 8).toInt ≤ 1 := hO 23 8
  refine h_geti (ci := 7) (C := RX7) (F := TX7) (N := 11) hx hb hts in7 hown hK hH (by decide) (rfl : kd 23 = 7) (by decide) rfl 8 (by decide) wd1 (fun _ h9 => h9) (by decide) rfl dX11_filter_4 ?_
  refine lv_if_eq (tgt := 18) hx hb dX11_filter_7 (by decide) (fun c_2 => ?_) (fun c_2 => ?_)
  · skip
    have h_3 := s_eq (rfl : (i 23 8).toInt = _) (show (0 : Int32).toInt = 0 from rfl) c_2
    refine lv_aload_n hx hb dX11_filter_18 rfl (lv_at hl 0 rfl) ?_
    refine h_getr (ci := 11) (C := RX11) (F := TX11) (N := 14) hx hb hts in11 hown hK hH (by decide) (rfl : kd 0 = 11) (by decide) rfl 13 (by decide) wd2 (fun _ h9 => h9) (by decide) rfl (t := (357 + 2 * b9)) hr13 (lt_nK (by omega)) dX11_filter_19 ?_
    refine lv_aload_n hx hb dX11_filter_22 rfl (lv_at hl 0 rfl) ?_
    refine h_getr (ci := 11) (C := RX11) (F := TX11) (N := 14) hx hb hts in11 hown hK hH (by decide) (rfl : kd 0 = 11) (by decide) rfl 0 (by decide) wd3 (fun _ h9 => h9) (by decide) rfl (t := 1) (hR 0 0 rfl) (by decide) dX11_filter_23 ?_
    refine x_calli (va_runV (As := [.ref (g 1)]) (rest := []) ⟨hx, hb, hml, hown, hts⟩ (k_tagTake l D g ka ad i r L d b9 hO hR s.heap.size (by first | omega | decide)) (cwV 1 hts gX11_filter_X9_take rfl rfl rfl (by decide +kernel) ⟨(Nat.le_of_ble_eq_true rfl), (Nat.le_of_ble_eq_true rfl)⟩) (x_preV (q := (RX9, TX9, 4)) hH hK (q_obj (lt_nK (by omega)) (kd_tag (show b9 < 11 by omega)) (by decide)) rfl gxb (gxw hE hS (x_F hH hS hA))) rfl rfl hl.1 rfl (lv_room (Nat.le_of_ble_eq_true rfl)) dX11_filter_26 ⟨(Nat.le_of_ble_eq_true rfl), (Nat.le_of_ble_eq_true rfl)⟩) hH hS hA rfl rfl (fun r_4 im_6 H locs hw_5 hH hS => ?_)
    have hH : sj_H D A (hwc g ka im_6 r L d) H := hH
    obtain ⟨hO_8, hfr_7, hr_9, hx2_10, hx2_11, hx2_12⟩ := hw_5
    have hr_9 : (0 : Int) ≤ r_4.toInt ∧ r_4.toInt ≤ 1 := hr_9
    have hb9 : (0 : Int) ≤ (im_6 (357 + 2 * b9) 1).toInt := by have h9 := hO_8 (357 + 2 * b9) 1; rw [bx_tag (by omega) 1] at h9; exact h9.1
    have hct := cTk_v (i := i) (u := im_6) (v := r_4.toInt) hb9 hx2_10 hx2_11 hx2_12
    refine lv_istore_n (lv' := [(1, .int r_4), (0, .ref (g 0))]) hx hb dX11_filter_29 rfl hl (by decide) rfl (fun ls hl => ?_)
    refine lv_aload_n hx hb dX11_filter_30 rfl (lv_at hl 1 rfl) ?_
    refine h_getr (ci := 11) (C := RX11) (F := TX11) (N := 14) hx hb hts in11 hown hK hH (by decide) (rfl : kd 0 = 11) (by decide) rfl 0 (by decide) wd3 (fun _ h9 => h9) (by decide) rfl (t := 1) (hR 0 0 rfl) (by decide) dX11_filter_31 ?_
    refine lv_iconst (v := 0) hx hb dX11_filter_34 (by decide) ?_
    have hO_13 := okp hO_8 (n := 1) (k := 1) (v := 0) (show (0 : Int) ≤ (0 : Int32).toInt ∧ (0 : Int32).toInt ≤ 480 from ⟨by decide, by decide⟩)
    refine h_puti (ty := .int) (ci := 3) (C := RX3) (F := TX3) (N := 2) hx hb hts in3 tyX3 tyX3_ok nmX3 hown hK hH hS (by decide) (rfl : kd 1 = 3) (by decide) rfl 1 (by decide) wd4 (fun _ h9 => h9) rfl (by decide +kernel) rfl rfl (by decide) rfl dX11_filter_35 (fun H locs hH hS => ?_)
    refine lv_iload_n hx hb dX11_filter_38 rfl (lv_at hl 0 rfl) ?_
    refine lv_if_ne (tgt := 50) hx hb dX11_filter_39 (by decide) (fun c_14 => ?_) (fun c_14 => ?_)
    · skip
      have h_15 := s_ne (rfl : r_4.toInt = _) (show (0 : Int32).toInt = 0 from rfl) c_14
      have hcy0 := hct.resolve_right (fun q => by have := q.1; omega)
      refine lv_aload_n hx hb dX11_filter_50 rfl (lv_at hl 1 rfl) ?_
      refine h_getr (ci := 11) (C := RX11) (F := TX11) (N := 14) hx hb hts in11 hown hK hH (by decide) (rfl : kd 0 = 11) (by decide) rfl 12 (by decide) wd5 (fun _ h9 => h9) (by decide) rfl (t := (357 + 2 * a9)) hr12 (lt_nK (by omega)) dX11_filter_51 ?_
      refine lv_astore_n (lv' := [(2, .ref (g (357 + 2 * a9))), (1, .int r_4), (0, .ref (g 0))]) hx hb dX11_filter_54 rfl hl (by decide) rfl (fun ls hl => ?_)
      refine lv_aload_n hx hb dX11_filter_55 rfl (lv_at hl 2 rfl) ?_
      refine lv_aload_n hx hb dX11_filter_56 rfl (lv_at hl 2 rfl) ?_
      refine h_getr (ci := 11) (C := RX11) (F := TX11) (N := 14) hx hb hts in11 hown hK hH (by decide) (rfl : kd 0 = 11) (by decide) rfl 13 (by decide) wd2 (fun _ h9 => h9) (by decide) rfl (t := (357 + 2 * b9)) hr13 (lt_nK (by omega)) dX11_filter_57 ?_
      refine h_putr (t := (357 + 2 * b9)) (v := .ref (g (357 + 2 * b9))) (ty := (.object "StoryDesk$TagExpression")) (ci := 11) (C := RX11) (F := TX11) (N := 14) hx hb hts in11 tyX11 tyX11_ok nmX11 hown hK hH hS (by decide) (rfl : kd 0 = 11) (by decide) rfl 12 (by decide) wd5 (fun _ h9 => h9) rfl (rq_some (lt_nK (by omega))) (by decide +kernel) rfl rfl (by decide) rfl dX11_filter_60 (fun H locs hH hS => ?_)
      refine lv_aload_n hx hb dX11_filter_63 rfl (lv_at hl 2 rfl) ?_
      refine lv_aload_n hx hb dX11_filter_64 rfl (lv_at hl 0 rfl) ?_
      refine h_putr (t := (357 + 2 * a9)) (v := .ref (g (357 + 2 * a9))) (ty := (.object "StoryDesk$TagExpression")) (ci := 11) (C := RX11) (F := TX11) (N := 14) hx hb hts in11 tyX11 tyX11_ok nmX11 hown hK hH hS (by decide) (rfl : kd 0 = 11) (by decide) rfl 13 (by decide) wd2 (fun _ h9 => h9) rfl (rq_some (lt_nK (by omega))) (by decide +kernel) rfl rfl (by decide) rfl dX11_filter_65 (fun H locs hH hS => ?_)
      refine lv_iconst (v := 0) hx hb dX11_filter_68 (by decide) ?_
      refine lv_istore_n (lv' := [(3, .int 0), (2, .ref (g (357 + 2 * a9))), (1, .int r_4), (0, .ref (g 0))]) hx hb dX11_filter_69 rfl hl (by decide) rfl (fun ls hl => ?_)
      refine lv_iconst (v := 0) hx hb dX11_filter_70 (by decide) ?_
      refine lv_istore (lv' := [(4, .int 0), (3, .int 0), (2, .ref (g (357 + 2 * a9))), (1, .int r_4), (0, .ref (g 0))]) hx hb dX11_filter_71 hl (by decide) rfl (fun ls hl => ?_)
      -- loop at 73
      have lp_16 : ∀ (fuel_lp_16 : Nat) (f : Int32) (t : Int32) (j1 : Nat → Nat → Int32) (H : Heap) (locs : List Loc) (ls : Array Slot), (24 - f.toInt).toNat < fuel_lp_16 → (0 : Int) ≤ f.toInt ∧ f.toInt ≤ 24 → (0 : Int) ≤ t.toInt ∧ t.toInt ≤ 24 → t.toInt ≤ f.toInt ∧ f.toInt ≤ (i 13 4).toInt → t.toInt = (cnl (fun c9 => tgH im_6 b9 (ctag i c9)) f.toInt.toNat : Int) → tgE im_6 j1 → OkI j1 → (∀ a, ¬ (a = 357 + 2 * b9) → j1 a = (up2 im_6 1 1 0) a) → lv_has ls 5 [(4, .int f), (3, .int t), (2, .ref (g (357 + 2 * a9))), (1, .int r_4), (0, .ref (g 0))] → sj_H D A (hwc g ka j1 (upr (upr r 0 12 (357 + 2 * b9)) 0 13 (357 + 2 * a9)) L d) H → va_S A s.heap H locs → W p l e (headSpec wsX11_filter ({ frames := 125, cells := 1, slots := 6, locals := 4947 })).room s m ([.ref (g 0)] : List Value).toArray below meth c H locs 0 0 (vx_MQ below (sj_Qi (S := (Nat → Nat → Int32) × (Nat → Nat → Nat)) D (fun v u => OkI u.1 ∧ (∀ a, ¬ (a = 1 ∨ (375 ≤ a ∧ a < 379)) → u.1 a = i a) ∧ RS u.2 ∧ (∀ a b, ¬ (a = 0 ∧ (b = 12 ∨ b = 13)) → u.2 a b = r a b) ∧ ((i 23 8).toInt = 0 ∧ (u.1 1 1).toInt = 0) ∧ (ftC i u.1 r u.2 a9 b9) ∧ ((i 23 8).toInt = 0 ∧ cTk i ∧ v.toInt = (cnl (fun c9 => tgH u.1 b9 (ctag i c9)) (i 13 4).toInt.toNat : Int))) (fun u => hwc g ka u.1 u.2 L d) (fun _ => []) A) (x_XC (S := (Nat → Nat → Int32) × (Nat → Nat → Nat)) D (fun (E : String) u => (E = "java/lang/IllegalStateException" ∨ E = "java/lang/IllegalArgumentException") ∧ OkI u.1 ∧ (∀ a, ¬ (a = 1 ∨ (375 ≤ a ∧ a < 379)) → u.1 a = i a) ∧ RS u.2 ∧ (∀ a b, ¬ (a = 0 ∧ (b = 12 ∨ b = 13)) → u.2 a b = r a b) ∧ (((i 23 8).toInt = 1 ∧ u.1 = i ∧ u.2 = r) ∨ ((i 23 8).toInt = 0 ∧ (u.1 1 1).toInt = 0 ∧ ftC i u.1 r u.2 a9 b9)) ∧ (eX E ((i 23 8).toInt = 1) ((i 23 8).toInt = 0 ∧ ¬ cTk i) (False) (False))) (fun u => hwc g ka u.1 u.2 L d) A) ([.ref (g 0)] : List Value).toArray s 1 6 A) (F0 m 73 ls []) := by
        intro fuel_lp_16
        induction fuel_lp_16 with
        | zero => intros; omega
        | succ fuel_lp_16 ih_lp_16 =>
          intro f t j1 H locs ls hm hr_f hr_t hi_lp_16_0 hi_lp_16_1 hi_lp_16_2 hO_j1 hfr_j1 hl hH hS
          refine lv_iload hx hb dX11_filter_73 (lv_at hl 0 rfl) ?_
          refine lv_aload_n hx hb dX11_filter_75 rfl (lv_at hl 4 rfl) ?_
          refine h_getr (ci := 11) (C := RX11) (F := TX11) (N := 14) hx hb hts in11 hown hK hH (by decide) (rfl : kd 0 = 11) (by decide) rfl 2 (by decide) wd6 (fun _ h9 => h9) (by decide) rfl (t := 13) ((RS_put (RS_put hR rfl) rfl) 0 2 rfl) (by decide) dX11_filter_76 ?_
          have bx_17 : (0 : Int) ≤ (i 13 4).toInt ∧ (i 13 4).toInt ≤ 24 := hO 13 4
          refine h_geti (ci := 1) (C := RX1) (F := TX1) (N := 5) hx hb hts in1 hown hK hH (by decide) (rfl : kd 13 = 1) (by decide) rfl 4 (by decide) wd7 (fun _ h9 => h9) (by decide) rfl dX11_filter_79 ?_
          refine sj_i (y := (i 13 4)) ((congrFun (hfr_j1 13 (by omega)) _).trans ((congrFun (up2_n _ _ (by decide)) _).trans (congrFun (hfr_7 13 (by omega)) _))) ?_
          refine lv_icmp_ge (tgt := 117) hx hb dX11_filter_82 (by decide) (fun c_18 => ?_) (fun c_18 => ?_)
          · skip
            have h_19 := s_le (rfl : (i 13 4).toInt = _) (rfl : f.toInt = _) c_18
            refine lv_iload_n hx hb dX11_filter_117 rfl (lv_at hl 1 rfl) ?_
            have hp_20 : (j1 1 1).toInt = (0 : Int32).toInt := congrArg Int32.toInt (((congrFun (hfr_j1 1 (by omega)) _).trans (up2_at _ _ _ _)))
            have hl_21 : (0 : Int32).toInt = 0 := rfl
            have hV_22 : (i 23 8).toInt = 0 ∧ (j1 1 1).toInt = 0 := ⟨by omega, by omega⟩
            have hcy := hct.resolve_right (fun q => by have := q.1; omega)
            have hV_23 : ftC i j1 r (upr (upr r 0 12 (357 + 2 * b9)) 0 13 (357 + 2 * a9)) a9 b9 := (Or.inr ⟨hcy.2.1, (upr_k _ _ (by decide)).trans (upr_at _ _ _ _), upr_at _ _ _ _, by rw [tgE_J hi_lp_16_2 (by omega)]; exact hcy.2.2.1, hi_lp_16_2.o (by omega) hcy.2.2.2⟩)
            have hcn9 := hi_lp_16_1
            rw [show f.toInt.toNat = (i 13 4).toInt.toNat by omega] at hcn9
            have hph : (fun c9 => tgH j1 b9 (ctag i c9)) = (fun c9 => tgH im_6 b9 (ctag i c9)) := funext fun c9 => by rw [hi_lp_16_2.h (by omega)]
            have hV_24 : (i 23 8).toInt = 0 ∧ cTk i ∧ (t : Int32).toInt = (cnl (fun c9 => tgH j1 b9 (ctag i c9)) (i 13 4).toInt.toNat : Int) := ⟨by omega, hcy.2.1, by rw [hph]; omega⟩
            refine vx_ret ?_
            exact sj_zret hx hb hr hlocks rfl hS (j1, (upr (upr r 0 12 (357 + 2 * b9)) 0 13 (357 + 2 * a9))) ⟨hO_j1, (fun a ha => ((hfr_j1 a (by omega)).trans ((up2_n _ _ (by omega)).trans (hfr_7 a (by omega))))), (RS_put (RS_put hR rfl) rfl), (fun a b ha => ((upr_o _ _ (by omega)).trans (upr_o _ _ (by omega)))), hV_22, hV_23, hV_24⟩ hH (sj_Knil hK) (Nat.le_of_ble_eq_true rfl) (Nat.le_of_ble_eq_true rfl) dX11_filter_118
          · skip
            have h_25 := s_nle (rfl : (i 13 4).toInt = _) (rfl : f.toInt = _) c_18
            refine lv_aload_n hx hb dX11_filter_85 rfl (lv_at hl 4 rfl) ?_
            refine h_getr (ci := 11) (C := RX11) (F := TX11) (N := 14) hx hb hts in11 hown hK hH (by decide) (rfl : kd 0 = 11) (by decide) rfl 12 (by decide) wd5 (fun _ h9 => h9) (by decide) rfl (t := (357 + 2 * b9)) ((upr_k _ _ (by decide)).trans (upr_at _ _ _ _)) (lt_nK (by omega)) dX11_filter_86 ?_
            refine lv_aload_n hx hb dX11_filter_89 rfl (lv_at hl 4 rfl) ?_
            refine h_getr (ci := 11) (C := RX11) (F := TX11) (N := 14) hx hb hts in11 hown hK hH (by decide) (rfl : kd 0 = 11) (by decide) rfl 2 (by decide) wd6 (fun _ h9 => h9) (by decide) rfl (t := 13) ((RS_put (RS_put hR rfl) rfl) 0 2 rfl) (by decide) dX11_filter_90 ?_
            refine h_getr (ci := 1) (C := RX1) (F := TX1) (N := 5) hx hb hts in1 hown hK hH (by decide) (rfl : kd 13 = 1) (by decide) rfl 3 (by decide) wd8 (fun _ h9 => h9) (by decide) rfl (t := 18) ((RS_put (RS_put hR rfl) rfl) 13 3 rfl) (by decide) dX11_filter_93 ?_
            refine lv_iload hx hb dX11_filter_96 (lv_at hl 0 rfl) ?_
            obtain ⟨j_26, ej_26, hj_26⟩ : ∃ j : Nat, (f).toNatClampNeg = j ∧ (j : Int) = f.toInt := ⟨_, rfl, by rw [s_cl (rfl : f.toInt = _)]; omega⟩
            have lj_26 : j_26 < 24 := by omega
            refine h_qald hx hb hK hH (by decide) (rfl : kd 18 = 18) (by decide) rfl (s_vin (N := 24) (rfl : f.toInt = _) (rfl : ln 18 = 24) (by omega) (by omega)) (t := (216 + 1 * j_26)) (by rw [ej_26]; exact ((RS_put (RS_put hR rfl) rfl) 18 j_26 rfl)) (lt_nK (by omega)) dX11_filter_98 ?_
            have bx_27 : (0 : Int) ≤ (i (216 + 1 * j_26) 3).toInt ∧ (i (216 + 1 * j_26) 3).toInt ≤ 65535 := by have h9 := hO (216 + 1 * j_26) 3; rw [bx_case (by omega) (by omega) 3] at h9; exact h9
            refine h_geti (ci := 0) (C := RX0) (F := TX0) (N := 5) hx hb hts in0 hown hK hH (lt_nK (by omega)) (kd_case (by omega) (by omega)) (by decide) rfl 3 (by decide) wd9 (fun _ h9 => h9) (by decide) rfl dX11_filter_99 ?_
            refine sj_i (y := (i (216 + 1 * j_26) 3)) ((congrFun (hfr_j1 (216 + 1 * j_26) (by omega)) _).trans ((congrFun (up2_n _ _ (by omega)) _).trans (congrFun (hfr_7 (216 + 1 * j_26) (by omega)) _))) ?_
            refine x_calli (va_runV (As := [.int (i (216 + 1 * j_26) 3)]) (rest := []) ⟨hx, hb, hml, hown, hts⟩ (k_holds l D g ka ad j1 (upr (upr r 0 12 (357 + 2 * b9)) 0 13 (357 + 2 * a9)) L d b9 (i (216 + 1 * j_26) 3) hO_j1 (RS_put (RS_put hR rfl) rfl) H.size (by first | omega | decide) (hi_lp_16_2.o (by omega) hcy0.2.2.2).1) (cwV 1 hts gX11_filter_X9_holds rfl rfl rfl (by decide +kernel) ⟨(Nat.le_of_ble_eq_true rfl), (Nat.le_of_ble_eq_true rfl)⟩) (x_preV (q := (RX9, TX9, 4)) hH hK (q_obj (lt_nK (by omega)) (kd_tag (show b9 < 11 by omega)) (by decide)) rfl gxb (gxw hE hS (x_F hH hS hA))) rfl rfl hl.1 rfl (lv_room (Nat.le_of_ble_eq_true rfl)) dX11_filter_102 ⟨(Nat.le_of_ble_eq_true rfl), (Nat.le_of_ble_eq_true rfl)⟩) hH hS hA rfl rfl (fun r_28 im_30 H locs hw_29 hH hS => ?_)
            have hH : sj_H D A (hwc g ka im_30 (upr (upr r 0 12 (357 + 2 * b9)) 0 13 (357 + 2 * a9)) L d) H := hH
            obtain ⟨hO_32, hfr_31, hr_33, he_34, hx2_35⟩ := hw_29
            have hr_33 : (0 : Int) ≤ r_28.toInt ∧ r_28.toInt ≤ 1 := hr_33
            have ho9 : tgO j1 b9 := hi_lp_16_2.o (by omega) hcy0.2.2.2
            have hv9 : r_28.toInt = (if tgH j1 b9 (i (216 + 1 * j_26) 3) = true then 1 else 0) := hold_tgH ho9 he_34.2 (fun b q hb => (hx2_35 q).1 b hb)
            rw [hi_lp_16_2.h (by omega)] at hv9
            have htg : (i (216 + 1 * j_26) 3) = ctag i f.toInt.toNat := by rw [show f.toInt.toNat = j_26 by omega]; rfl
            rw [htg] at hv9
            refine lv_if_eq (tgt := 111) hx hb dX11_filter_105 (by decide) (fun c_36 => ?_) (fun c_36 => ?_)
            · skip
              have h_37 := s_eq (rfl : r_28.toInt = _) (show (0 : Int32).toInt = 0 from rfl) c_36
              obtain ⟨z_38, ez_38, hz_38⟩ := s_add (rfl : f.toInt = _) (show (1 : Int32).toInt = 1 from rfl) (by omega) (by omega)
              refine lv_iinc (v := z_38) (lv' := [(4, .int z_38), (3, .int t), (2, .ref (g (357 + 2 * a9))), (1, .int r_4), (0, .ref (g 0))]) hx hb dX11_filter_111 hl (k := 0) rfl ez_38 (by decide) rfl (fun ls hl => ?_)
              refine lv_goto (tgt := 73) hx hb dX11_filter_114 (by decide) ?_
              have hSCn := (show SC j1 im_30 from ⟨hfr_31 33 (by omega), congrArg Int32.toInt (congrFun (hfr_31 0 (by omega)) 11), tgE.one (by omega) hfr_31 he_34.1, fun c9 hc9 => congrFun (hfr_31 (216 + 1 * c9) (by omega)) 3, fun a ha => hfr_31 a (by omega)⟩)
              exact ih_lp_16 z_38 t _ _ _ ls (by omega) (by omega) (by omega) (by omega) (cnl_k hi_lp_16_1 hv9 (by omega) (by omega)) (hi_lp_16_2.trans hSCn.2.2.1) hO_32 (fun a ha => ((hfr_31 a (by omega)).trans (hfr_j1 a (by omega)))) (lv_sub hl [0, 1, 2, 3, 4] rfl) hH hS
            · skip
              have h_39 := s_ne (rfl : r_28.toInt = _) (show (0 : Int32).toInt = 0 from rfl) c_36
              obtain ⟨z_40, ez_40, hz_40⟩ := s_add (rfl : t.toInt = _) (show (1 : Int32).toInt = 1 from rfl) (by omega) (by omega)
              refine lv_iinc (v := z_40) (lv' := [(3, .int z_40), (4, .int f), (2, .ref (g (357 + 2 * a9))), (1, .int r_4), (0, .ref (g 0))]) hx hb dX11_filter_108 hl (k := 1) rfl ez_40 (by decide) rfl (fun ls hl => ?_)
              obtain ⟨z_41, ez_41, hz_41⟩ := s_add (rfl : f.toInt = _) (show (1 : Int32).toInt = 1 from rfl) (by omega) (by omega)
              refine lv_iinc (v := z_41) (lv' := [(4, .int z_41), (3, .int z_40), (2, .ref (g (357 + 2 * a9))), (1, .int r_4), (0, .ref (g 0))]) hx hb dX11_filter_111 hl (k := 1) rfl ez_41 (by decide) rfl (fun ls hl => ?_)
              refine lv_goto (tgt := 73) hx hb dX11_filter_114 (by decide) ?_
              have hSCn := (show SC j1 im_30 from ⟨hfr_31 33 (by omega), congrArg Int32.toInt (congrFun (hfr_31 0 (by omega)) 11), tgE.one (by omega) hfr_31 he_34.1, fun c9 hc9 => congrFun (hfr_31 (216 + 1 * c9) (by omega)) 3, fun a ha => hfr_31 a (by omega)⟩)
              exact ih_lp_16 z_41 z_40 _ _ _ ls (by omega) (by omega) (by omega) (by omega) (cnl_k hi_lp_16_1 hv9 (by omega) (by omega)) (hi_lp_16_2.trans hSCn.2.2.1) hO_32 (fun a ha => ((hfr_31 a (by omega)).trans (hfr_j1 a (by omega)))) (lv_sub hl [0, 1, 2, 3, 4] rfl) hH hS
      have hl_42 : (0 : Int32).toInt = 0 := rfl
      have hl_43 : (0 : Int32).toInt = 0 := rfl
      exact lp_16 _ 0 0 _ _ _ ls (Nat.lt_succ_self _) (by omega) (by omega) (by omega) (cnl_k0 (by omega) (by first | rfl | omega)) ((show SC im_6 (up2 im_6 1 1 0) from ⟨up2_n _ _ (by omega), congrArg Int32.toInt (up2_o _ _ (by omega)), tgE.of (fun a ha => up2_n _ _ (by omega)), fun c9 hc9 => up2_o _ _ (by omega), fun a ha => up2_n _ _ (by omega)⟩)).2.2.1 hO_13 (fun a ha => rfl) (lv_sub hl [0, 1, 2, 3, 4] rfl) hH hS
    · skip
      have h_44 := s_eq (rfl : r_4.toInt = _) (show (0 : Int32).toInt = 0 from rfl) c_14
      have hp_45 : ((up2 im_6 1 1 0) 1 1).toInt = (0 : Int32).toInt := congrArg Int32.toInt ((up2_at _ _ _ _))
      have hl_46 : (0 : Int32).toInt = 0 := rfl
      have hV_47 : ((i 23 8).toInt = 1 ∧ (up2 im_6 1 1 0) = i ∧ r = r) ∨ ((i 23 8).toInt = 0 ∧ ((up2 im_6 1 1 0) 1 1).toInt = 0 ∧ ftC i (up2 im_6 1 1 0) r r a9 b9) := (Or.inr ⟨by omega, by omega, (Or.inl ⟨(hct.resolve_left (fun q => by have := q.1; omega)).2, rfl, rfl, (by unfold tgJ; rw [show (up2 im_6 1 1 0) (357 + 2 * a9 + 1) = i (357 + 2 * a9 + 1) from ((up2_n _ _ (by omega)).trans (hfr_7 (357 + 2 * a9 + 1) (by omega))), show (up2 im_6 1 1 0) (357 + 2 * a9) = i (357 + 2 * a9) from ((up2_n _ _ (by omega)).trans (hfr_7 (357 + 2 * a9) (by omega)))]), tgO_J ((up2_n _ _ (by omega)).trans (hfr_7 (357 + 2 * a9 + 1) (by omega))) ((up2_n _ _ (by omega)).trans (hfr_7 (357 + 2 * a9) (by omega))) hTO⟩)⟩)
      have hpx : (fun (E : String) (u : (Nat → Nat → Int32) × (Nat → Nat → Nat)) => (E = "java/lang/IllegalStateException" ∨ E = "java/lang/IllegalArgumentException") ∧ OkI u.1 ∧ (∀ a, ¬ (a = 1 ∨ (375 ≤ a ∧ a < 379)) → u.1 a = i a) ∧ RS u.2 ∧ (∀ a b, ¬ (a = 0 ∧ (b = 12 ∨ b = 13)) → u.2 a b = r a b) ∧ (((i 23 8).toInt = 1 ∧ u.1 = i ∧ u.2 = r) ∨ ((i 23 8).toInt = 0 ∧ (u.1 1 1).toInt = 0 ∧ ftC i u.1 r u.2 a9 b9)) ∧ (eX E ((i 23 8).toInt = 1) ((i 23 8).toInt = 0 ∧ ¬ cTk i) (False) (False))) "java/lang/IllegalArgumentException" ((up2 im_6 1 1 0), r) := ⟨(Or.inr rfl), hO_13, (fun a ha => ((up2_n _ _ (by omega)).trans (hfr_7 a (by omega)))), hR, (fun a b ha => rfl), hV_47, (eX_iae ⟨by omega, (hct.resolve_left (fun q => by have := q.1; omega)).2⟩)⟩
      have hHx : sj_H D A ((fun (u : (Nat → Nat → Int32) × (Nat → Nat → Nat)) => hwc g ka u.1 u.2 L d) ((up2 im_6 1 1 0), r)) H := hH
      exact x_throw (px := (fun (E : String) (u : (Nat → Nat → Int32) × (Nat → Nat → Nat)) => (E = "java/lang/IllegalStateException" ∨ E = "java/lang/IllegalArgumentException") ∧ OkI u.1 ∧ (∀ a, ¬ (a = 1 ∨ (375 ≤ a ∧ a < 379)) → u.1 a = i a) ∧ RS u.2 ∧ (∀ a b, ¬ (a = 0 ∧ (b = 12 ∨ b = 13)) → u.2 a b = r a b) ∧ (((i 23 8).toInt = 1 ∧ u.1 = i ∧ u.2 = r) ∨ ((i 23 8).toInt = 0 ∧ (u.1 1 1).toInt = 0 ∧ ftC i u.1 r u.2 a9 b9)) ∧ (eX E ((i 23 8).toInt = 1) ((i 23 8).toInt = 0 ∧ ¬ cTk i) (False) (False)))) (W1 := (fun (u : (Nat → Nat → Int32) × (Nat → Nat → Nat)) => hwc g ka u.1 u.2 L d)) hx hb hst (ik := 124) (ic := 126) (cls := "java/lang/IllegalArgumentException") ((up2 im_6 1 1 0), r) hpx hown (by decide) wd10 wd11 (fun w h => hts w (thr_126 w h)) (by decide +kernel) (by decide +kernel) (gx_iae hE) hS hHx hK (hl.1.trans hml.symm) dX11_filter_42 dX11_filter_45 dX11_filter_46 dX11_filter_49 hnt (Nat.le_of_ble_eq_true rfl) (Nat.le_of_ble_eq_true rfl) (Nat.le_of_ble_eq_true rfl) (Nat.le_of_ble_eq_true rfl) hlocks (Nat.le_of_ble_eq_true rfl) (Nat.le_of_ble_eq_true rfl)
  · skip
    have h_48 := s_ne (rfl : (i 23 8).toInt = _) (show (0 : Int32).toInt = 0 from rfl) c_2
    have hV_49 : ((i 23 8).toInt = 1 ∧ i = i ∧ r = r) ∨ ((i 23 8).toInt = 0 ∧ (i 1 1).toInt = 0 ∧ ftC i i r r a9 b9) := (Or.inl ⟨by omega, rfl, rfl⟩)
    have hpx : (fun (E : String) (u : (Nat → Nat → Int32) × (Nat → Nat → Nat)) => (E = "java/lang/IllegalStateException" ∨ E = "java/lang/IllegalArgumentException") ∧ OkI u.1 ∧ (∀ a, ¬ (a = 1 ∨ (375 ≤ a ∧ a < 379)) → u.1 a = i a) ∧ RS u.2 ∧ (∀ a b, ¬ (a = 0 ∧ (b = 12 ∨ b = 13)) → u.2 a b = r a b) ∧ (((i 23 8).toInt = 1 ∧ u.1 = i ∧ u.2 = r) ∨ ((i 23 8).toInt = 0 ∧ (u.1 1 1).toInt = 0 ∧ ftC i u.1 r u.2 a9 b9)) ∧ (eX E ((i 23 8).toInt = 1) ((i 23 8).toInt = 0 ∧ ¬ cTk i) (False) (False))) "java/lang/IllegalStateException" (i, r) := ⟨(Or.inl rfl), hO, (fun a ha => rfl), hR, (fun a b ha => rfl), hV_49, (eX_ise (by omega))⟩
    have hHx : sj_H D A ((fun (u : (Nat → Nat → Int32) × (Nat → Nat → Nat)) => hwc g ka u.1 u.2 L d) (i, r)) s.heap := hH
    exact x_throw (px := (fun (E : String) (u : (Nat → Nat → Int32) × (Nat → Nat → Nat)) => (E = "java/lang/IllegalStateException" ∨ E = "java/lang/IllegalArgumentException") ∧ OkI u.1 ∧ (∀ a, ¬ (a = 1 ∨ (375 ≤ a ∧ a < 379)) → u.1 a = i a) ∧ RS u.2 ∧ (∀ a b, ¬ (a = 0 ∧ (b = 12 ∨ b = 13)) → u.2 a b = r a b) ∧ (((i 23 8).toInt = 1 ∧ u.1 = i ∧ u.2 = r) ∨ ((i 23 8).toInt = 0 ∧ (u.1 1 1).toInt = 0 ∧ ftC i u.1 r u.2 a9 b9)) ∧ (eX E ((i 23 8).toInt = 1) ((i 23 8).toInt = 0 ∧ ¬ cTk i) (False) (False)))) (W1 := (fun (u : (Nat → Nat → Int32) × (Nat → Nat → Nat)) => hwc g ka u.1 u.2 L d)) hx hb hst (ik := 92) (ic := 94) (cls := "java/lang/IllegalStateException") (i, r) hpx hown (by decide) wd12 wd13 (fun w h => hts w (thr_94 w h)) (by decide +kernel) (by decide +kernel) (gx_ise hE) hS hHx hK (hl.1.trans hml.symm) dX11_filter_10 dX11_filter_13 dX11_filter_14 dX11_filter_17 hnt (Nat.le_of_ble_eq_true rfl) (Nat.le_of_ble_eq_true rfl) (Nat.le_of_ble_eq_true rfl) (Nat.le_of_ble_eq_true rfl) hlocks (Nat.le_of_ble_eq_true rfl) (Nat.le_of_ble_eq_true rfl)
