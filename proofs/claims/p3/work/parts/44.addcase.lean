theorem dX1_add_0 : decode cX1_add 0 = .ok (.aload_n 0, 1) := by decide +kernel
theorem dX1_add_1 : decode cX1_add 1 = .ok (.getfield 34, 3) := by decide +kernel
theorem dX1_add_4 : decode cX1_add 4 = .ok (.bipush 24, 2) := by decide +kernel
theorem dX1_add_6 : decode cX1_add 6 = .ok (.if_icmp .lt 4, 3) := by decide +kernel
theorem dX1_add_10 : decode cX1_add 10 = .ok (.aload_n 0, 1) := by decide +kernel
theorem dX1_add_11 : decode cX1_add 11 = .ok (.getfield 29, 3) := by decide +kernel
theorem dX1_add_14 : decode cX1_add 14 = .ok (.aload_n 0, 1) := by decide +kernel
theorem dX1_add_15 : decode cX1_add 15 = .ok (.getfield 34, 3) := by decide +kernel
theorem dX1_add_18 : decode cX1_add 18 = .ok (.aaload, 1) := by decide +kernel
theorem dX1_add_19 : decode cX1_add 19 = .ok (.astore 5, 2) := by decide +kernel
theorem dX1_add_21 : decode cX1_add 21 = .ok (.aload 5, 2) := by decide +kernel
theorem dX1_add_23 : decode cX1_add 23 = .ok (.aload_n 1, 1) := by decide +kernel
theorem dX1_add_24 : decode cX1_add 24 = .ok (.putfield 79, 3) := by decide +kernel
theorem dX1_add_27 : decode cX1_add 27 = .ok (.aload 5, 2) := by decide +kernel
theorem dX1_add_29 : decode cX1_add 29 = .ok (.aload_n 3, 1) := by decide +kernel
theorem dX1_add_30 : decode cX1_add 30 = .ok (.putfield 83, 3) := by decide +kernel
theorem dX1_add_33 : decode cX1_add 33 = .ok (.aload 5, 2) := by decide +kernel
theorem dX1_add_35 : decode cX1_add 35 = .ok (.aload 4, 2) := by decide +kernel
theorem dX1_add_37 : decode cX1_add 37 = .ok (.putfield 87, 3) := by decide +kernel
theorem dX1_add_40 : decode cX1_add 40 = .ok (.aload 5, 2) := by decide +kernel
theorem dX1_add_42 : decode cX1_add 42 = .ok (.aload_n 0, 1) := by decide +kernel
theorem dX1_add_43 : decode cX1_add 43 = .ok (.getfield 9, 3) := by decide +kernel
theorem dX1_add_46 : decode cX1_add 46 = .ok (.getfield 90, 3) := by decide +kernel
theorem dX1_add_49 : decode cX1_add 49 = .ok (.iconst 0, 1) := by decide +kernel
theorem dX1_add_50 : decode cX1_add 50 = .ok (.aaload, 1) := by decide +kernel
theorem dX1_add_51 : decode cX1_add 51 = .ok (.getfield 69, 3) := by decide +kernel
theorem dX1_add_54 : decode cX1_add 54 = .ok (.aload_n 0, 1) := by decide +kernel
theorem dX1_add_55 : decode cX1_add 55 = .ok (.getfield 9, 3) := by decide +kernel
theorem dX1_add_58 : decode cX1_add 58 = .ok (.getfield 90, 3) := by decide +kernel
theorem dX1_add_61 : decode cX1_add 61 = .ok (.aload_n 1, 1) := by decide +kernel
theorem dX1_add_62 : decode cX1_add 62 = .ok (.getfield 93, 3) := by decide +kernel
theorem dX1_add_65 : decode cX1_add 65 = .ok (.aaload, 1) := by decide +kernel
theorem dX1_add_66 : decode cX1_add 66 = .ok (.getfield 69, 3) := by decide +kernel
theorem dX1_add_69 : decode cX1_add 69 = .ok (.ior, 1) := by decide +kernel
theorem dX1_add_70 : decode cX1_add 70 = .ok (.aload_n 1, 1) := by decide +kernel
theorem dX1_add_71 : decode cX1_add 71 = .ok (.getfield 69, 3) := by decide +kernel
theorem dX1_add_74 : decode cX1_add 74 = .ok (.ior, 1) := by decide +kernel
theorem dX1_add_75 : decode cX1_add 75 = .ok (.iload_n 2, 1) := by decide +kernel
theorem dX1_add_76 : decode cX1_add 76 = .ok (.ior, 1) := by decide +kernel
theorem dX1_add_77 : decode cX1_add 77 = .ok (.putfield 96, 3) := by decide +kernel
theorem dX1_add_80 : decode cX1_add 80 = .ok (.aload 5, 2) := by decide +kernel
theorem dX1_add_82 : decode cX1_add 82 = .ok (.iconst (-1), 1) := by decide +kernel
theorem dX1_add_83 : decode cX1_add 83 = .ok (.putfield 97, 3) := by decide +kernel
theorem dX1_add_86 : decode cX1_add 86 = .ok (.aload_n 0, 1) := by decide +kernel
theorem dX1_add_87 : decode cX1_add 87 = .ok (.dup, 1) := by decide +kernel
theorem dX1_add_88 : decode cX1_add 88 = .ok (.getfield 34, 3) := by decide +kernel
theorem dX1_add_91 : decode cX1_add 91 = .ok (.iconst 1, 1) := by decide +kernel
theorem dX1_add_92 : decode cX1_add 92 = .ok (.iadd, 1) := by decide +kernel
theorem dX1_add_93 : decode cX1_add 93 = .ok (.putfield 34, 3) := by decide +kernel
theorem dX1_add_96 : decode cX1_add 96 = .ok (.return_, 1) := by decide +kernel
theorem dX1_add_9 : decode cX1_add 9 = .ok (.return_, 1) := by decide +kernel
set_option maxHeartbeats 2000000 in
set_option maxRecDepth 100000 in
theorem k_addN (l : Launch) (D : va_G) (g : Nat → Nat) (ka : Nat → ClassId) (ad : Nat → Nat) (i : Nat → Nat → Int32) (r : Nat → Nat → Nat) (L : Nat → Nat → Int64) (d : Nat → Nat → UInt64) (q : Nat) (x : Int32) (hO : OkI i) (hR : RS r) (sz : Nat) (hq1 : 42 ≤ q) (hq2 : q < 54) (hPC : PC i r) (hx0 : 0 ≤ x.toInt) (hx1 : x.toInt ≤ 65535) : Met l yX1_add wsX1_add ({ frames := 0, cells := 0, slots := 0, locals := 0 }) (va_Pc [.ref (g 13), .ref (g q), .int x, .null, .null] (sj_B D (hwc g ka i r L d) (hT ka) sz (gx ad (va_A (hwc g ka i r L d) sz)))) (sj_Qv (S := (Nat → Nat → Int32) × (Nat → Nat → Nat)) D (fun u => OkI u.1 ∧ (∀ a, ¬ (a = 13 ∨ (216 ≤ a ∧ a < 240)) → u.1 a = i a) ∧ RS u.2 ∧ (∀ a b, ¬ ((216 ≤ a ∧ a < 240)) → u.2 a b = r a b) ∧ (((i 13 4).toInt = 24 ∧ (u.1 13 4).toInt = 24) ∨ ((i 13 4).toInt < 24 ∧ (u.1 13 4).toInt = (i 13 4).toInt + 1)) ∧ (PC u.1 u.2) ∧ ((i 13 4).toInt < 24 → (u.2 (216 + 1 * (i 13 4).toInt.toNat) 0 = q ∧ u.1 (216 + 1 * (i 13 4).toInt.toNat) 3 = ortags i q x)) ∧ (∀ c : Nat, (c : Int) < (i 13 4).toInt → (u.2 (216 + 1 * c) 0 = r (216 + 1 * c) 0 ∧ u.1 (216 + 1 * c) 3 = i (216 + 1 * c) 3))) (fun u => hwc g ka u.1 u.2 L d) (fun _ => []) (va_A (hwc g ka i r L d) sz)) 0 0 (va_A (hwc g ka i r L d) sz) := by
  refine x_met (Ex := gx ad) (cc := cX1_add) (maxL := 6) (ret := none) (by decide) rfl (Nat.le_of_ble_eq_true rfl) ?_
  intro p e s m below meth c A ls hx hb hr hml hts hown hlocks hA hS hH hK hE hl
  have hown : s.vm.findClass RX1 = some m.cls := hown
  have in0 : ∀ w ∈ wsX00, w ∈ wsX1_add := (fun _ h => (List.mem_cons_of_mem _ (List.mem_append_left _ (List.mem_append_left _ (List.mem_append_right _ h)))))
  have in1 : ∀ w ∈ wsX10, w ∈ wsX1_add := (fun _ h => (List.mem_cons_of_mem _ (List.mem_append_left _ (List.mem_append_left _ (List.mem_append_left _ (List.mem_append_right _ h))))))
  have in4 : ∀ w ∈ wsX40, w ∈ wsX1_add := (fun _ h => (List.mem_cons_of_mem _ (List.mem_append_right _ h)))
  have in5 : ∀ w ∈ wsX50, w ∈ wsX1_add := (fun _ h => (List.mem_cons_of_mem _ (List.mem_append_left _ (List.mem_append_right _ h))))
  have wd0 := hts (.fieldLink RX1 34 "StoryDesk$Cases" "count" "I") (List.mem_cons_of_mem _ (List.mem_append_left _ (List.mem_append_left _ (List.mem_append_left _ (List.mem_append_left _ lm0)))))
  have wd1 := hts (.fieldLink RX1 29 "StoryDesk$Cases" "all" "[LStoryDesk$Case;") (List.mem_cons_of_mem _ (List.mem_append_left _ (List.mem_append_left _ (List.mem_append_left _ (List.mem_append_left _ lm1)))))
  have wd2 := hts (.fieldLink RX1 79 "StoryDesk$Case" "scenario" "LStoryDesk$Part;") (List.mem_cons_of_mem _ (List.mem_append_left _ (List.mem_append_left _ (List.mem_append_left _ (List.mem_append_left _ lm2)))))
  have wd3 := hts (.fieldLink RX1 83 "StoryDesk$Case" "names" "LStoryDesk$Row;") (List.mem_cons_of_mem _ (List.mem_append_left _ (List.mem_append_left _ (List.mem_append_left _ (List.mem_append_left _ lm3)))))
  have wd4 := hts (.fieldLink RX1 87 "StoryDesk$Case" "values" "LStoryDesk$Row;") (List.mem_cons_of_mem _ (List.mem_append_left _ (List.mem_append_left _ (List.mem_append_left _ (List.mem_append_left _ lm4)))))
  have wd5 := hts (.fieldLink RX1 9 "StoryDesk$Cases" "reading" "LStoryDesk$Reading;") (List.mem_cons_of_mem _ (List.mem_append_left _ (List.mem_append_left _ (List.mem_append_left _ (List.mem_append_left _ lm5)))))
  have wd6 := hts (.fieldLink RX1 90 "StoryDesk$Reading" "sections" "[LStoryDesk$Part;") (List.mem_cons_of_mem _ (List.mem_append_left _ (List.mem_append_left _ (List.mem_append_left _ (List.mem_append_left _ lm6)))))
  have wd7 := hts (.fieldLink RX1 69 "StoryDesk$Part" "tags" "I") (List.mem_cons_of_mem _ (List.mem_append_left _ (List.mem_append_left _ (List.mem_append_left _ (List.mem_append_left _ lm7)))))
  have wd8 := hts (.fieldLink RX1 93 "StoryDesk$Part" "section" "I") (List.mem_cons_of_mem _ (List.mem_append_left _ (List.mem_append_left _ (List.mem_append_left _ (List.mem_append_left _ lm8)))))
  have wd9 := hts (.fieldLink RX1 96 "StoryDesk$Case" "tags" "I") (List.mem_cons_of_mem _ (List.mem_append_left _ (List.mem_append_left _ (List.mem_append_left _ (List.mem_append_left _ lm9)))))
  have wd10 := hts (.fieldLink RX1 97 "StoryDesk$Case" "status" "I") (List.mem_cons_of_mem _ (List.mem_append_left _ (List.mem_append_left _ (List.mem_append_left _ (List.mem_append_left _ lm10)))))
  have hl : lv_has ls 6 [(0, .ref (g 13)), (1, .ref (g q)), (2, .int x), (3, .null), (4, .null)] := hl
  have hK : va_K D vwCl (hT ka) s := hK
  have hbc : (0 : Int) ≤ (i 13 4).toInt ∧ (i 13 4).toInt ≤ 24 := hO 13 4
  refine lv_aload_n hx hb dX1_add_0 rfl (lv_at hl 0 rfl) ?_
  have bx_1 : (0 : Int) ≤ (i 13 4).toInt ∧ (i 13 4).toInt ≤ 24 := hO 13 4
  refine h_geti (ci := 1) (C := RX1) (F := TX1) (N := 5) hx hb hts in1 hown hK hH (by decide) (rfl : kd 13 = 1) (by decide) rfl 4 (by decide) wd0 (fun _ h9 => h9) (by decide) rfl dX1_add_1 ?_
  refine lv_bipush (v := 24) hx hb dX1_add_4 (by decide) ?_
  refine lv_icmp_lt (tgt := 10) hx hb dX1_add_6 (by decide) (fun c_2 => ?_) (fun c_2 => ?_)
  · skip
    have h_3 := s_lt (rfl : (i 13 4).toInt = _) (show (24 : Int32).toInt = 24 from rfl) c_2
    refine lv_aload_n hx hb dX1_add_10 rfl (lv_at hl 0 rfl) ?_
    refine h_getr (ci := 1) (C := RX1) (F := TX1) (N := 5) hx hb hts in1 hown hK hH (by decide) (rfl : kd 13 = 1) (by decide) rfl 3 (by decide) wd1 (fun _ h9 => h9) (by decide) rfl (t := 18) (hR 13 3 rfl) (by decide) dX1_add_11 ?_
    refine lv_aload_n hx hb dX1_add_14 rfl (lv_at hl 0 rfl) ?_
    refine h_geti (ci := 1) (C := RX1) (F := TX1) (N := 5) hx hb hts in1 hown hK hH (by decide) (rfl : kd 13 = 1) (by decide) rfl 4 (by decide) wd0 (fun _ h9 => h9) (by decide) rfl dX1_add_15 ?_
    obtain ⟨j_4, ej_4, hj_4⟩ : ∃ j : Nat, ((i 13 4)).toNatClampNeg = j ∧ (j : Int) = (i 13 4).toInt := ⟨_, rfl, by rw [s_cl (rfl : (i 13 4).toInt = _)]; omega⟩
    have lj_4 : j_4 < 24 := by omega
    refine h_qald hx hb hK hH (by decide) (rfl : kd 18 = 18) (by decide) rfl (s_vin (N := 24) (rfl : (i 13 4).toInt = _) (rfl : ln 18 = 24) (by omega) (by omega)) (t := (216 + 1 * j_4)) (by rw [ej_4]; exact (hR 18 j_4 rfl)) (lt_nK (by omega)) dX1_add_18 ?_
    refine lv_astore (lv' := [(5, .ref (g (216 + 1 * j_4))), (0, .ref (g 13)), (1, .ref (g q)), (2, .int x), (3, .null), (4, .null)]) hx hb dX1_add_19 hl (by decide) rfl (fun ls hl => ?_)
    refine lv_aload hx hb dX1_add_21 (lv_at hl 0 rfl) ?_
    refine lv_aload_n hx hb dX1_add_23 rfl (lv_at hl 2 rfl) ?_
    refine h_putr (t := q) (v := .ref (g q)) (ty := (.object "StoryDesk$Part")) (ci := 0) (C := RX0) (F := TX0) (N := 5) hx hb hts in0 tyX0 tyX0_ok nmX0 hown hK hH hS (lt_nK (by omega)) (kd_case (by omega) (by omega)) (by decide) rfl 0 (by decide) wd2 (fun _ h9 => h9) rfl (rq_some (lt_nK (by omega))) (by decide +kernel) rfl rfl (by decide) rfl dX1_add_24 (fun H locs hH hS => ?_)
    refine lv_aload hx hb dX1_add_27 (lv_at hl 0 rfl) ?_
    refine lv_aload_nN hx hb dX1_add_29 rfl (lv_at hl 4 rfl) ?_
    refine h_putr (t := nK) (v := .null) (ty := (.object "StoryDesk$Row")) (ci := 0) (C := RX0) (F := TX0) (N := 5) hx hb hts in0 tyX0 tyX0_ok nmX0 hown hK hH hS (lt_nK (by omega)) (kd_case (by omega) (by omega)) (by decide) rfl 1 (by decide) wd3 (fun _ h9 => h9) rfl (rq_none (by decide)) (by decide +kernel) rfl rfl (by decide) rfl dX1_add_30 (fun H locs hH hS => ?_)
    refine lv_aload hx hb dX1_add_33 (lv_at hl 0 rfl) ?_
    refine lv_aloadN hx hb dX1_add_35 (lv_at hl 5 rfl) ?_
    refine h_putr (t := nK) (v := .null) (ty := (.object "StoryDesk$Row")) (ci := 0) (C := RX0) (F := TX0) (N := 5) hx hb hts in0 tyX0 tyX0_ok nmX0 hown hK hH hS (lt_nK (by omega)) (kd_case (by omega) (by omega)) (by decide) rfl 2 (by decide) wd4 (fun _ h9 => h9) rfl (rq_none (by decide)) (by decide +kernel) rfl rfl (by decide) rfl dX1_add_37 (fun H locs hH hS => ?_)
    refine lv_aload hx hb dX1_add_40 (lv_at hl 0 rfl) ?_
    refine lv_aload_n hx hb dX1_add_42 rfl (lv_at hl 1 rfl) ?_
    refine h_getr (ci := 1) (C := RX1) (F := TX1) (N := 5) hx hb hts in1 hown hK hH (by decide) (rfl : kd 13 = 1) (by decide) rfl 0 (by decide) wd5 (fun _ h9 => h9) (by decide) rfl (t := 3) ((RS_put (RS_put (RS_put hR (by unfold dyn; simp <;> omega)) (by unfold dyn; simp <;> omega)) (by unfold dyn; simp <;> omega)) 13 0 rfl) (by decide) dX1_add_43 ?_
    refine h_getr (ci := 5) (C := RX5) (F := TX5) (N := 19) hx hb hts in5 hown hK hH (by decide) (rfl : kd 3 = 5) (by decide) rfl 5 (by decide) wd6 (fun _ h9 => h9) (by decide) rfl (t := 8) ((RS_put (RS_put (RS_put hR (by unfold dyn; simp <;> omega)) (by unfold dyn; simp <;> omega)) (by unfold dyn; simp <;> omega)) 3 5 rfl) (by decide) dX1_add_46 ?_
    refine lv_iconst (v := 0) hx hb dX1_add_49 (by decide) ?_
    refine h_qald hx hb hK hH (by decide) (rfl : kd 8 = 22) (by decide) rfl (s_vin (N := 5) (show (0 : Int32).toInt = 0 from rfl) (rfl : ln 8 = 5) (by omega) (by omega)) (t := 37) ((RS_put (RS_put (RS_put hR (by unfold dyn; simp <;> omega)) (by unfold dyn; simp <;> omega)) (by unfold dyn; simp <;> omega)) 8 0 rfl) (by decide) dX1_add_50 ?_
    have pb_5 := bxp hO (p := 37) (by omega) (by omega)
    have bx_6 : (0 : Int) ≤ (i 37 1).toInt ∧ (i 37 1).toInt ≤ 65535 := hO 37 1
    refine h_geti (ci := 4) (C := RX4) (F := TX4) (N := 9) hx hb hts in4 hown hK hH (by decide) (rfl : kd 37 = 4) (by decide) rfl 1 (by decide) wd7 (fun _ h9 => h9) (by decide) rfl dX1_add_51 ?_
    refine lv_aload_n hx hb dX1_add_54 rfl (lv_at hl 1 rfl) ?_
    refine h_getr (ci := 1) (C := RX1) (F := TX1) (N := 5) hx hb hts in1 hown hK hH (by decide) (rfl : kd 13 = 1) (by decide) rfl 0 (by decide) wd5 (fun _ h9 => h9) (by decide) rfl (t := 3) ((RS_put (RS_put (RS_put hR (by unfold dyn; simp <;> omega)) (by unfold dyn; simp <;> omega)) (by unfold dyn; simp <;> omega)) 13 0 rfl) (by decide) dX1_add_55 ?_
    refine h_getr (ci := 5) (C := RX5) (F := TX5) (N := 19) hx hb hts in5 hown hK hH (by decide) (rfl : kd 3 = 5) (by decide) rfl 5 (by decide) wd6 (fun _ h9 => h9) (by decide) rfl (t := 8) ((RS_put (RS_put (RS_put hR (by unfold dyn; simp <;> omega)) (by unfold dyn; simp <;> omega)) (by unfold dyn; simp <;> omega)) 3 5 rfl) (by decide) dX1_add_58 ?_
    refine lv_aload_n hx hb dX1_add_61 rfl (lv_at hl 2 rfl) ?_
    have bx_7 : (0 : Int) ≤ (i q 6).toInt ∧ (i q 6).toInt ≤ 4 := by have h9 := hO q 6; rw [bx_part (by omega) (by omega) 6] at h9; exact h9
    refine h_geti (ci := 4) (C := RX4) (F := TX4) (N := 9) hx hb hts in4 hown hK hH (lt_nK (by omega)) (kd_part (by omega) (by omega)) (by decide) rfl 6 (by decide) wd8 (fun _ h9 => h9) (by decide) rfl dX1_add_62 ?_
    obtain ⟨j_8, ej_8, hj_8⟩ : ∃ j : Nat, ((i q 6)).toNatClampNeg = j ∧ (j : Int) = (i q 6).toInt := ⟨_, rfl, by rw [s_cl (rfl : (i q 6).toInt = _)]; omega⟩
    have lj_8 : j_8 < 5 := by omega
    refine h_qald hx hb hK hH (by decide) (rfl : kd 8 = 22) (by decide) rfl (s_vin (N := 5) (rfl : (i q 6).toInt = _) (rfl : ln 8 = 5) (by omega) (by omega)) (t := (37 + 1 * j_8)) (by rw [ej_8]; exact ((RS_put (RS_put (RS_put hR (by unfold dyn; simp <;> omega)) (by unfold dyn; simp <;> omega)) (by unfold dyn; simp <;> omega)) 8 j_8 rfl)) (lt_nK (by omega)) dX1_add_65 ?_
    have pb_9 := bxp hO (p := (37 + 1 * j_8)) (by omega) (by omega)
    have bx_10 : (0 : Int) ≤ (i (37 + 1 * j_8) 1).toInt ∧ (i (37 + 1 * j_8) 1).toInt ≤ 65535 := by have h9 := hO (37 + 1 * j_8) 1; rw [bx_part (by omega) (by omega) 1] at h9; exact h9
    refine h_geti (ci := 4) (C := RX4) (F := TX4) (N := 9) hx hb hts in4 hown hK hH (lt_nK (by omega)) (kd_part (by omega) (by omega)) (by decide) rfl 1 (by decide) wd7 (fun _ h9 => h9) (by decide) rfl dX1_add_66 ?_
    refine lv_ior hx hb dX1_add_69 ?_
    refine lv_topi (fun z_11 ez_11 => ?_)
    have hz_11 := s_or ez_11 ⟨by omega, by omega⟩ ⟨by omega, by omega⟩
    refine lv_aload_n hx hb dX1_add_70 rfl (lv_at hl 2 rfl) ?_
    have bx_12 : (0 : Int) ≤ (i q 1).toInt ∧ (i q 1).toInt ≤ 65535 := by have h9 := hO q 1; rw [bx_part (by omega) (by omega) 1] at h9; exact h9
    refine h_geti (ci := 4) (C := RX4) (F := TX4) (N := 9) hx hb hts in4 hown hK hH (lt_nK (by omega)) (kd_part (by omega) (by omega)) (by decide) rfl 1 (by decide) wd7 (fun _ h9 => h9) (by decide) rfl dX1_add_71 ?_
    refine lv_ior hx hb dX1_add_74 ?_
    refine lv_topi (fun z_13 ez_13 => ?_)
    have hz_13 := s_or ez_13 ⟨by omega, by omega⟩ ⟨by omega, by omega⟩
    refine lv_iload_n hx hb dX1_add_75 rfl (lv_at hl 3 rfl) ?_
    refine lv_ior hx hb dX1_add_76 ?_
    refine lv_topi (fun z_14 ez_14 => ?_)
    have hz_14 := s_or ez_14 ⟨by omega, by omega⟩ ⟨by omega, by omega⟩
    have hO_15 := okp hO (n := (216 + 1 * j_4)) (k := 3) (v := z_14) (by rw [bx_case (by omega) (by omega) 3]; exact (show (0 : Int) ≤ (z_14 : Int32).toInt ∧ (z_14 : Int32).toInt ≤ 65535 from ⟨by omega, by omega⟩))
    refine h_puti (ty := .int) (ci := 0) (C := RX0) (F := TX0) (N := 5) hx hb hts in0 tyX0 tyX0_ok nmX0 hown hK hH hS (lt_nK (by omega)) (kd_case (by omega) (by omega)) (by decide) rfl 3 (by decide) wd9 (fun _ h9 => h9) rfl (by decide +kernel) rfl rfl (by decide) rfl dX1_add_77 (fun H locs hH hS => ?_)
    refine lv_aload hx hb dX1_add_80 (lv_at hl 0 rfl) ?_
    refine lv_iconst (v := (-1)) hx hb dX1_add_82 (by decide) ?_
    have hO_16 := okp hO_15 (n := (216 + 1 * j_4)) (k := 4) (v := (-1)) (by rw [bx_case (by omega) (by omega) 4]; exact (show (-1 : Int) ≤ ((-1) : Int32).toInt ∧ ((-1) : Int32).toInt ≤ 5 from ⟨by decide, by decide⟩))
    refine h_puti (ty := .int) (ci := 0) (C := RX0) (F := TX0) (N := 5) hx hb hts in0 tyX0 tyX0_ok nmX0 hown hK hH hS (lt_nK (by omega)) (kd_case (by omega) (by omega)) (by decide) rfl 4 (by decide) wd10 (fun _ h9 => h9) rfl (by decide +kernel) rfl rfl (by decide) rfl dX1_add_83 (fun H locs hH hS => ?_)
    refine lv_aload_n hx hb dX1_add_86 rfl (lv_at hl 1 rfl) ?_
    refine lv_dup hx hb dX1_add_87 rfl ?_
    refine h_geti (ci := 1) (C := RX1) (F := TX1) (N := 5) hx hb hts in1 hown hK hH (by decide) (rfl : kd 13 = 1) (by decide) rfl 4 (by decide) wd0 (fun _ h9 => h9) (by decide) rfl dX1_add_88 ?_
    refine sj_i (y := (i 13 4)) ((congrFun (up2_n _ _ (by omega)) _).trans (congrFun (up2_n _ _ (by omega)) _)) ?_
    refine lv_iconst (v := 1) hx hb dX1_add_91 (by decide) ?_
    refine lv_iadd hx hb dX1_add_92 ?_
    obtain ⟨z_17, ez_17, hz_17⟩ := s_add (rfl : (i 13 4).toInt = _) (show (1 : Int32).toInt = 1 from rfl) (by omega) (by omega)
    refine sj_i ez_17 ?_
    have hO_18 := okp hO_16 (n := 13) (k := 4) (v := z_17) (show (0 : Int) ≤ (z_17 : Int32).toInt ∧ (z_17 : Int32).toInt ≤ 24 from ⟨by omega, by omega⟩)
    refine h_puti (ty := .int) (ci := 1) (C := RX1) (F := TX1) (N := 5) hx hb hts in1 tyX1 tyX1_ok nmX1 hown hK hH hS (by decide) (rfl : kd 13 = 1) (by decide) rfl 4 (by decide) wd0 (fun _ h9 => h9) rfl (by decide +kernel) rfl rfl (by decide) rfl dX1_add_93 (fun H locs hH hS => ?_)
    have hcz : ((up2 (up2 (up2 i (216 + 1 * j_4) 3 z_14) (216 + 1 * j_4) 4 (-1)) 13 4 z_17) 13 4).toInt = (i 13 4).toInt + 1 := by rw [(up2_at _ _ _ _)]; omega
    have hr0 : (upr (upr (upr r (216 + 1 * j_4) 0 q) (216 + 1 * j_4) 1 nK) (216 + 1 * j_4) 2 nK) (216 + 1 * j_4) 0 = q := ((upr_k _ _ (by decide)).trans ((upr_k _ _ (by decide)).trans (upr_at _ _ _ _)))
    have hr1 : ¬ (upr (upr (upr r (216 + 1 * j_4) 0 q) (216 + 1 * j_4) 1 nK) (216 + 1 * j_4) 2 nK) (216 + 1 * j_4) 1 < nK := (by rw [(upr_k _ _ (by decide))]; exact (by rw [upr_at]; decide))
    have hr2 : ¬ (upr (upr (upr r (216 + 1 * j_4) 0 q) (216 + 1 * j_4) 1 nK) (216 + 1 * j_4) 2 nK) (216 + 1 * j_4) 2 < nK := (by rw [upr_at]; decide)
    have hct : ((up2 (up2 (up2 i (216 + 1 * j_4) 3 z_14) (216 + 1 * j_4) 4 (-1)) 13 4 z_17) 13 4).toInt = (z_17 : Int32).toInt := congrArg Int32.toInt ((up2_at _ _ _ _))
    exact sj_vret hx hb hr hlocks hS ((up2 (up2 (up2 i (216 + 1 * j_4) 3 z_14) (216 + 1 * j_4) 4 (-1)) 13 4 z_17), (upr (upr (upr r (216 + 1 * j_4) 0 q) (216 + 1 * j_4) 1 nK) (216 + 1 * j_4) 2 nK)) ⟨hO_18, (fun a ha => ((up2_n _ _ (by omega)).trans ((up2_n _ _ (by omega)).trans (up2_n _ _ (by omega))))), (RS_put (RS_put (RS_put hR (by unfold dyn; simp <;> omega)) (by unfold dyn; simp <;> omega)) (by unfold dyn; simp <;> omega)), (fun a b ha => ((upr_o _ _ (by omega)).trans ((upr_o _ _ (by omega)).trans (upr_o _ _ (by omega))))), (Or.inr ⟨by omega, by dsimp only; omega⟩), (PC_add hPC (n := j_4) (q := q) (by omega) (by dsimp only; omega) (fun a b ha => ((upr_o _ _ (by omega)).trans ((upr_o _ _ (by omega)).trans (upr_o _ _ (by omega))))) hr0 ⟨hq1, hq2⟩ (Or.inl ⟨hr1, hr2⟩)), (fun _ => by
      rw [show (i 13 4).toInt.toNat = j_4 by omega]
      refine ⟨hr0, ?_⟩
      show (up2 (up2 (up2 i (216 + 1 * j_4) 3 z_14) (216 + 1 * j_4) 4 (-1)) 13 4 z_17) (216 + 1 * j_4) 3 = _
      rw [((congrFun (up2_n _ _ (by omega)) _).trans ((up2_k _ _ (by decide)).trans (up2_at _ _ _ _)))]
      unfold ortags
      rw [show (i q 6).toInt.toNat = j_8 by omega, ez_14, ez_13, ez_11]), (fun c hc => ⟨((upr_o _ _ (by omega)).trans ((upr_o _ _ (by omega)).trans (upr_o _ _ (by omega)))), ((up2_o _ _ (by omega)).trans ((up2_o _ _ (by omega)).trans (up2_o _ _ (by omega))))⟩)⟩ hH (sj_Knil hK) (Nat.le_of_ble_eq_true rfl) (Nat.le_of_ble_eq_true rfl) dX1_add_96
  · skip
    have h_19 := s_nlt (rfl : (i 13 4).toInt = _) (show (24 : Int32).toInt = 24 from rfl) c_2
    exact sj_vret hx hb hr hlocks hS (i, r) ⟨hO, (fun a ha => rfl), hR, (fun a b ha => rfl), (Or.inl ⟨by omega, by dsimp only; omega⟩), hPC, (fun h => absurd h (by omega)), (fun c hc => ⟨rfl, rfl⟩)⟩ hH (sj_Knil hK) (Nat.le_of_ble_eq_true rfl) (Nat.le_of_ble_eq_true rfl) dX1_add_9
set_option maxHeartbeats 2000000 in
set_option maxRecDepth 100000 in
theorem k_addR (l : Launch) (D : va_G) (g : Nat → Nat) (ka : Nat → ClassId) (ad : Nat → Nat) (i : Nat → Nat → Int32) (r : Nat → Nat → Nat) (L : Nat → Nat → Int64) (d : Nat → Nat → UInt64) (q : Nat) (x : Int32) (ra : Nat) (rb : Nat) (hO : OkI i) (hR : RS r) (sz : Nat) (hq1 : 42 ≤ q) (hq2 : q < 54) (hPC : PC i r) (hx0 : 0 ≤ x.toInt) (hx1 : x.toInt ≤ 65535) (hra : ra < 40) (hrb : rb < 40) : Met l yX1_add wsX1_add ({ frames := 0, cells := 0, slots := 0, locals := 0 }) (va_Pc [.ref (g 13), .ref (g q), .int x, .ref (g (96 + 3 * ra)), .ref (g (96 + 3 * rb))] (sj_B D (hwc g ka i r L d) (hT ka) sz (gx ad (va_A (hwc g ka i r L d) sz)))) (sj_Qv (S := (Nat → Nat → Int32) × (Nat → Nat → Nat)) D (fun u => OkI u.1 ∧ (∀ a, ¬ (a = 13 ∨ (216 ≤ a ∧ a < 240)) → u.1 a = i a) ∧ RS u.2 ∧ (∀ a b, ¬ ((216 ≤ a ∧ a < 240)) → u.2 a b = r a b) ∧ (((i 13 4).toInt = 24 ∧ (u.1 13 4).toInt = 24) ∨ ((i 13 4).toInt < 24 ∧ (u.1 13 4).toInt = (i 13 4).toInt + 1)) ∧ (PC u.1 u.2) ∧ ((i 13 4).toInt < 24 → (u.2 (216 + 1 * (i 13 4).toInt.toNat) 0 = q ∧ u.1 (216 + 1 * (i 13 4).toInt.toNat) 3 = ortags i q x)) ∧ (∀ c : Nat, (c : Int) < (i 13 4).toInt → (u.2 (216 + 1 * c) 0 = r (216 + 1 * c) 0 ∧ u.1 (216 + 1 * c) 3 = i (216 + 1 * c) 3))) (fun u => hwc g ka u.1 u.2 L d) (fun _ => []) (va_A (hwc g ka i r L d) sz)) 0 0 (va_A (hwc g ka i r L d) sz) := by
  refine x_met (Ex := gx ad) (cc := cX1_add) (maxL := 6) (ret := none) (by decide) rfl (Nat.le_of_ble_eq_true rfl) ?_
  intro p e s m below meth c A ls hx hb hr hml hts hown hlocks hA hS hH hK hE hl
  have hown : s.vm.findClass RX1 = some m.cls := hown
  have in0 : ∀ w ∈ wsX00, w ∈ wsX1_add := (fun _ h => (List.mem_cons_of_mem _ (List.mem_append_left _ (List.mem_append_left _ (List.mem_append_right _ h)))))
  have in1 : ∀ w ∈ wsX10, w ∈ wsX1_add := (fun _ h => (List.mem_cons_of_mem _ (List.mem_append_left _ (List.mem_append_left _ (List.mem_append_left _ (List.mem_append_right _ h))))))
  have in4 : ∀ w ∈ wsX40, w ∈ wsX1_add := (fun _ h => (List.mem_cons_of_mem _ (List.mem_append_right _ h)))
  have in5 : ∀ w ∈ wsX50, w ∈ wsX1_add := (fun _ h => (List.mem_cons_of_mem _ (List.mem_append_left _ (List.mem_append_right _ h))))
  have wd0 := hts (.fieldLink RX1 34 "StoryDesk$Cases" "count" "I") (List.mem_cons_of_mem _ (List.mem_append_left _ (List.mem_append_left _ (List.mem_append_left _ (List.mem_append_left _ lm0)))))
  have wd1 := hts (.fieldLink RX1 29 "StoryDesk$Cases" "all" "[LStoryDesk$Case;") (List.mem_cons_of_mem _ (List.mem_append_left _ (List.mem_append_left _ (List.mem_append_left _ (List.mem_append_left _ lm1)))))
  have wd2 := hts (.fieldLink RX1 79 "StoryDesk$Case" "scenario" "LStoryDesk$Part;") (List.mem_cons_of_mem _ (List.mem_append_left _ (List.mem_append_left _ (List.mem_append_left _ (List.mem_append_left _ lm2)))))
  have wd3 := hts (.fieldLink RX1 83 "StoryDesk$Case" "names" "LStoryDesk$Row;") (List.mem_cons_of_mem _ (List.mem_append_left _ (List.mem_append_left _ (List.mem_append_left _ (List.mem_append_left _ lm3)))))
  have wd4 := hts (.fieldLink RX1 87 "StoryDesk$Case" "values" "LStoryDesk$Row;") (List.mem_cons_of_mem _ (List.mem_append_left _ (List.mem_append_left _ (List.mem_append_left _ (List.mem_append_left _ lm4)))))
  have wd5 := hts (.fieldLink RX1 9 "StoryDesk$Cases" "reading" "LStoryDesk$Reading;") (List.mem_cons_of_mem _ (List.mem_append_left _ (List.mem_append_left _ (List.mem_append_left _ (List.mem_append_left _ lm5)))))
  have wd6 := hts (.fieldLink RX1 90 "StoryDesk$Reading" "sections" "[LStoryDesk$Part;") (List.mem_cons_of_mem _ (List.mem_append_left _ (List.mem_append_left _ (List.mem_append_left _ (List.mem_append_left _ lm6)))))
  have wd7 := hts (.fieldLink RX1 69 "StoryDesk$Part" "tags" "I") (List.mem_cons_of_mem _ (List.mem_append_left _ (List.mem_append_left _ (List.mem_append_left _ (List.mem_append_left _ lm7)))))
  have wd8 := hts (.fieldLink RX1 93 "StoryDesk$Part" "section" "I") (List.mem_cons_of_mem _ (List.mem_append_left _ (List.mem_append_left _ (List.mem_append_left _ (List.mem_append_left _ lm8)))))
  have wd9 := hts (.fieldLink RX1 96 "StoryDesk$Case" "tags" "I") (List.mem_cons_of_mem _ (List.mem_append_left _ (List.mem_append_left _ (List.mem_append_left _ (List.mem_append_left _ lm9)))))
  have wd10 := hts (.fieldLink RX1 97 "StoryDesk$Case" "status" "I") (List.mem_cons_of_mem _ (List.mem_append_left _ (List.mem_append_left _ (List.mem_append_left _ (List.mem_append_left _ lm10)))))
  have hl : lv_has ls 6 [(0, .ref (g 13)), (1, .ref (g q)), (2, .int x), (3, .ref (g (96 + 3 * ra))), (4, .ref (g (96 + 3 * rb)))] := hl
  have hK : va_K D vwCl (hT ka) s := hK
  have hbc : (0 : Int) ≤ (i 13 4).toInt ∧ (i 13 4).toInt ≤ 24 := hO 13 4
  refine lv_aload_n hx hb dX1_add_0 rfl (lv_at hl 0 rfl) ?_
  have bx_1 : (0 : Int) ≤ (i 13 4).toInt ∧ (i 13 4).toInt ≤ 24 := hO 13 4
  refine h_geti (ci := 1) (C := RX1) (F := TX1) (N := 5) hx hb hts in1 hown hK hH (by decide) (rfl : kd 13 = 1) (by decide) rfl 4 (by decide) wd0 (fun _ h9 => h9) (by decide) rfl dX1_add_1 ?_
  refine lv_bipush (v := 24) hx hb dX1_add_4 (by decide) ?_
  refine lv_icmp_lt (tgt := 10) hx hb dX1_add_6 (by decide) (fun c_2 => ?_) (fun c_2 => ?_)
  · skip
    have h_3 := s_lt (rfl : (i 13 4).toInt = _) (show (24 : Int32).toInt = 24 from rfl) c_2
    refine lv_aload_n hx hb dX1_add_10 rfl (lv_at hl 0 rfl) ?_
    refine h_getr (ci := 1) (C := RX1) (F := TX1) (N := 5) hx hb hts in1 hown hK hH (by decide) (rfl : kd 13 = 1) (by decide) rfl 3 (by decide) wd1 (fun _ h9 => h9) (by decide) rfl (t := 18) (hR 13 3 rfl) (by decide) dX1_add_11 ?_
    refine lv_aload_n hx hb dX1_add_14 rfl (lv_at hl 0 rfl) ?_
    refine h_geti (ci := 1) (C := RX1) (F := TX1) (N := 5) hx hb hts in1 hown hK hH (by decide) (rfl : kd 13 = 1) (by decide) rfl 4 (by decide) wd0 (fun _ h9 => h9) (by decide) rfl dX1_add_15 ?_
    obtain ⟨j_4, ej_4, hj_4⟩ : ∃ j : Nat, ((i 13 4)).toNatClampNeg = j ∧ (j : Int) = (i 13 4).toInt := ⟨_, rfl, by rw [s_cl (rfl : (i 13 4).toInt = _)]; omega⟩
    have lj_4 : j_4 < 24 := by omega
    refine h_qald hx hb hK hH (by decide) (rfl : kd 18 = 18) (by decide) rfl (s_vin (N := 24) (rfl : (i 13 4).toInt = _) (rfl : ln 18 = 24) (by omega) (by omega)) (t := (216 + 1 * j_4)) (by rw [ej_4]; exact (hR 18 j_4 rfl)) (lt_nK (by omega)) dX1_add_18 ?_
    refine lv_astore (lv' := [(5, .ref (g (216 + 1 * j_4))), (0, .ref (g 13)), (1, .ref (g q)), (2, .int x), (3, .ref (g (96 + 3 * ra))), (4, .ref (g (96 + 3 * rb)))]) hx hb dX1_add_19 hl (by decide) rfl (fun ls hl => ?_)
    refine lv_aload hx hb dX1_add_21 (lv_at hl 0 rfl) ?_
    refine lv_aload_n hx hb dX1_add_23 rfl (lv_at hl 2 rfl) ?_
    refine h_putr (t := q) (v := .ref (g q)) (ty := (.object "StoryDesk$Part")) (ci := 0) (C := RX0) (F := TX0) (N := 5) hx hb hts in0 tyX0 tyX0_ok nmX0 hown hK hH hS (lt_nK (by omega)) (kd_case (by omega) (by omega)) (by decide) rfl 0 (by decide) wd2 (fun _ h9 => h9) rfl (rq_some (lt_nK (by omega))) (by decide +kernel) rfl rfl (by decide) rfl dX1_add_24 (fun H locs hH hS => ?_)
    refine lv_aload hx hb dX1_add_27 (lv_at hl 0 rfl) ?_
    refine lv_aload_n hx hb dX1_add_29 rfl (lv_at hl 4 rfl) ?_
    refine h_putr (t := (96 + 3 * ra)) (v := .ref (g (96 + 3 * ra))) (ty := (.object "StoryDesk$Row")) (ci := 0) (C := RX0) (F := TX0) (N := 5) hx hb hts in0 tyX0 tyX0_ok nmX0 hown hK hH hS (lt_nK (by omega)) (kd_case (by omega) (by omega)) (by decide) rfl 1 (by decide) wd3 (fun _ h9 => h9) rfl (rq_some (lt_nK (by omega))) (by decide +kernel) rfl rfl (by decide) rfl dX1_add_30 (fun H locs hH hS => ?_)
    refine lv_aload hx hb dX1_add_33 (lv_at hl 0 rfl) ?_
    refine lv_aload hx hb dX1_add_35 (lv_at hl 5 rfl) ?_
    refine h_putr (t := (96 + 3 * rb)) (v := .ref (g (96 + 3 * rb))) (ty := (.object "StoryDesk$Row")) (ci := 0) (C := RX0) (F := TX0) (N := 5) hx hb hts in0 tyX0 tyX0_ok nmX0 hown hK hH hS (lt_nK (by omega)) (kd_case (by omega) (by omega)) (by decide) rfl 2 (by decide) wd4 (fun _ h9 => h9) rfl (rq_some (lt_nK (by omega))) (by decide +kernel) rfl rfl (by decide) rfl dX1_add_37 (fun H locs hH hS => ?_)
    refine lv_aload hx hb dX1_add_40 (lv_at hl 0 rfl) ?_
    refine lv_aload_n hx hb dX1_add_42 rfl (lv_at hl 1 rfl) ?_
    refine h_getr (ci := 1) (C := RX1) (F := TX1) (N := 5) hx hb hts in1 hown hK hH (by decide) (rfl : kd 13 = 1) (by decide) rfl 0 (by decide) wd5 (fun _ h9 => h9) (by decide) rfl (t := 3) ((RS_put (RS_put (RS_put hR (by unfold dyn; simp <;> omega)) (by unfold dyn; simp <;> omega)) (by unfold dyn; simp <;> omega)) 13 0 rfl) (by decide) dX1_add_43 ?_
    refine h_getr (ci := 5) (C := RX5) (F := TX5) (N := 19) hx hb hts in5 hown hK hH (by decide) (rfl : kd 3 = 5) (by decide) rfl 5 (by decide) wd6 (fun _ h9 => h9) (by decide) rfl (t := 8) ((RS_put (RS_put (RS_put hR (by unfold dyn; simp <;> omega)) (by unfold dyn; simp <;> omega)) (by unfold dyn; simp <;> omega)) 3 5 rfl) (by decide) dX1_add_46 ?_
    refine lv_iconst (v := 0) hx hb dX1_add_49 (by decide) ?_
    refine h_qald hx hb hK hH (by decide) (rfl : kd 8 = 22) (by decide) rfl (s_vin (N := 5) (show (0 : Int32).toInt = 0 from rfl) (rfl : ln 8 = 5) (by omega) (by omega)) (t := 37) ((RS_put (RS_put (RS_put hR (by unfold dyn; simp <;> omega)) (by unfold dyn; simp <;> omega)) (by unfold dyn; simp <;> omega)) 8 0 rfl) (by decide) dX1_add_50 ?_
    have pb_5 := bxp hO (p := 37) (by omega) (by omega)
    have bx_6 : (0 : Int) ≤ (i 37 1).toInt ∧ (i 37 1).toInt ≤ 65535 := hO 37 1
    refine h_geti (ci := 4) (C := RX4) (F := TX4) (N := 9) hx hb hts in4 hown hK hH (by decide) (rfl : kd 37 = 4) (by decide) rfl 1 (by decide) wd7 (fun _ h9 => h9) (by decide) rfl dX1_add_51 ?_
    refine lv_aload_n hx hb dX1_add_54 rfl (lv_at hl 1 rfl) ?_
    refine h_getr (ci := 1) (C := RX1) (F := TX1) (N := 5) hx hb hts in1 hown hK hH (by decide) (rfl : kd 13 = 1) (by decide) rfl 0 (by decide) wd5 (fun _ h9 => h9) (by decide) rfl (t := 3) ((RS_put (RS_put (RS_put hR (by unfold dyn; simp <;> omega)) (by unfold dyn; simp <;> omega)) (by unfold dyn; simp <;> omega)) 13 0 rfl) (by decide) dX1_add_55 ?_
    refine h_getr (ci := 5) (C := RX5) (F := TX5) (N := 19) hx hb hts in5 hown hK hH (by decide) (rfl : kd 3 = 5) (by decide) rfl 5 (by decide) wd6 (fun _ h9 => h9) (by decide) rfl (t := 8) ((RS_put (RS_put (RS_put hR (by unfold dyn; simp <;> omega)) (by unfold dyn; simp <;> omega)) (by unfold dyn; simp <;> omega)) 3 5 rfl) (by decide) dX1_add_58 ?_
    refine lv_aload_n hx hb dX1_add_61 rfl (lv_at hl 2 rfl) ?_
    have bx_7 : (0 : Int) ≤ (i q 6).toInt ∧ (i q 6).toInt ≤ 4 := by have h9 := hO q 6; rw [bx_part (by omega) (by omega) 6] at h9; exact h9
    refine h_geti (ci := 4) (C := RX4) (F := TX4) (N := 9) hx hb hts in4 hown hK hH (lt_nK (by omega)) (kd_part (by omega) (by omega)) (by decide) rfl 6 (by decide) wd8 (fun _ h9 => h9) (by decide) rfl dX1_add_62 ?_
    obtain ⟨j_8, ej_8, hj_8⟩ : ∃ j : Nat, ((i q 6)).toNatClampNeg = j ∧ (j : Int) = (i q 6).toInt := ⟨_, rfl, by rw [s_cl (rfl : (i q 6).toInt = _)]; omega⟩
    have lj_8 : j_8 < 5 := by omega
    refine h_qald hx hb hK hH (by decide) (rfl : kd 8 = 22) (by decide) rfl (s_vin (N := 5) (rfl : (i q 6).toInt = _) (rfl : ln 8 = 5) (by omega) (by omega)) (t := (37 + 1 * j_8)) (by rw [ej_8]; exact ((RS_put (RS_put (RS_put hR (by unfold dyn; simp <;> omega)) (by unfold dyn; simp <;> omega)) (by unfold dyn; simp <;> omega)) 8 j_8 rfl)) (lt_nK (by omega)) dX1_add_65 ?_
    have pb_9 := bxp hO (p := (37 + 1 * j_8)) (by omega) (by omega)
    have bx_10 : (0 : Int) ≤ (i (37 + 1 * j_8) 1).toInt ∧ (i (37 + 1 * j_8) 1).toInt ≤ 65535 := by have h9 := hO (37 + 1 * j_8) 1; rw [bx_part (by omega) (by omega) 1] at h9; exact h9
    refine h_geti (ci := 4) (C := RX4) (F := TX4) (N := 9) hx hb hts in4 hown hK hH (lt_nK (by omega)) (kd_part (by omega) (by omega)) (by decide) rfl 1 (by decide) wd7 (fun _ h9 => h9) (by decide) rfl dX1_add_66 ?_
    refine lv_ior hx hb dX1_add_69 ?_
    refine lv_topi (fun z_11 ez_11 => ?_)
    have hz_11 := s_or ez_11 ⟨by omega, by omega⟩ ⟨by omega, by omega⟩
    refine lv_aload_n hx hb dX1_add_70 rfl (lv_at hl 2 rfl) ?_
    have bx_12 : (0 : Int) ≤ (i q 1).toInt ∧ (i q 1).toInt ≤ 65535 := by have h9 := hO q 1; rw [bx_part (by omega) (by omega) 1] at h9; exact h9
    refine h_geti (ci := 4) (C := RX4) (F := TX4) (N := 9) hx hb hts in4 hown hK hH (lt_nK (by omega)) (kd_part (by omega) (by omega)) (by decide) rfl 1 (by decide) wd7 (fun _ h9 => h9) (by decide) rfl dX1_add_71 ?_
    refine lv_ior hx hb dX1_add_74 ?_
    refine lv_topi (fun z_13 ez_13 => ?_)
    have hz_13 := s_or ez_13 ⟨by omega, by omega⟩ ⟨by omega, by omega⟩
    refine lv_iload_n hx hb dX1_add_75 rfl (lv_at hl 3 rfl) ?_
    refine lv_ior hx hb dX1_add_76 ?_
    refine lv_topi (fun z_14 ez_14 => ?_)
    have hz_14 := s_or ez_14 ⟨by omega, by omega⟩ ⟨by omega, by omega⟩
    have hO_15 := okp hO (n := (216 + 1 * j_4)) (k := 3) (v := z_14) (by rw [bx_case (by omega) (by omega) 3]; exact (show (0 : Int) ≤ (z_14 : Int32).toInt ∧ (z_14 : Int32).toInt ≤ 65535 from ⟨by omega, by omega⟩))
    refine h_puti (ty := .int) (ci := 0) (C := RX0) (F := TX0) (N := 5) hx hb hts in0 tyX0 tyX0_ok nmX0 hown hK hH hS (lt_nK (by omega)) (kd_case (by omega) (by omega)) (by decide) rfl 3 (by decide) wd9 (fun _ h9 => h9) rfl (by decide +kernel) rfl rfl (by decide) rfl dX1_add_77 (fun H locs hH hS => ?_)
    refine lv_aload hx hb dX1_add_80 (lv_at hl 0 rfl) ?_
    refine lv_iconst (v := (-1)) hx hb dX1_add_82 (by decide) ?_
    have hO_16 := okp hO_15 (n := (216 + 1 * j_4)) (k := 4) (v := (-1)) (by rw [bx_case (by omega) (by omega) 4]; exact (show (-1 : Int) ≤ ((-1) : Int32).toInt ∧ ((-1) : Int32).toInt ≤ 5 from ⟨by decide, by decide⟩))
    refine h_puti (ty := .int) (ci := 0) (C := RX0) (F := TX0) (N := 5) hx hb hts in0 tyX0 tyX0_ok nmX0 hown hK hH hS (lt_nK (by omega)) (kd_case (by omega) (by omega)) (by decide) rfl 4 (by decide) wd10 (fun _ h9 => h9) rfl (by decide +kernel) rfl rfl (by decide) rfl dX1_add_83 (fun H locs hH hS => ?_)
    refine lv_aload_n hx hb dX1_add_86 rfl (lv_at hl 1 rfl) ?_
    refine lv_dup hx hb dX1_add_87 rfl ?_
    refine h_geti (ci := 1) (C := RX1) (F := TX1) (N := 5) hx hb hts in1 hown hK hH (by decide) (rfl : kd 13 = 1) (by decide) rfl 4 (by decide) wd0 (fun _ h9 => h9) (by decide) rfl dX1_add_88 ?_
    refine sj_i (y := (i 13 4)) ((congrFun (up2_n _ _ (by omega)) _).trans (congrFun (up2_n _ _ (by omega)) _)) ?_
    refine lv_iconst (v := 1) hx hb dX1_add_91 (by decide) ?_
    refine lv_iadd hx hb dX1_add_92 ?_
    obtain ⟨z_17, ez_17, hz_17⟩ := s_add (rfl : (i 13 4).toInt = _) (show (1 : Int32).toInt = 1 from rfl) (by omega) (by omega)
    refine sj_i ez_17 ?_
    have hO_18 := okp hO_16 (n := 13) (k := 4) (v := z_17) (show (0 : Int) ≤ (z_17 : Int32).toInt ∧ (z_17 : Int32).toInt ≤ 24 from ⟨by omega, by omega⟩)
    refine h_puti (ty := .int) (ci := 1) (C := RX1) (F := TX1) (N := 5) hx hb hts in1 tyX1 tyX1_ok nmX1 hown hK hH hS (by decide) (rfl : kd 13 = 1) (by decide) rfl 4 (by decide) wd0 (fun _ h9 => h9) rfl (by decide +kernel) rfl rfl (by decide) rfl dX1_add_93 (fun H locs hH hS => ?_)
    have hcz : ((up2 (up2 (up2 i (216 + 1 * j_4) 3 z_14) (216 + 1 * j_4) 4 (-1)) 13 4 z_17) 13 4).toInt = (i 13 4).toInt + 1 := by rw [(up2_at _ _ _ _)]; omega
    have hr0 : (upr (upr (upr r (216 + 1 * j_4) 0 q) (216 + 1 * j_4) 1 (96 + 3 * ra)) (216 + 1 * j_4) 2 (96 + 3 * rb)) (216 + 1 * j_4) 0 = q := ((upr_k _ _ (by decide)).trans ((upr_k _ _ (by decide)).trans (upr_at _ _ _ _)))
    have hr1 : (upr (upr (upr r (216 + 1 * j_4) 0 q) (216 + 1 * j_4) 1 (96 + 3 * ra)) (216 + 1 * j_4) 2 (96 + 3 * rb)) (216 + 1 * j_4) 1 = 96 + 3 * ra := ((upr_k _ _ (by decide)).trans (upr_at _ _ _ _))
    have hr2 : (upr (upr (upr r (216 + 1 * j_4) 0 q) (216 + 1 * j_4) 1 (96 + 3 * ra)) (216 + 1 * j_4) 2 (96 + 3 * rb)) (216 + 1 * j_4) 2 = 96 + 3 * rb := (upr_at _ _ _ _)
    have hct : ((up2 (up2 (up2 i (216 + 1 * j_4) 3 z_14) (216 + 1 * j_4) 4 (-1)) 13 4 z_17) 13 4).toInt = (z_17 : Int32).toInt := congrArg Int32.toInt ((up2_at _ _ _ _))
    exact sj_vret hx hb hr hlocks hS ((up2 (up2 (up2 i (216 + 1 * j_4) 3 z_14) (216 + 1 * j_4) 4 (-1)) 13 4 z_17), (upr (upr (upr r (216 + 1 * j_4) 0 q) (216 + 1 * j_4) 1 (96 + 3 * ra)) (216 + 1 * j_4) 2 (96 + 3 * rb))) ⟨hO_18, (fun a ha => ((up2_n _ _ (by omega)).trans ((up2_n _ _ (by omega)).trans (up2_n _ _ (by omega))))), (RS_put (RS_put (RS_put hR (by unfold dyn; simp <;> omega)) (by unfold dyn; simp <;> omega)) (by unfold dyn; simp <;> omega)), (fun a b ha => ((upr_o _ _ (by omega)).trans ((upr_o _ _ (by omega)).trans (upr_o _ _ (by omega))))), (Or.inr ⟨by omega, by dsimp only; omega⟩), (PC_add hPC (n := j_4) (q := q) (by omega) (by dsimp only; omega) (fun a b ha => ((upr_o _ _ (by omega)).trans ((upr_o _ _ (by omega)).trans (upr_o _ _ (by omega))))) hr0 ⟨hq1, hq2⟩ (Or.inr ⟨⟨ra, hra, hr1⟩, ⟨rb, hrb, hr2⟩⟩)), (fun _ => by
      rw [show (i 13 4).toInt.toNat = j_4 by omega]
      refine ⟨hr0, ?_⟩
      show (up2 (up2 (up2 i (216 + 1 * j_4) 3 z_14) (216 + 1 * j_4) 4 (-1)) 13 4 z_17) (216 + 1 * j_4) 3 = _
      rw [((congrFun (up2_n _ _ (by omega)) _).trans ((up2_k _ _ (by decide)).trans (up2_at _ _ _ _)))]
      unfold ortags
      rw [show (i q 6).toInt.toNat = j_8 by omega, ez_14, ez_13, ez_11]), (fun c hc => ⟨((upr_o _ _ (by omega)).trans ((upr_o _ _ (by omega)).trans (upr_o _ _ (by omega)))), ((up2_o _ _ (by omega)).trans ((up2_o _ _ (by omega)).trans (up2_o _ _ (by omega))))⟩)⟩ hH (sj_Knil hK) (Nat.le_of_ble_eq_true rfl) (Nat.le_of_ble_eq_true rfl) dX1_add_96
  · skip
    have h_19 := s_nlt (rfl : (i 13 4).toInt = _) (show (24 : Int32).toInt = 24 from rfl) c_2
    exact sj_vret hx hb hr hlocks hS (i, r) ⟨hO, (fun a ha => rfl), hR, (fun a b ha => rfl), (Or.inl ⟨by omega, by dsimp only; omega⟩), hPC, (fun h => absurd h (by omega)), (fun c hc => ⟨rfl, rfl⟩)⟩ hH (sj_Knil hK) (Nat.le_of_ble_eq_true rfl) (Nat.le_of_ble_eq_true rfl) dX1_add_9
