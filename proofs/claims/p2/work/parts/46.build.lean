theorem dX1_addExamples_0 : decode cX1_addExamples 0 = .ok (.iconst 1, 1) := by decide +kernel
theorem dX1_addExamples_1 : decode cX1_addExamples 1 = .ok (.istore_n 3, 1) := by decide +kernel
theorem dX1_addExamples_2 : decode cX1_addExamples 2 = .ok (.iload_n 3, 1) := by decide +kernel
theorem dX1_addExamples_3 : decode cX1_addExamples 3 = .ok (.aload_n 2, 1) := by decide +kernel
theorem dX1_addExamples_4 : decode cX1_addExamples 4 = .ok (.getfield 68, 3) := by decide +kernel
theorem dX1_addExamples_7 : decode cX1_addExamples 7 = .ok (.if_icmp .ge 44, 3) := by decide +kernel
theorem dX1_addExamples_51 : decode cX1_addExamples 51 = .ok (.return_, 1) := by decide +kernel
theorem dX1_addExamples_10 : decode cX1_addExamples 10 = .ok (.aload_n 0, 1) := by decide +kernel
theorem dX1_addExamples_11 : decode cX1_addExamples 11 = .ok (.aload_n 1, 1) := by decide +kernel
theorem dX1_addExamples_12 : decode cX1_addExamples 12 = .ok (.aload_n 2, 1) := by decide +kernel
theorem dX1_addExamples_13 : decode cX1_addExamples 13 = .ok (.getfield 69, 3) := by decide +kernel
theorem dX1_addExamples_16 : decode cX1_addExamples 16 = .ok (.aload_n 0, 1) := by decide +kernel
theorem dX1_addExamples_17 : decode cX1_addExamples 17 = .ok (.getfield 9, 3) := by decide +kernel
theorem dX1_addExamples_20 : decode cX1_addExamples 20 = .ok (.getfield 72, 3) := by decide +kernel
theorem dX1_addExamples_23 : decode cX1_addExamples 23 = .ok (.aload_n 2, 1) := by decide +kernel
theorem dX1_addExamples_24 : decode cX1_addExamples 24 = .ok (.getfield 76, 3) := by decide +kernel
theorem dX1_addExamples_27 : decode cX1_addExamples 27 = .ok (.aaload, 1) := by decide +kernel
theorem dX1_addExamples_28 : decode cX1_addExamples 28 = .ok (.aload_n 0, 1) := by decide +kernel
theorem dX1_addExamples_29 : decode cX1_addExamples 29 = .ok (.getfield 9, 3) := by decide +kernel
theorem dX1_addExamples_32 : decode cX1_addExamples 32 = .ok (.getfield 72, 3) := by decide +kernel
theorem dX1_addExamples_35 : decode cX1_addExamples 35 = .ok (.aload_n 2, 1) := by decide +kernel
theorem dX1_addExamples_36 : decode cX1_addExamples 36 = .ok (.getfield 76, 3) := by decide +kernel
theorem dX1_addExamples_39 : decode cX1_addExamples 39 = .ok (.iload_n 3, 1) := by decide +kernel
theorem dX1_addExamples_40 : decode cX1_addExamples 40 = .ok (.iadd, 1) := by decide +kernel
theorem dX1_addExamples_41 : decode cX1_addExamples 41 = .ok (.aaload, 1) := by decide +kernel
theorem dX1_addExamples_42 : decode cX1_addExamples 42 = .ok (.invokevirtual 55, 3) := by decide +kernel
theorem dX1_addExamples_45 : decode cX1_addExamples 45 = .ok (.iinc 3 1, 3) := by decide +kernel
theorem dX1_addExamples_48 : decode cX1_addExamples 48 = .ok (.goto (-46), 3) := by decide +kernel
theorem gw_X1_add : wsX1_add.all goodWord = true := by decide +kernel
theorem gX1_addExamples_X1_add : GoodIn wsX1_addExamples (wsV RX1 55 RX1 yX1_add wsX1_add) := goodIn_app (goodIn_sub (List.forall_mem_cons.mpr ⟨(List.mem_cons_of_mem _ (List.mem_append_left _ (List.mem_append_left _ (List.mem_append_left _ (List.mem_append_left _ lm5))))), List.forall_mem_cons.mpr ⟨(List.mem_cons_of_mem _ (List.mem_append_left _ (List.mem_append_left _ (List.mem_append_left _ (List.mem_append_left _ lm6))))), List.forall_mem_cons.mpr ⟨(List.mem_cons_of_mem _ (List.mem_append_left _ (List.mem_append_left _ (List.mem_append_left _ (List.mem_append_left _ lm7))))), List.forall_mem_cons.mpr ⟨(List.mem_cons_of_mem _ (List.mem_append_left _ (List.mem_append_left _ (List.mem_append_left _ (List.mem_append_left _ lm8))))), (fun _ h => absurd h List.not_mem_nil)⟩⟩⟩⟩) (by decide +kernel)) (goodIn_sub (by unfold wsX1_add; exact List.forall_mem_cons.mpr ⟨(List.mem_cons_of_mem _ (List.mem_append_left _ (List.mem_append_left _ (List.mem_append_left _ (List.mem_append_left _ lm9))))), List.forall_mem_append.mpr ⟨List.forall_mem_append.mpr ⟨List.forall_mem_append.mpr ⟨List.forall_mem_append.mpr ⟨List.forall_mem_cons.mpr ⟨(List.mem_cons_of_mem _ (List.mem_append_left _ (List.mem_append_left _ (List.mem_append_left _ (List.mem_append_left _ lm10))))), List.forall_mem_cons.mpr ⟨(List.mem_cons_of_mem _ (List.mem_append_left _ (List.mem_append_left _ (List.mem_append_left _ (List.mem_append_left _ lm11))))), List.forall_mem_cons.mpr ⟨(List.mem_cons_of_mem _ (List.mem_append_left _ (List.mem_append_left _ (List.mem_append_left _ (List.mem_append_left _ lm12))))), List.forall_mem_cons.mpr ⟨(List.mem_cons_of_mem _ (List.mem_append_left _ (List.mem_append_left _ (List.mem_append_left _ (List.mem_append_left _ lm13))))), List.forall_mem_cons.mpr ⟨(List.mem_cons_of_mem _ (List.mem_append_left _ (List.mem_append_left _ (List.mem_append_left _ (List.mem_append_left _ lm14))))), List.forall_mem_cons.mpr ⟨(List.mem_cons_of_mem _ (List.mem_append_left _ (List.mem_append_left _ (List.mem_append_left _ (List.mem_append_left _ lm2))))), List.forall_mem_cons.mpr ⟨(List.mem_cons_of_mem _ (List.mem_append_left _ (List.mem_append_left _ (List.mem_append_left _ (List.mem_append_left _ lm15))))), List.forall_mem_cons.mpr ⟨(List.mem_cons_of_mem _ (List.mem_append_left _ (List.mem_append_left _ (List.mem_append_left _ (List.mem_append_left _ lm1))))), List.forall_mem_cons.mpr ⟨(List.mem_cons_of_mem _ (List.mem_append_left _ (List.mem_append_left _ (List.mem_append_left _ (List.mem_append_left _ lm16))))), List.forall_mem_cons.mpr ⟨(List.mem_cons_of_mem _ (List.mem_append_left _ (List.mem_append_left _ (List.mem_append_left _ (List.mem_append_left _ lm17))))), List.forall_mem_cons.mpr ⟨(List.mem_cons_of_mem _ (List.mem_append_left _ (List.mem_append_left _ (List.mem_append_left _ (List.mem_append_left _ lm18))))), (fun _ h => absurd h List.not_mem_nil)⟩⟩⟩⟩⟩⟩⟩⟩⟩⟩⟩, (fun _ h => (List.mem_cons_of_mem _ (List.mem_append_left _ (List.mem_append_left _ (List.mem_append_right _ h)))))⟩, (fun _ h => (List.mem_cons_of_mem _ (List.mem_append_right _ h)))⟩, (fun _ h => (List.mem_cons_of_mem _ (List.mem_append_left _ (List.mem_append_right _ h))))⟩, (fun _ h => (List.mem_cons_of_mem _ (List.mem_append_left _ (List.mem_append_left _ (List.mem_append_left _ (List.mem_append_right _ h))))))⟩⟩) gw_X1_add)
set_option maxHeartbeats 2000000 in
set_option maxRecDepth 100000 in
theorem k_addEx (l : Launch) (D : va_G) (g : Nat → Nat) (ka : Nat → ClassId) (ad : Nat → Nat) (i : Nat → Nat → Int32) (r : Nat → Nat → Nat) (L : Nat → Nat → Int64) (d : Nat → Nat → UInt64) (q : Nat) (ee : Nat) (hO : OkI i) (hR : RS r) (sz : Nat) (hq1 : 42 ≤ q) (hq2 : q < 54) (he1 : 84 ≤ ee) (he2 : ee < 96) (hPC : PC i r) (hPO : PO i) : Met l yX1_addExamples wsX1_addExamples ({ frames := 1, cells := 0, slots := 0, locals := 25 }) (va_Pc [.ref (g 13), .ref (g q), .ref (g ee)] (sj_B D (hwc g ka i r L d) (hT ka) sz (gx ad (va_A (hwc g ka i r L d) sz)))) (sj_Qv (S := (Nat → Nat → Int32) × (Nat → Nat → Nat)) D (fun u => OkI u.1 ∧ (∀ a, ¬ (a = 13 ∨ (216 ≤ a ∧ a < 240)) → u.1 a = i a) ∧ RS u.2 ∧ (∀ a b, ¬ ((216 ≤ a ∧ a < 240)) → u.2 a b = r a b) ∧ (PC u.1 u.2) ∧ (∀ K : List (Nat × Int32), K.length ≤ 24 → csP i r K → csP u.1 u.2 ((K ++ csE i q ee ((i ee 3).toInt - 1).toNat).take 24))) (fun u => hwc g ka u.1 u.2 L d) (fun _ => []) (va_A (hwc g ka i r L d) sz)) 0 0 (va_A (hwc g ka i r L d) sz) := by
  refine x_met (Ex := gx ad) (cc := cX1_addExamples) (maxL := 4) (ret := none) (by decide) rfl (Nat.le_of_ble_eq_true rfl) ?_
  intro p e s m below meth c A ls hx hb hr hml hts hown hlocks hA hS hH hK hE hl
  have hown : s.vm.findClass RX1 = some m.cls := hown
  have in1 : ∀ w ∈ wsX10, w ∈ wsX1_addExamples := (fun _ h => (List.mem_cons_of_mem _ (List.mem_append_left _ (List.mem_append_left _ (List.mem_append_right _ h)))))
  have in4 : ∀ w ∈ wsX40, w ∈ wsX1_addExamples := (fun _ h => (List.mem_cons_of_mem _ (List.mem_append_left _ (List.mem_append_left _ (List.mem_append_left _ (List.mem_append_right _ h))))))
  have in5 : ∀ w ∈ wsX50, w ∈ wsX1_addExamples := (fun _ h => (List.mem_cons_of_mem _ (List.mem_append_left _ (List.mem_append_right _ h))))
  have wd0 := hts (.fieldLink RX1 68 "StoryDesk$Part" "count" "I") (List.mem_cons_of_mem _ (List.mem_append_left _ (List.mem_append_left _ (List.mem_append_left _ (List.mem_append_left _ lm0)))))
  have wd1 := hts (.fieldLink RX1 69 "StoryDesk$Part" "tags" "I") (List.mem_cons_of_mem _ (List.mem_append_left _ (List.mem_append_left _ (List.mem_append_left _ (List.mem_append_left _ lm1)))))
  have wd2 := hts (.fieldLink RX1 9 "StoryDesk$Cases" "reading" "LStoryDesk$Reading;") (List.mem_cons_of_mem _ (List.mem_append_left _ (List.mem_append_left _ (List.mem_append_left _ (List.mem_append_left _ lm2)))))
  have wd3 := hts (.fieldLink RX1 72 "StoryDesk$Reading" "rows" "[LStoryDesk$Row;") (List.mem_cons_of_mem _ (List.mem_append_left _ (List.mem_append_left _ (List.mem_append_left _ (List.mem_append_left _ lm3)))))
  have wd4 := hts (.fieldLink RX1 76 "StoryDesk$Part" "first" "I") (List.mem_cons_of_mem _ (List.mem_append_left _ (List.mem_append_left _ (List.mem_append_left _ (List.mem_append_left _ lm4)))))
  have hl : lv_has ls 4 [(0, .ref (g 13)), (1, .ref (g q)), (2, .ref (g ee))] := hl
  have hK : va_K D vwCl (hT ka) s := hK
  have hpe := hPO ee (by omega) (by omega)
  have hbe := bxp hO (p := ee) (by omega) (by omega)
  refine lv_iconst (v := 1) hx hb dX1_addExamples_0 (by decide) ?_
  refine lv_istore_n (lv' := [(3, .int 1), (0, .ref (g 13)), (1, .ref (g q)), (2, .ref (g ee))]) hx hb dX1_addExamples_1 rfl hl (by decide) rfl (fun ls hl => ?_)
  -- loop at 2
  have lp_1 : ∀ (fuel_lp_1 : Nat) (f : Int32) (j1 : Nat → Nat → Int32) (r1 : Nat → Nat → Nat) (H : Heap) (locs : List Loc) (ls : Array Slot), (41 - f.toInt).toNat < fuel_lp_1 → (1 : Int) ≤ f.toInt ∧ f.toInt ≤ 41 → f.toInt = 1 ∨ f.toInt ≤ (i ee 3).toInt → PC j1 r1 → (∀ K : List (Nat × Int32), K.length ≤ 24 → csP i r K → csP j1 r1 ((K ++ csE i q ee (f.toInt - 1).toNat).take 24)) → RS r1 → (∀ a b, ¬ ((216 ≤ a ∧ a < 240)) → r1 a b = r a b) → OkI j1 → (∀ a, ¬ (a = 13 ∨ (216 ≤ a ∧ a < 240)) → j1 a = i a) → lv_has ls 4 [(3, .int f), (0, .ref (g 13)), (1, .ref (g q)), (2, .ref (g ee))] → sj_H D A (hwc g ka j1 r1 L d) H → va_S A s.heap H locs → W p l e (headSpec wsX1_addExamples ({ frames := 1, cells := 0, slots := 0, locals := 25 })).room s m ([.ref (g 13), .ref (g q), .ref (g ee)] : List Value).toArray below meth c H locs 0 0 (MQ below (sj_Qv (S := (Nat → Nat → Int32) × (Nat → Nat → Nat)) D (fun u => OkI u.1 ∧ (∀ a, ¬ (a = 13 ∨ (216 ≤ a ∧ a < 240)) → u.1 a = i a) ∧ RS u.2 ∧ (∀ a b, ¬ ((216 ≤ a ∧ a < 240)) → u.2 a b = r a b) ∧ (PC u.1 u.2) ∧ (∀ K : List (Nat × Int32), K.length ≤ 24 → csP i r K → csP u.1 u.2 ((K ++ csE i q ee ((i ee 3).toInt - 1).toNat).take 24))) (fun u => hwc g ka u.1 u.2 L d) (fun _ => []) A) ([.ref (g 13), .ref (g q), .ref (g ee)] : List Value).toArray s 0 0 A) (F0 m 2 ls []) := by
    intro fuel_lp_1
    induction fuel_lp_1 with
    | zero => intros; omega
    | succ fuel_lp_1 ih_lp_1 =>
      intro f j1 r1 H locs ls hm hr_f hi_lp_1_0 hi_lp_1_1 hi_lp_1_2 hRS_r1 hfr_r1 hO_j1 hfr_j1 hl hH hS
      refine lv_iload_n hx hb dX1_addExamples_2 rfl (lv_at hl 0 rfl) ?_
      refine lv_aload_n hx hb dX1_addExamples_3 rfl (lv_at hl 3 rfl) ?_
      have bx_2 : (0 : Int) ≤ (i ee 3).toInt ∧ (i ee 3).toInt ≤ 40 := by have h9 := hO ee 3; rw [bx_part (by omega) (by omega) 3] at h9; exact h9
      refine h_geti (ci := 4) (C := RX4) (F := TX4) (N := 9) hx hb hts in4 hown hK hH (lt_nK (by omega)) (kd_part (by omega) (by omega)) (by decide) rfl 3 (by decide) wd0 (fun _ h9 => h9) (by decide) rfl dX1_addExamples_4 ?_
      refine sj_i (y := (i ee 3)) (congrFun (hfr_j1 ee (by omega)) _) ?_
      refine lv_icmp_ge (tgt := 51) hx hb dX1_addExamples_7 (by decide) (fun c_3 => ?_) (fun c_3 => ?_)
      · skip
        have h_4 := s_le (rfl : (i ee 3).toInt = _) (rfl : f.toInt = _) c_3
        exact sj_vret hx hb hr hlocks hS (j1, r1) ⟨hO_j1, (fun a ha => (hfr_j1 a (by omega))), hRS_r1, (fun a b ha => (hfr_r1 a b (by omega))), hi_lp_1_1, (fun K hl hK => by
          have h7 := hi_lp_1_2 K hl hK
          rw [show ((i ee 3).toInt - 1).toNat = (f.toInt - 1).toNat by omega]
          exact h7)⟩ hH (sj_Knil hK) (Nat.le_of_ble_eq_true rfl) (Nat.le_of_ble_eq_true rfl) dX1_addExamples_51
      · skip
        have h_5 := s_nle (rfl : (i ee 3).toInt = _) (rfl : f.toInt = _) c_3
        refine lv_aload_n hx hb dX1_addExamples_10 rfl (lv_at hl 1 rfl) ?_
        refine lv_aload_n hx hb dX1_addExamples_11 rfl (lv_at hl 2 rfl) ?_
        refine lv_aload_n hx hb dX1_addExamples_12 rfl (lv_at hl 3 rfl) ?_
        have bx_6 : (0 : Int) ≤ (i ee 1).toInt ∧ (i ee 1).toInt ≤ 65535 := by have h9 := hO ee 1; rw [bx_part (by omega) (by omega) 1] at h9; exact h9
        refine h_geti (ci := 4) (C := RX4) (F := TX4) (N := 9) hx hb hts in4 hown hK hH (lt_nK (by omega)) (kd_part (by omega) (by omega)) (by decide) rfl 1 (by decide) wd1 (fun _ h9 => h9) (by decide) rfl dX1_addExamples_13 ?_
        refine sj_i (y := (i ee 1)) (congrFun (hfr_j1 ee (by omega)) _) ?_
        refine lv_aload_n hx hb dX1_addExamples_16 rfl (lv_at hl 1 rfl) ?_
        refine h_getr (ci := 1) (C := RX1) (F := TX1) (N := 5) hx hb hts in1 hown hK hH (by decide) (rfl : kd 13 = 1) (by decide) rfl 0 (by decide) wd2 (fun _ h9 => h9) (by decide) rfl (t := 3) (hRS_r1 13 0 rfl) (by decide) dX1_addExamples_17 ?_
        refine h_getr (ci := 5) (C := RX5) (F := TX5) (N := 19) hx hb hts in5 hown hK hH (by decide) (rfl : kd 3 = 5) (by decide) rfl 13 (by decide) wd3 (fun _ h9 => h9) (by decide) rfl (t := 12) (hRS_r1 3 13 rfl) (by decide) dX1_addExamples_20 ?_
        refine lv_aload_n hx hb dX1_addExamples_23 rfl (lv_at hl 3 rfl) ?_
        have bx_7 : (0 : Int) ≤ (i ee 2).toInt ∧ (i ee 2).toInt ≤ 40 := by have h9 := hO ee 2; rw [bx_part (by omega) (by omega) 2] at h9; exact h9
        refine h_geti (ci := 4) (C := RX4) (F := TX4) (N := 9) hx hb hts in4 hown hK hH (lt_nK (by omega)) (kd_part (by omega) (by omega)) (by decide) rfl 2 (by decide) wd4 (fun _ h9 => h9) (by decide) rfl dX1_addExamples_24 ?_
        refine sj_i (y := (i ee 2)) (congrFun (hfr_j1 ee (by omega)) _) ?_
        obtain ⟨j_8, ej_8, hj_8⟩ : ∃ j : Nat, ((i ee 2)).toNatClampNeg = j ∧ (j : Int) = (i ee 2).toInt := ⟨_, rfl, by rw [s_cl (rfl : (i ee 2).toInt = _)]; omega⟩
        have lj_8 : j_8 < 40 := by omega
        refine h_qald hx hb hK hH (by decide) (rfl : kd 12 = 24) (by decide) rfl (s_vin (N := 40) (rfl : (i ee 2).toInt = _) (rfl : ln 12 = 40) (by omega) (by omega)) (t := (96 + 3 * j_8)) (by rw [ej_8]; exact (hRS_r1 12 j_8 rfl)) (lt_nK (by omega)) dX1_addExamples_27 ?_
        refine lv_aload_n hx hb dX1_addExamples_28 rfl (lv_at hl 1 rfl) ?_
        refine h_getr (ci := 1) (C := RX1) (F := TX1) (N := 5) hx hb hts in1 hown hK hH (by decide) (rfl : kd 13 = 1) (by decide) rfl 0 (by decide) wd2 (fun _ h9 => h9) (by decide) rfl (t := 3) (hRS_r1 13 0 rfl) (by decide) dX1_addExamples_29 ?_
        refine h_getr (ci := 5) (C := RX5) (F := TX5) (N := 19) hx hb hts in5 hown hK hH (by decide) (rfl : kd 3 = 5) (by decide) rfl 13 (by decide) wd3 (fun _ h9 => h9) (by decide) rfl (t := 12) (hRS_r1 3 13 rfl) (by decide) dX1_addExamples_32 ?_
        refine lv_aload_n hx hb dX1_addExamples_35 rfl (lv_at hl 3 rfl) ?_
        refine h_geti (ci := 4) (C := RX4) (F := TX4) (N := 9) hx hb hts in4 hown hK hH (lt_nK (by omega)) (kd_part (by omega) (by omega)) (by decide) rfl 2 (by decide) wd4 (fun _ h9 => h9) (by decide) rfl dX1_addExamples_36 ?_
        refine sj_i (y := (i ee 2)) (congrFun (hfr_j1 ee (by omega)) _) ?_
        refine lv_iload_n hx hb dX1_addExamples_39 rfl (lv_at hl 0 rfl) ?_
        refine lv_iadd hx hb dX1_addExamples_40 ?_
        obtain ⟨z_9, ez_9, hz_9⟩ := s_add (rfl : (i ee 2).toInt = _) (rfl : f.toInt = _) (by omega) (by omega)
        refine sj_i ez_9 ?_
        obtain ⟨j_10, ej_10, hj_10⟩ : ∃ j : Nat, (z_9).toNatClampNeg = j ∧ (j : Int) = z_9.toInt := ⟨_, rfl, by rw [s_cl (rfl : z_9.toInt = _)]; omega⟩
        have lj_10 : j_10 < 40 := by omega
        refine h_qald hx hb hK hH (by decide) (rfl : kd 12 = 24) (by decide) rfl (s_vin (N := 40) (rfl : z_9.toInt = _) (rfl : ln 12 = 40) (by omega) (by omega)) (t := (96 + 3 * j_10)) (by rw [ej_10]; exact (hRS_r1 12 j_10 rfl)) (lt_nK (by omega)) dX1_addExamples_41 ?_
        refine x_callv (va_runV (As := [.ref (g q), .int (i ee 1), .ref (g (96 + 3 * j_8)), .ref (g (96 + 3 * j_10))]) (rest := []) ⟨hx, hb, hml, hown, hts⟩ (k_addR l D g ka ad j1 r1 L d q (i ee 1) j_8 j_10 hO_j1 hRS_r1 H.size (by first | omega | decide) (by first | omega | decide) hi_lp_1_1 (by first | omega | decide) (by first | omega | decide) (by first | omega | decide) (by first | omega | decide)) (cwV 4 hts gX1_addExamples_X1_add rfl rfl rfl (by decide +kernel) ⟨(Nat.le_of_ble_eq_true rfl), (Nat.le_of_ble_eq_true rfl)⟩) (x_preV (q := (RX1, TX1, 5)) hH hK (q_obj (by decide) (rfl : kd 13 = 1) (by decide)) rfl gxb (gxw hE hS (x_F hH hS hA))) rfl rfl hl.1 rfl (lv_room (Nat.le_of_ble_eq_true rfl)) dX1_addExamples_42 ⟨(Nat.le_of_ble_eq_true rfl), (Nat.le_of_ble_eq_true rfl)⟩) hH hS hA rfl rfl (fun u_15 H locs hw_12 hH hS => ?_)
        obtain ⟨im_13, rm_14⟩ := u_15
        try dsimp only at hw_12
        have hH : sj_H D A (hwc g ka im_13 rm_14 L d) H := hH
        obtain ⟨hO_17, hfr_16, hRS_18, hfr_19, hx2_20, hx2_21, hx2_22, hx2_23⟩ := hw_12
        obtain ⟨z_24, ez_24, hz_24⟩ := s_add (rfl : f.toInt = _) (show (1 : Int32).toInt = 1 from rfl) (by omega) (by omega)
        refine lv_iinc (v := z_24) (lv' := [(3, .int z_24), (0, .ref (g 13)), (1, .ref (g q)), (2, .ref (g ee))]) hx hb dX1_addExamples_45 hl (k := 0) rfl ez_24 (by decide) rfl (fun ls hl => ?_)
        refine lv_goto (tgt := 2) hx hb dX1_addExamples_48 (by decide) ?_
        have hE2 := hx2_22
        rw [ortags_fr hO (by omega) (by omega) (fun a ha => (hfr_j1 a (by omega)))] at hE2
        exact ih_lp_1 z_24 _ _ _ _ ls (by omega) (by omega) (by omega) hx2_21 (fun K hl hK => by
          have h7 := hi_lp_1_2 K hl hK
          have h9 := csP_add (by omega) h7 (csP_len hO_j1 h7) hx2_20 hE2 hx2_23
          rw [take_app, List.append_assoc, ← csE_s] at h9
          rw [show ((z_24).toInt - 1).toNat = (f.toInt - 1).toNat + 1 by omega]
          exact h9) hRS_18 (fun a b ha => ((hfr_19 a b (by omega)).trans (hfr_r1 a b (by omega)))) hO_17 (fun a ha => ((hfr_16 a (by omega)).trans (hfr_j1 a (by omega)))) (lv_sub hl [0, 1, 2, 3] rfl) hH hS
  have hl_25 : (1 : Int32).toInt = 1 := rfl
  exact lp_1 _ 1 _ _ _ _ ls (Nat.lt_succ_self _) (by omega) (by omega) hPC (fun K hl hK => by rw [show ((1 : Int32).toInt - 1).toNat = 0 from rfl]; unfold csE; rw [List.replicate_zero, List.append_nil, List.take_of_length_le hl]; exact hK) hR (fun a b ha => rfl) hO (fun a ha => rfl) (lv_sub hl [0, 1, 2, 3] rfl) hH hS
