/-- the first choice of every expression begins at 0 -/
def PY (i : Nat → Nat → Int32) : Prop := ∀ j : Nat, j < 13 → (i (240 + 9 * j + 2) 0).toInt = 0
theorem PY_fr {i u : Nat → Nat → Int32} (h : PY i) (f : ∀ a, (240 ≤ a ∧ a < 357 ∧ (a - 240) % 9 = 2) → u a = i a) : PY u := fun j hj => by rw [f (240 + 9 * j + 2) ⟨by omega, by omega, by omega⟩]; exact h j hj

set_option maxHeartbeats 2000000 in
set_option maxRecDepth 100000 in
theorem k_doStepX (l : Launch) (D : va_G) (g : Nat → Nat) (ka : Nat → ClassId) (ad : Nat → Nat) (i : Nat → Nat → Int32) (r : Nat → Nat → Nat) (L : Nat → Nat → Int64) (d : Nat → Nat → UInt64) (w : Nat) (j : Nat) (hO : OkI i) (hR : RS r) (sz : Nat) (hw : w < 3) (hPC : PC i r) (hPO : PO i) (hPW : PW i) (hs0 : 0 ≤ (i (25 + 1 * w) 1).toInt) (hs1 : (i (25 + 1 * w) 1).toInt < (i 13 4).toInt) (hn0 : 0 ≤ (i (25 + 1 * w) 3).toInt) (hn1 : (i (25 + 1 * w) 3).toInt < scn i (r (216 + 1 * (i (25 + 1 * w) 1).toInt.toNat) 0)) (hj : j < 24) (hsj : (i (25 + 1 * w) 1).toInt = (j : Int)) (hPD : PD i) (hev : (i 23 10).toInt ≤ 2000000000) (hwf : (i (25 + 1 * w) 4).toInt = 0 → dfin (d (25 + 1 * w) 5)) (hPY : PY i) : Met l yX11_doStep wsX11_doStep ({ frames := 5, cells := 0, slots := 0, locals := 136 }) (va_Pc [.ref (g 0), .ref (g (25 + 1 * w)), .ref (g (216 + 1 * j))] (sj_B D (hwc g ka i r L d) (hT ka) sz (gx ad (va_A (hwc g ka i r L d) sz)))) (sj_Qv (S := (Nat → Nat → Int32) × (Nat → Nat → Int64) × (Nat → Nat → UInt64)) D (fun u => OkI u.1 ∧ (∀ a, ¬ (a = 25 + 1 * w ∨ a = 14 ∨ a = 15 ∨ a = 16 ∨ a = 17 ∨ a = 23 ∨ a = 29 ∨ (240 ≤ a ∧ a < 357)) → u.1 a = i a) ∧ (∀ a, ¬ (a = 25 + 1 * w) → u.2.2 a = d a) ∧ PD u.1 ∧ PY u.1 ∧ ((u.1 23 10).toInt = (i 23 10).toInt + 1 ∧ (u.1 23 1).toInt = (i 23 1).toInt ∧ (u.1 23 2).toInt = (i 23 2).toInt ∧ (u.1 23 4).toInt = (i 23 4).toInt ∧ (u.1 23 5).toInt = (i 23 5).toInt ∧ (u.1 23 6).toInt = (i 23 6).toInt ∧ (u.1 23 7).toInt = (i 23 7).toInt ∧ (u.1 23 8).toInt = (i 23 8).toInt ∧ (u.1 (25 + 1 * w) 1).toInt = (i (25 + 1 * w) 1).toInt ∧ (u.1 (25 + 1 * w) 2).toInt = (i (25 + 1 * w) 2).toInt ∧ (u.1 (25 + 1 * w) 3).toInt = (i (25 + 1 * w) 3).toInt) ∧ ((u.1 (25 + 1 * w) 4).toInt = 0 → dfin (u.2.2 (25 + 1 * w) 5))) (fun u => hwc g ka u.1 r u.2.1 u.2.2) (fun _ => []) (va_A (hwc g ka i r L d) sz)) 0 0 (va_A (hwc g ka i r L d) sz) := by
  refine x_met (Ex := gx ad) (cc := cX11_doStep) (maxL := 5) (ret := none) (by decide) rfl (Nat.le_of_ble_eq_true rfl) ?_
  intro p e s m below meth c A ls hx hb hr hml hts hown hlocks hA hS hH hK hE hl
  have hown : s.vm.findClass RX11 = some m.cls := hown
  have in1 : ∀ w ∈ wsX10, w ∈ wsX11_doStep := (fun _ h => (List.mem_cons_of_mem _ (List.mem_append_left _ (List.mem_append_left _ (List.mem_append_left _ (List.mem_append_left _ (List.mem_append_left _ (List.mem_append_left _ (List.mem_append_left _ (List.mem_append_left _ (List.mem_append_right _ h)))))))))))
  have in10 : ∀ w ∈ wsX100, w ∈ wsX11_doStep := (fun _ h => (List.mem_cons_of_mem _ (List.mem_append_left _ (List.mem_append_left _ (List.mem_append_left _ (List.mem_append_left _ (List.mem_append_left _ (List.mem_append_left _ (List.mem_append_left _ (List.mem_append_left _ (List.mem_append_left _ (List.mem_append_right _ h))))))))))))
  have in11 : ∀ w ∈ wsX110, w ∈ wsX11_doStep := (fun _ h => (List.mem_cons_of_mem _ (List.mem_append_left _ (List.mem_append_left _ (List.mem_append_left _ (List.mem_append_left _ (List.mem_append_left _ (List.mem_append_left _ (List.mem_append_left _ (List.mem_append_left _ (List.mem_append_left _ (List.mem_append_left _ (List.mem_append_right _ h)))))))))))))
  have wd0 := hts (.fieldLink RX11 30 "StoryDesk" "cases" "LStoryDesk$Cases;") (List.mem_cons_of_mem _ (List.mem_append_left _ (List.mem_append_left _ (List.mem_append_left _ (List.mem_append_left _ (List.mem_append_left _ (List.mem_append_left _ (List.mem_append_left _ (List.mem_append_left _ (List.mem_append_left _ (List.mem_append_left _ (List.mem_append_left _ (List.mem_append_left _ lm0)))))))))))))
  have wd1 := hts (.fieldLink RX11 281 "StoryDesk$Worker" "next" "I") (List.mem_cons_of_mem _ (List.mem_append_left _ (List.mem_append_left _ (List.mem_append_left _ (List.mem_append_left _ (List.mem_append_left _ (List.mem_append_left _ (List.mem_append_left _ (List.mem_append_left _ (List.mem_append_left _ (List.mem_append_left _ (List.mem_append_left _ (List.mem_append_left _ lm1)))))))))))))
  have wd2 := hts (.fieldLink RX11 300 "StoryDesk$Worker" "worst" "I") (List.mem_cons_of_mem _ (List.mem_append_left _ (List.mem_append_left _ (List.mem_append_left _ (List.mem_append_left _ (List.mem_append_left _ (List.mem_append_left _ (List.mem_append_left _ (List.mem_append_left _ (List.mem_append_left _ (List.mem_append_left _ (List.mem_append_left _ (List.mem_append_left _ lm2)))))))))))))
  have wd3 := hts (.fieldLink RX11 44 "StoryDesk" "run" "LStoryDesk$Run;") (List.mem_cons_of_mem _ (List.mem_append_left _ (List.mem_append_left _ (List.mem_append_left _ (List.mem_append_left _ (List.mem_append_left _ (List.mem_append_left _ (List.mem_append_left _ (List.mem_append_left _ (List.mem_append_left _ (List.mem_append_left _ (List.mem_append_left _ (List.mem_append_left _ lm7)))))))))))))
  have wd4 := hts (.fieldLink RX11 257 "StoryDesk$Worker" "story" "I") (List.mem_cons_of_mem _ (List.mem_append_left _ (List.mem_append_left _ (List.mem_append_left _ (List.mem_append_left _ (List.mem_append_left _ (List.mem_append_left _ (List.mem_append_left _ (List.mem_append_left _ (List.mem_append_left _ (List.mem_append_left _ (List.mem_append_left _ (List.mem_append_left _ lm8)))))))))))))
  have wd5 := hts (.fieldLink RX11 50 "StoryDesk" "definitions" "[LStoryDesk$Expression;") (List.mem_cons_of_mem _ (List.mem_append_left _ (List.mem_append_left _ (List.mem_append_left _ (List.mem_append_left _ (List.mem_append_left _ (List.mem_append_left _ (List.mem_append_left _ (List.mem_append_left _ (List.mem_append_left _ (List.mem_append_left _ (List.mem_append_left _ (List.mem_append_left _ lm3)))))))))))))
  have wd6 := hts (.fieldLink RX11 189 "StoryDesk$Cases" "stepText" "LStoryDesk$Letters;") (List.mem_cons_of_mem _ (List.mem_append_left _ (List.mem_append_left _ (List.mem_append_left _ (List.mem_append_left _ (List.mem_append_left _ (List.mem_append_left _ (List.mem_append_left _ (List.mem_append_left _ (List.mem_append_left _ (List.mem_append_left _ (List.mem_append_left _ (List.mem_append_left _ lm4)))))))))))))
  have wd7 := hts (.fieldLink RX11 37 "StoryDesk" "scripts" "LStoryDesk$Scripts;") (List.mem_cons_of_mem _ (List.mem_append_left _ (List.mem_append_left _ (List.mem_append_left _ (List.mem_append_left _ (List.mem_append_left _ (List.mem_append_left _ (List.mem_append_left _ (List.mem_append_left _ (List.mem_append_left _ (List.mem_append_left _ (List.mem_append_left _ (List.mem_append_left _ lm5)))))))))))))
  have wd8 := hts (.fieldLink RX11 55 "StoryDesk" "definitionScripts" "[I") (List.mem_cons_of_mem _ (List.mem_append_left _ (List.mem_append_left _ (List.mem_append_left _ (List.mem_append_left _ (List.mem_append_left _ (List.mem_append_left _ (List.mem_append_left _ (List.mem_append_left _ (List.mem_append_left _ (List.mem_append_left _ (List.mem_append_left _ (List.mem_append_left _ lm6)))))))))))))
  have hl : lv_has ls 5 [(0, .ref (g 0)), (1, .ref (g (25 + 1 * w))), (2, .ref (g (216 + 1 * j)))] := hl
  have hK : va_K D vwCl (hT ka) s := hK
  have hzm0 : (0 : Int32).toInt = 0 := rfl
  have hzm1 : (1 : Int32).toInt = 1 := rfl
  have hzm2 : (2 : Int32).toInt = 2 := rfl
  have hzm3 : (3 : Int32).toInt = 3 := rfl
  have hzm4 : (4 : Int32).toInt = 4 := rfl
  have hzm5 : (5 : Int32).toInt = 5 := rfl
  have hbs : (-1 : Int) ≤ (i (25 + 1 * w) 1).toInt ∧ (i (25 + 1 * w) 1).toInt ≤ 23 := by have h9 := hO (25 + 1 * w) 1; rw [bx_wk hw 1] at h9; exact h9
  have hjs : (i (25 + 1 * w) 1).toInt.toNat = j := by omega
  have hn2 := hn1
  rw [hjs] at hn2
  have hbw : (0 : Int) ≤ (i (25 + 1 * w) 4).toInt := by have h9 := hO (25 + 1 * w) 4; rw [bx_wk hw 4] at h9; exact h9.1
  refine lv_aload_n hx hb dX11_doStep_0 rfl (lv_at hl 0 rfl) ?_
  refine h_getr (ci := 11) (C := RX11) (F := TX11) (N := 14) hx hb hts in11 hown hK hH (by decide) (rfl : kd 0 = 11) (by decide) rfl 2 (by decide) wd0 (fun _ h9 => h9) (by decide) rfl (t := 13) (hR 0 2 rfl) (by decide) dX11_doStep_1 ?_
  refine lv_aload_n hx hb dX11_doStep_4 rfl (lv_at hl 2 rfl) ?_
  refine lv_aload_n hx hb dX11_doStep_5 rfl (lv_at hl 1 rfl) ?_
  refine h_geti (ci := 10) (C := RX10) (F := TX10) (N := 8) hx hb hts in10 hown hK hH (lt_nK (by omega)) (kd_wk hw) (by decide) rfl 3 (by decide) wd1 (fun _ h9 => h9) (by decide) rfl dX11_doStep_6 ?_
  refine x_callv (va_runV (As := [.ref (g (216 + 1 * j)), .int (i (25 + 1 * w) 3)]) (rest := []) ⟨hx, hb, hml, hown, hts⟩ (k_fillStep l D g ka ad i r L d j (i (25 + 1 * w) 3) hO hR s.heap.size hPC (by first | omega | decide) (by first | omega | decide) hPO (by first | omega | decide) (by first | omega | decide) hPW) (cwV 2 hts gX11_doStep_X1_fillStep rfl rfl rfl (by decide +kernel) ⟨(Nat.le_of_ble_eq_true rfl), (Nat.le_of_ble_eq_true rfl)⟩) (x_preV (q := (RX1, TX1, 5)) hH hK (q_obj (by decide) (rfl : kd 13 = 1) (by decide)) rfl gxb (gxw hE hS (x_F hH hS hA))) rfl rfl hl.1 rfl (lv_room (Nat.le_of_ble_eq_true rfl)) dX11_doStep_9 ⟨(Nat.le_of_ble_eq_true rfl), (Nat.le_of_ble_eq_true rfl)⟩) hH hS hA rfl rfl (fun im_3 H locs hw_2 hH hS => ?_)
  have hH : sj_H D A (hwc g ka im_3 r L d) H := hH
  obtain ⟨hO_5, hfr_4⟩ := hw_2
  refine lv_aload_n hx hb dX11_doStep_12 rfl (lv_at hl 0 rfl) ?_
  have hw_6 : (im_3 23 1).toInt = ((i 23 1) : Int32).toInt := congrArg Int32.toInt ((congrFun (hfr_4 23 (by omega)) _))
  have hw_7 : (im_3 23 2).toInt = ((i 23 2) : Int32).toInt := congrArg Int32.toInt ((congrFun (hfr_4 23 (by omega)) _))
  have hw_8 : (im_3 23 4).toInt = ((i 23 4) : Int32).toInt := congrArg Int32.toInt ((congrFun (hfr_4 23 (by omega)) _))
  have hw_9 : (im_3 23 5).toInt = ((i 23 5) : Int32).toInt := congrArg Int32.toInt ((congrFun (hfr_4 23 (by omega)) _))
  have hw_10 : (im_3 23 6).toInt = ((i 23 6) : Int32).toInt := congrArg Int32.toInt ((congrFun (hfr_4 23 (by omega)) _))
  have hw_11 : (im_3 23 7).toInt = ((i 23 7) : Int32).toInt := congrArg Int32.toInt ((congrFun (hfr_4 23 (by omega)) _))
  have hw_12 : (im_3 23 8).toInt = ((i 23 8) : Int32).toInt := congrArg Int32.toInt ((congrFun (hfr_4 23 (by omega)) _))
  have hw_13 : (im_3 23 10).toInt = ((i 23 10) : Int32).toInt := congrArg Int32.toInt ((congrFun (hfr_4 23 (by omega)) _))
  have hw_14 : (im_3 (25 + 1 * w) 1).toInt = ((i (25 + 1 * w) 1) : Int32).toInt := congrArg Int32.toInt ((congrFun (hfr_4 (25 + 1 * w) (by omega)) _))
  have hw_15 : (im_3 (25 + 1 * w) 2).toInt = ((i (25 + 1 * w) 2) : Int32).toInt := congrArg Int32.toInt ((congrFun (hfr_4 (25 + 1 * w) (by omega)) _))
  have hw_16 : (im_3 (25 + 1 * w) 3).toInt = ((i (25 + 1 * w) 3) : Int32).toInt := congrArg Int32.toInt ((congrFun (hfr_4 (25 + 1 * w) (by omega)) _))
  have hw_17 : (im_3 (25 + 1 * w) 4).toInt = ((i (25 + 1 * w) 4) : Int32).toInt := congrArg Int32.toInt ((congrFun (hfr_4 (25 + 1 * w) (by omega)) _))
  have hw_18 : (im_3 13 4).toInt = ((i 13 4) : Int32).toInt := congrArg Int32.toInt ((congrFun (hfr_4 13 (by omega)) _))
  have hw_19 : (im_3 0 7).toInt = ((i 0 7) : Int32).toInt := congrArg Int32.toInt ((congrFun (hfr_4 0 (by omega)) _))
  have hw_20 : (im_3 0 11).toInt = ((i 0 11) : Int32).toInt := congrArg Int32.toInt ((congrFun (hfr_4 0 (by omega)) _))
  refine x_calli (va_runV (As := []) (rest := []) ⟨hx, hb, hml, hown, hts⟩ (k_bound l D g ka ad im_3 r L d  hO_5 hR H.size ) (cwV 0 hts gX11_doStep_X11_boundDefinition rfl rfl rfl (by decide +kernel) ⟨(Nat.le_of_ble_eq_true rfl), (Nat.le_of_ble_eq_true rfl)⟩) (x_preV (q := (RX11, TX11, 14)) hH hK (q_obj (by decide) (rfl : kd 0 = 11) (by decide)) rfl gxb (gxw hE hS (x_F hH hS hA))) rfl rfl hl.1 rfl (lv_room (Nat.le_of_ble_eq_true rfl)) dX11_doStep_13 ⟨(Nat.le_of_ble_eq_true rfl), (Nat.le_of_ble_eq_true rfl)⟩) hH hS hA rfl rfl (fun r_21 Lm_23 H locs hw_22 hH hS => ?_)
  have hH : sj_H D A (hwc g ka im_3 r Lm_23 d) H := hH
  obtain ⟨hr_24, he_25⟩ := hw_22
  have hr_24 : (-2 : Int) ≤ r_21.toInt ∧ r_21.toInt ≤ 11 := hr_24
  refine lv_istore_n (lv' := [(3, .int r_21), (0, .ref (g 0)), (1, .ref (g (25 + 1 * w))), (2, .ref (g (216 + 1 * j)))]) hx hb dX11_doStep_16 rfl hl (by decide) rfl (fun ls hl => ?_)
  refine lv_iconst (v := 1) hx hb dX11_doStep_17 (by decide) ?_
  refine lv_istore (lv' := [(4, .int 1), (3, .int r_21), (0, .ref (g 0)), (1, .ref (g (25 + 1 * w))), (2, .ref (g (216 + 1 * j)))]) hx hb dX11_doStep_18 hl (by decide) rfl (fun ls hl => ?_)
  refine lv_iload_n hx hb dX11_doStep_20 rfl (lv_at hl 1 rfl) ?_
  refine lv_if_ge (tgt := 39) hx hb dX11_doStep_21 (by decide) (fun c_26 => ?_) (fun c_26 => ?_)
  · skip
    have h_27 := s_le (show (0 : Int32).toInt = 0 from rfl) (rfl : r_21.toInt = _) c_26
    refine lv_aload_n hx hb dX11_doStep_39 rfl (lv_at hl 3 rfl) ?_
    have bx_28 : (0 : Int) ≤ (i (25 + 1 * w) 4).toInt ∧ (i (25 + 1 * w) 4).toInt ≤ 5 := by have h9 := hO (25 + 1 * w) 4; rw [bx_wk hw 4] at h9; exact h9
    refine h_geti (ci := 10) (C := RX10) (F := TX10) (N := 8) hx hb hts in10 hown hK hH (lt_nK (by omega)) (kd_wk hw) (by decide) rfl 4 (by decide) wd2 (fun _ h9 => h9) (by decide) rfl dX11_doStep_40 ?_
    refine sj_i (y := (i (25 + 1 * w) 4)) (congrFun (hfr_4 (25 + 1 * w) (by omega)) _) ?_
    refine lv_if_ne (tgt := 88) hx hb dX11_doStep_43 (by decide) (fun c_29 => ?_) (fun c_29 => ?_)
    · skip
      have h_30 := s_ne (rfl : (i (25 + 1 * w) 4).toInt = _) (show (0 : Int32).toInt = 0 from rfl) c_29
      refine lv_aload_n hx hb dX11_doStep_88 rfl (lv_at hl 3 rfl) ?_
      refine lv_iload hx hb dX11_doStep_89 (lv_at hl 0 rfl) ?_
      have hl_31 : (1 : Int32).toInt = 1 := rfl
      have hw_32 : (im_3 23 1).toInt = ((i 23 1) : Int32).toInt := congrArg Int32.toInt ((congrFun (hfr_4 23 (by omega)) _))
      have hw_33 : (im_3 23 2).toInt = ((i 23 2) : Int32).toInt := congrArg Int32.toInt ((congrFun (hfr_4 23 (by omega)) _))
      have hw_34 : (im_3 23 4).toInt = ((i 23 4) : Int32).toInt := congrArg Int32.toInt ((congrFun (hfr_4 23 (by omega)) _))
      have hw_35 : (im_3 23 5).toInt = ((i 23 5) : Int32).toInt := congrArg Int32.toInt ((congrFun (hfr_4 23 (by omega)) _))
      have hw_36 : (im_3 23 6).toInt = ((i 23 6) : Int32).toInt := congrArg Int32.toInt ((congrFun (hfr_4 23 (by omega)) _))
      have hw_37 : (im_3 23 7).toInt = ((i 23 7) : Int32).toInt := congrArg Int32.toInt ((congrFun (hfr_4 23 (by omega)) _))
      have hw_38 : (im_3 23 8).toInt = ((i 23 8) : Int32).toInt := congrArg Int32.toInt ((congrFun (hfr_4 23 (by omega)) _))
      have hw_39 : (im_3 23 10).toInt = ((i 23 10) : Int32).toInt := congrArg Int32.toInt ((congrFun (hfr_4 23 (by omega)) _))
      have hw_40 : (im_3 (25 + 1 * w) 1).toInt = ((i (25 + 1 * w) 1) : Int32).toInt := congrArg Int32.toInt ((congrFun (hfr_4 (25 + 1 * w) (by omega)) _))
      have hw_41 : (im_3 (25 + 1 * w) 2).toInt = ((i (25 + 1 * w) 2) : Int32).toInt := congrArg Int32.toInt ((congrFun (hfr_4 (25 + 1 * w) (by omega)) _))
      have hw_42 : (im_3 (25 + 1 * w) 3).toInt = ((i (25 + 1 * w) 3) : Int32).toInt := congrArg Int32.toInt ((congrFun (hfr_4 (25 + 1 * w) (by omega)) _))
      have hw_43 : (im_3 (25 + 1 * w) 4).toInt = ((i (25 + 1 * w) 4) : Int32).toInt := congrArg Int32.toInt ((congrFun (hfr_4 (25 + 1 * w) (by omega)) _))
      have hw_44 : (im_3 13 4).toInt = ((i 13 4) : Int32).toInt := congrArg Int32.toInt ((congrFun (hfr_4 13 (by omega)) _))
      have hw_45 : (im_3 0 7).toInt = ((i 0 7) : Int32).toInt := congrArg Int32.toInt ((congrFun (hfr_4 0 (by omega)) _))
      have hw_46 : (im_3 0 11).toInt = ((i 0 11) : Int32).toInt := congrArg Int32.toInt ((congrFun (hfr_4 0 (by omega)) _))
      refine x_callv (va_runV (As := [.int 1]) (rest := []) ⟨hx, hb, hml, hown, hts⟩ (k_note l D g ka ad im_3 r Lm_23 d w 1 hO_5 hR H.size (by first | omega | decide) (by first | omega | decide) (by first | omega | decide)) (cwV 1 hts gX11_doStep_X10_note rfl rfl rfl (by decide +kernel) ⟨(Nat.le_of_ble_eq_true rfl), (Nat.le_of_ble_eq_true rfl)⟩) (x_preV (q := (RX10, TX10, 8)) hH hK (q_obj (lt_nK (by omega)) (kd_wk hw) (by decide)) rfl gxb (gxw hE hS (x_F hH hS hA))) rfl rfl hl.1 rfl (lv_room (Nat.le_of_ble_eq_true rfl)) dX11_doStep_91 ⟨(Nat.le_of_ble_eq_true rfl), (Nat.le_of_ble_eq_true rfl)⟩) hH hS hA rfl rfl (fun im_49 H locs hw_48 hH hS => ?_)
      have hH : sj_H D A (hwc g ka im_49 r Lm_23 d) H := hH
      obtain ⟨hO_51, hfr_50, he_52⟩ := hw_48
      refine lv_aload_n hx hb dX11_doStep_94 rfl (lv_at hl 2 rfl) ?_
      refine h_getr (ci := 11) (C := RX11) (F := TX11) (N := 14) hx hb hts in11 hown hK hH (by decide) (rfl : kd 0 = 11) (by decide) rfl 4 (by decide) wd3 (fun _ h9 => h9) (by decide) rfl (t := 23) (hR 0 4 rfl) (by decide) dX11_doStep_95 ?_
      refine lv_iconst (v := 3) hx hb dX11_doStep_98 (by decide) ?_
      refine lv_aload_n hx hb dX11_doStep_99 rfl (lv_at hl 3 rfl) ?_
      have bx_53 : (-1 : Int) ≤ (im_49 (25 + 1 * w) 1).toInt ∧ (im_49 (25 + 1 * w) 1).toInt ≤ 23 := by have h9 := hO_51 (25 + 1 * w) 1; rw [bx_wk hw 1] at h9; exact h9
      refine h_geti (ci := 10) (C := RX10) (F := TX10) (N := 8) hx hb hts in10 hown hK hH (lt_nK (by omega)) (kd_wk hw) (by decide) rfl 1 (by decide) wd4 (fun _ h9 => h9) (by decide) rfl dX11_doStep_100 ?_
      refine lv_aload_n hx hb dX11_doStep_103 rfl (lv_at hl 3 rfl) ?_
      have bx_54 : (-1 : Int) ≤ (im_49 (25 + 1 * w) 3).toInt ∧ (im_49 (25 + 1 * w) 3).toInt ≤ 127 := by have h9 := hO_51 (25 + 1 * w) 3; rw [bx_wk hw 3] at h9; exact h9
      refine h_geti (ci := 10) (C := RX10) (F := TX10) (N := 8) hx hb hts in10 hown hK hH (lt_nK (by omega)) (kd_wk hw) (by decide) rfl 3 (by decide) wd1 (fun _ h9 => h9) (by decide) rfl dX11_doStep_104 ?_
      refine lv_iload hx hb dX11_doStep_107 (lv_at hl 0 rfl) ?_
      have hl_55 : (3 : Int32).toInt = 3 := rfl
      have hl_56 : (1 : Int32).toInt = 1 := rfl
      have hw_57 : (im_49 23 1).toInt = ((i 23 1) : Int32).toInt := congrArg Int32.toInt (((congrFun (hfr_50 23 (by omega)) _).trans (congrFun (hfr_4 23 (by omega)) _)))
      have hw_58 : (im_49 23 2).toInt = ((i 23 2) : Int32).toInt := congrArg Int32.toInt (((congrFun (hfr_50 23 (by omega)) _).trans (congrFun (hfr_4 23 (by omega)) _)))
      have hw_59 : (im_49 23 4).toInt = ((i 23 4) : Int32).toInt := congrArg Int32.toInt (((congrFun (hfr_50 23 (by omega)) _).trans (congrFun (hfr_4 23 (by omega)) _)))
      have hw_60 : (im_49 23 5).toInt = ((i 23 5) : Int32).toInt := congrArg Int32.toInt (((congrFun (hfr_50 23 (by omega)) _).trans (congrFun (hfr_4 23 (by omega)) _)))
      have hw_61 : (im_49 23 6).toInt = ((i 23 6) : Int32).toInt := congrArg Int32.toInt (((congrFun (hfr_50 23 (by omega)) _).trans (congrFun (hfr_4 23 (by omega)) _)))
      have hw_62 : (im_49 23 7).toInt = ((i 23 7) : Int32).toInt := congrArg Int32.toInt (((congrFun (hfr_50 23 (by omega)) _).trans (congrFun (hfr_4 23 (by omega)) _)))
      have hw_63 : (im_49 23 8).toInt = ((i 23 8) : Int32).toInt := congrArg Int32.toInt (((congrFun (hfr_50 23 (by omega)) _).trans (congrFun (hfr_4 23 (by omega)) _)))
      have hw_64 : (im_49 23 10).toInt = ((i 23 10) : Int32).toInt := congrArg Int32.toInt (((congrFun (hfr_50 23 (by omega)) _).trans (congrFun (hfr_4 23 (by omega)) _)))
      have hw_65 : (im_49 13 4).toInt = ((i 13 4) : Int32).toInt := congrArg Int32.toInt (((congrFun (hfr_50 13 (by omega)) _).trans (congrFun (hfr_4 13 (by omega)) _)))
      have hw_66 : (im_49 0 7).toInt = ((i 0 7) : Int32).toInt := congrArg Int32.toInt (((congrFun (hfr_50 0 (by omega)) _).trans (congrFun (hfr_4 0 (by omega)) _)))
      have hw_67 : (im_49 0 11).toInt = ((i 0 11) : Int32).toInt := congrArg Int32.toInt (((congrFun (hfr_50 0 (by omega)) _).trans (congrFun (hfr_4 0 (by omega)) _)))
      refine x_callv (va_runV (As := [.int 3, .int (im_49 (25 + 1 * w) 1), .int (im_49 (25 + 1 * w) 3), .int 1]) (rest := []) ⟨hx, hb, hml, hown, hts⟩ (k_tell l D g ka ad im_49 r Lm_23 d 3 (im_49 (25 + 1 * w) 1) (im_49 (25 + 1 * w) 3) 1 hO_51 hR H.size (by first | omega | decide)) (cwV 4 hts gX11_doStep_X7_tell rfl rfl rfl (by decide +kernel) ⟨(Nat.le_of_ble_eq_true rfl), (Nat.le_of_ble_eq_true rfl)⟩) (x_preV (q := (RX7, TX7, 11)) hH hK (q_obj (by decide) (rfl : kd 23 = 7) (by decide)) rfl gxb (gxw hE hS (x_F hH hS hA))) rfl rfl hl.1 rfl (lv_room (Nat.le_of_ble_eq_true rfl)) dX11_doStep_109 ⟨(Nat.le_of_ble_eq_true rfl), (Nat.le_of_ble_eq_true rfl)⟩) hH hS hA rfl rfl (fun im_70 H locs hw_69 hH hS => ?_)
      have hH : sj_H D A (hwc g ka im_70 r Lm_23 d) H := hH
      obtain ⟨hO_72, hfr_71, he_73⟩ := hw_69
      have hw_74 : (im_70 (25 + 1 * w) 1).toInt = ((im_49 (25 + 1 * w) 1) : Int32).toInt := congrArg Int32.toInt ((congrFun (hfr_71 (25 + 1 * w) (by omega)) _))
      have hw_75 : (im_70 (25 + 1 * w) 2).toInt = ((im_49 (25 + 1 * w) 2) : Int32).toInt := congrArg Int32.toInt ((congrFun (hfr_71 (25 + 1 * w) (by omega)) _))
      have hw_76 : (im_70 (25 + 1 * w) 3).toInt = ((im_49 (25 + 1 * w) 3) : Int32).toInt := congrArg Int32.toInt ((congrFun (hfr_71 (25 + 1 * w) (by omega)) _))
      have hw_77 : (im_70 (25 + 1 * w) 4).toInt = ((im_49 (25 + 1 * w) 4) : Int32).toInt := congrArg Int32.toInt ((congrFun (hfr_71 (25 + 1 * w) (by omega)) _))
      have hw_78 : (im_70 13 4).toInt = ((i 13 4) : Int32).toInt := congrArg Int32.toInt (((congrFun (hfr_71 13 (by omega)) _).trans ((congrFun (hfr_50 13 (by omega)) _).trans (congrFun (hfr_4 13 (by omega)) _))))
      have hw_79 : (im_70 0 7).toInt = ((i 0 7) : Int32).toInt := congrArg Int32.toInt (((congrFun (hfr_71 0 (by omega)) _).trans ((congrFun (hfr_50 0 (by omega)) _).trans (congrFun (hfr_4 0 (by omega)) _))))
      have hw_80 : (im_70 0 11).toInt = ((i 0 11) : Int32).toInt := congrArg Int32.toInt (((congrFun (hfr_71 0 (by omega)) _).trans ((congrFun (hfr_50 0 (by omega)) _).trans (congrFun (hfr_4 0 (by omega)) _))))
      exact sj_vret hx hb hr hlocks hS (im_70, Lm_23, d) ⟨hO_72, (fun a ha => ((hfr_71 a (by omega)).trans ((hfr_50 a (by omega)).trans (hfr_4 a (by omega))))), (fun a ha => rfl), (PD_fr hO hPD (fun a ha => ((hfr_71 a (by omega)).trans ((hfr_50 a (by omega)).trans (hfr_4 a (by omega)))))), (PY_fr hPY (fun a ha => ((hfr_71 a (by omega)).trans ((hfr_50 a (by omega)).trans (hfr_4 a (by omega)))))), (by dsimp only; refine ⟨?_, ?_, ?_, ?_, ?_, ?_, ?_, ?_, ?_, ?_, ?_⟩ <;> omega), (fun h => by dsimp only at h; exfalso; omega)⟩ hH (sj_Knil hK) (Nat.le_of_ble_eq_true rfl) (Nat.le_of_ble_eq_true rfl) dX11_doStep_112
    · skip
      have h_81 := s_eq (rfl : (i (25 + 1 * w) 4).toInt = _) (show (0 : Int32).toInt = 0 from rfl) c_29
      refine lv_aload_n hx hb dX11_doStep_46 rfl (lv_at hl 2 rfl) ?_
      refine h_getr (ci := 11) (C := RX11) (F := TX11) (N := 14) hx hb hts in11 hown hK hH (by decide) (rfl : kd 0 = 11) (by decide) rfl 5 (by decide) wd5 (fun _ h9 => h9) (by decide) rfl (t := 30) (hR 0 5 rfl) (by decide) dX11_doStep_47 ?_
      refine lv_iload_n hx hb dX11_doStep_50 rfl (lv_at hl 1 rfl) ?_
      obtain ⟨j_82, ej_82, hj_82⟩ : ∃ j : Nat, (r_21).toNatClampNeg = j ∧ (j : Int) = r_21.toInt := ⟨_, rfl, by rw [s_cl (rfl : r_21.toInt = _)]; omega⟩
      have lj_82 : j_82 < 13 := by omega
      refine h_qald hx hb hK hH (by decide) (rfl : kd 30 = 20) (by decide) rfl (s_vin (N := 13) (rfl : r_21.toInt = _) (rfl : ln 30 = 13) (by omega) (by omega)) (t := (240 + 9 * j_82)) (by rw [ej_82]; exact (hR 30 j_82 rfl)) (lt_nK (by omega)) dX11_doStep_51 ?_
      refine lv_aload_n hx hb dX11_doStep_52 rfl (lv_at hl 2 rfl) ?_
      refine h_getr (ci := 11) (C := RX11) (F := TX11) (N := 14) hx hb hts in11 hown hK hH (by decide) (rfl : kd 0 = 11) (by decide) rfl 2 (by decide) wd0 (fun _ h9 => h9) (by decide) rfl (t := 13) (hR 0 2 rfl) (by decide) dX11_doStep_53 ?_
      refine h_getr (ci := 1) (C := RX1) (F := TX1) (N := 5) hx hb hts in1 hown hK hH (by decide) (rfl : kd 13 = 1) (by decide) rfl 1 (by decide) wd6 (fun _ h9 => h9) (by decide) rfl (t := 14) (hR 13 1 rfl) (by decide) dX11_doStep_56 ?_
      have hw_83 : (im_3 23 1).toInt = ((i 23 1) : Int32).toInt := congrArg Int32.toInt ((congrFun (hfr_4 23 (by omega)) _))
      have hw_84 : (im_3 23 2).toInt = ((i 23 2) : Int32).toInt := congrArg Int32.toInt ((congrFun (hfr_4 23 (by omega)) _))
      have hw_85 : (im_3 23 4).toInt = ((i 23 4) : Int32).toInt := congrArg Int32.toInt ((congrFun (hfr_4 23 (by omega)) _))
      have hw_86 : (im_3 23 5).toInt = ((i 23 5) : Int32).toInt := congrArg Int32.toInt ((congrFun (hfr_4 23 (by omega)) _))
      have hw_87 : (im_3 23 6).toInt = ((i 23 6) : Int32).toInt := congrArg Int32.toInt ((congrFun (hfr_4 23 (by omega)) _))
      have hw_88 : (im_3 23 7).toInt = ((i 23 7) : Int32).toInt := congrArg Int32.toInt ((congrFun (hfr_4 23 (by omega)) _))
      have hw_89 : (im_3 23 8).toInt = ((i 23 8) : Int32).toInt := congrArg Int32.toInt ((congrFun (hfr_4 23 (by omega)) _))
      have hw_90 : (im_3 23 10).toInt = ((i 23 10) : Int32).toInt := congrArg Int32.toInt ((congrFun (hfr_4 23 (by omega)) _))
      have hw_91 : (im_3 (25 + 1 * w) 1).toInt = ((i (25 + 1 * w) 1) : Int32).toInt := congrArg Int32.toInt ((congrFun (hfr_4 (25 + 1 * w) (by omega)) _))
      have hw_92 : (im_3 (25 + 1 * w) 2).toInt = ((i (25 + 1 * w) 2) : Int32).toInt := congrArg Int32.toInt ((congrFun (hfr_4 (25 + 1 * w) (by omega)) _))
      have hw_93 : (im_3 (25 + 1 * w) 3).toInt = ((i (25 + 1 * w) 3) : Int32).toInt := congrArg Int32.toInt ((congrFun (hfr_4 (25 + 1 * w) (by omega)) _))
      have hw_94 : (im_3 (25 + 1 * w) 4).toInt = ((i (25 + 1 * w) 4) : Int32).toInt := congrArg Int32.toInt ((congrFun (hfr_4 (25 + 1 * w) (by omega)) _))
      have hw_95 : (im_3 13 4).toInt = ((i 13 4) : Int32).toInt := congrArg Int32.toInt ((congrFun (hfr_4 13 (by omega)) _))
      have hw_96 : (im_3 0 7).toInt = ((i 0 7) : Int32).toInt := congrArg Int32.toInt ((congrFun (hfr_4 0 (by omega)) _))
      have hw_97 : (im_3 0 11).toInt = ((i 0 11) : Int32).toInt := congrArg Int32.toInt ((congrFun (hfr_4 0 (by omega)) _))
      refine x_callv (va_runV (As := [.ref (g 14)]) (rest := []) ⟨hx, hb, hml, hown, hts⟩ (k_placeArgs l D g ka ad im_3 r Lm_23 d j_82 hO_5 hR H.size (by first | omega | decide) ((PD_fr hO hPD (fun a ha => (hfr_4 a (by omega)))) j_82 (by omega)).1 ((PD_fr hO hPD (fun a ha => (hfr_4 a (by omega)))) j_82 (by omega)).2) (cwV 1 hts gX11_doStep_X2_placeArguments rfl rfl rfl (by decide +kernel) ⟨(Nat.le_of_ble_eq_true rfl), (Nat.le_of_ble_eq_true rfl)⟩) (x_preV (q := (RX2, TX2, 11)) hH hK (q_obj (lt_nK (by omega)) (kd_expr (t := 0) lj_82 (by decide)) (by decide)) rfl gxb (gxw hE hS (x_F hH hS hA))) rfl rfl hl.1 rfl (lv_room (Nat.le_of_ble_eq_true rfl)) dX11_doStep_59 ⟨(Nat.le_of_ble_eq_true rfl), (Nat.le_of_ble_eq_true rfl)⟩) hH hS hA rfl rfl (fun u_102 H locs hw_99 hH hS => ?_)
      obtain ⟨im_100, Lm_101⟩ := u_102
      try dsimp only at hw_99
      have hH : sj_H D A (hwc g ka im_100 r Lm_101 d) H := hH
      obtain ⟨hO_104, hfr_103⟩ := hw_99
      refine lv_aload_n hx hb dX11_doStep_62 rfl (lv_at hl 2 rfl) ?_
      refine h_getr (ci := 11) (C := RX11) (F := TX11) (N := 14) hx hb hts in11 hown hK hH (by decide) (rfl : kd 0 = 11) (by decide) rfl 3 (by decide) wd7 (fun _ h9 => h9) (by decide) rfl (t := 19) (hR 0 3 rfl) (by decide) dX11_doStep_63 ?_
      refine lv_aload_n hx hb dX11_doStep_66 rfl (lv_at hl 2 rfl) ?_
      refine h_getr (ci := 11) (C := RX11) (F := TX11) (N := 14) hx hb hts in11 hown hK hH (by decide) (rfl : kd 0 = 11) (by decide) rfl 6 (by decide) wd8 (fun _ h9 => h9) (by decide) rfl (t := 31) (hR 0 6 rfl) (by decide) dX11_doStep_67 ?_
      refine lv_iload_n hx hb dX11_doStep_70 rfl (lv_at hl 1 rfl) ?_
      have bx_105 : (0 : Int) ≤ (i 31 (r_21.toInt).toNat).toInt ∧ (i 31 (r_21.toInt).toNat).toInt ≤ 7 := hO 31 (r_21.toInt).toNat
      refine h_iald hx hb hK hH (by decide) (rfl : kd 31 = 13) (s_vin (N := 12) (rfl : r_21.toInt = _) (rfl : ln 31 = 12) (by omega) (by omega)) dX11_doStep_71 ?_
      have ek_106 : r_21.toNatClampNeg = (r_21.toInt).toNat := (s_cl (show r_21.toInt = r_21.toInt by omega))
      refine sj_i (y := (i 31 (r_21.toInt).toNat)) (by rw [ek_106]; exact ((congrFun (hfr_103 31 (by omega)) _).trans (congrFun (hfr_4 31 (by omega)) _))) ?_
      refine lv_aload_n hx hb dX11_doStep_72 rfl (lv_at hl 3 rfl) ?_
      refine lv_aload_n hx hb dX11_doStep_73 rfl (lv_at hl 2 rfl) ?_
      refine h_getr (ci := 11) (C := RX11) (F := TX11) (N := 14) hx hb hts in11 hown hK hH (by decide) (rfl : kd 0 = 11) (by decide) rfl 5 (by decide) wd5 (fun _ h9 => h9) (by decide) rfl (t := 30) (hR 0 5 rfl) (by decide) dX11_doStep_74 ?_
      refine lv_iload_n hx hb dX11_doStep_77 rfl (lv_at hl 1 rfl) ?_
      obtain ⟨j_107, ej_107, hj_107⟩ : ∃ j : Nat, (r_21).toNatClampNeg = j ∧ (j : Int) = r_21.toInt := ⟨_, rfl, by rw [s_cl (rfl : r_21.toInt = _)]; omega⟩
      have lj_107 : j_107 < 13 := by omega
      refine h_qald hx hb hK hH (by decide) (rfl : kd 30 = 20) (by decide) rfl (s_vin (N := 13) (rfl : r_21.toInt = _) (rfl : ln 30 = 13) (by omega) (by omega)) (t := (240 + 9 * j_107)) (by rw [ej_107]; exact (hR 30 j_107 rfl)) (lt_nK (by omega)) dX11_doStep_78 ?_
      refine lv_aload_n hx hb dX11_doStep_79 rfl (lv_at hl 2 rfl) ?_
      refine h_getr (ci := 11) (C := RX11) (F := TX11) (N := 14) hx hb hts in11 hown hK hH (by decide) (rfl : kd 0 = 11) (by decide) rfl 2 (by decide) wd0 (fun _ h9 => h9) (by decide) rfl (t := 13) (hR 0 2 rfl) (by decide) dX11_doStep_80 ?_
      have hw_108 : (im_100 23 1).toInt = ((i 23 1) : Int32).toInt := congrArg Int32.toInt (((congrFun (hfr_103 23 (by omega)) _).trans (congrFun (hfr_4 23 (by omega)) _)))
      have hw_109 : (im_100 23 2).toInt = ((i 23 2) : Int32).toInt := congrArg Int32.toInt (((congrFun (hfr_103 23 (by omega)) _).trans (congrFun (hfr_4 23 (by omega)) _)))
      have hw_110 : (im_100 23 4).toInt = ((i 23 4) : Int32).toInt := congrArg Int32.toInt (((congrFun (hfr_103 23 (by omega)) _).trans (congrFun (hfr_4 23 (by omega)) _)))
      have hw_111 : (im_100 23 5).toInt = ((i 23 5) : Int32).toInt := congrArg Int32.toInt (((congrFun (hfr_103 23 (by omega)) _).trans (congrFun (hfr_4 23 (by omega)) _)))
      have hw_112 : (im_100 23 6).toInt = ((i 23 6) : Int32).toInt := congrArg Int32.toInt (((congrFun (hfr_103 23 (by omega)) _).trans (congrFun (hfr_4 23 (by omega)) _)))
      have hw_113 : (im_100 23 7).toInt = ((i 23 7) : Int32).toInt := congrArg Int32.toInt (((congrFun (hfr_103 23 (by omega)) _).trans (congrFun (hfr_4 23 (by omega)) _)))
      have hw_114 : (im_100 23 8).toInt = ((i 23 8) : Int32).toInt := congrArg Int32.toInt (((congrFun (hfr_103 23 (by omega)) _).trans (congrFun (hfr_4 23 (by omega)) _)))
      have hw_115 : (im_100 23 10).toInt = ((i 23 10) : Int32).toInt := congrArg Int32.toInt (((congrFun (hfr_103 23 (by omega)) _).trans (congrFun (hfr_4 23 (by omega)) _)))
      have hw_116 : (im_100 (25 + 1 * w) 1).toInt = ((i (25 + 1 * w) 1) : Int32).toInt := congrArg Int32.toInt (((congrFun (hfr_103 (25 + 1 * w) (by omega)) _).trans (congrFun (hfr_4 (25 + 1 * w) (by omega)) _)))
      have hw_117 : (im_100 (25 + 1 * w) 2).toInt = ((i (25 + 1 * w) 2) : Int32).toInt := congrArg Int32.toInt (((congrFun (hfr_103 (25 + 1 * w) (by omega)) _).trans (congrFun (hfr_4 (25 + 1 * w) (by omega)) _)))
      have hw_118 : (im_100 (25 + 1 * w) 3).toInt = ((i (25 + 1 * w) 3) : Int32).toInt := congrArg Int32.toInt (((congrFun (hfr_103 (25 + 1 * w) (by omega)) _).trans (congrFun (hfr_4 (25 + 1 * w) (by omega)) _)))
      have hw_119 : (im_100 (25 + 1 * w) 4).toInt = ((i (25 + 1 * w) 4) : Int32).toInt := congrArg Int32.toInt (((congrFun (hfr_103 (25 + 1 * w) (by omega)) _).trans (congrFun (hfr_4 (25 + 1 * w) (by omega)) _)))
      have hw_120 : (im_100 13 4).toInt = ((i 13 4) : Int32).toInt := congrArg Int32.toInt (((congrFun (hfr_103 13 (by omega)) _).trans (congrFun (hfr_4 13 (by omega)) _)))
      have hw_121 : (im_100 0 7).toInt = ((i 0 7) : Int32).toInt := congrArg Int32.toInt (((congrFun (hfr_103 0 (by omega)) _).trans (congrFun (hfr_4 0 (by omega)) _)))
      have hw_122 : (im_100 0 11).toInt = ((i 0 11) : Int32).toInt := congrArg Int32.toInt (((congrFun (hfr_103 0 (by omega)) _).trans (congrFun (hfr_4 0 (by omega)) _)))
      refine x_calli (va_runV (As := [.int (i 31 (r_21.toInt).toNat), .ref (g (25 + 1 * w)), .ref (g (240 + 9 * j_107)), .ref (g 13)]) (rest := []) ⟨hx, hb, hml, hown, hts⟩ (k_perform l D g ka ad im_100 r Lm_101 d w j_107 (i 31 (r_21.toInt).toNat) hO_104 hR H.size (by first | omega | decide) (by first | omega | decide) (by first | omega | decide) (by first | omega | decide) (PC_fr hPC (fun a ha => ((hfr_103 a (by omega)).trans (hfr_4 a (by omega)))) (fun _ _ _ => rfl)) (PO_fr hPO (fun a ha => ((hfr_103 a (by omega)).trans (hfr_4 a (by omega))))) (PW_fr hPW (fun a ha => ((hfr_103 a (by omega)).trans (hfr_4 a (by omega))))) (by first | omega | decide) (by first | omega | decide) (by first | omega | decide) (by rw [show (im_100 (25 + 1 * w) 1).toInt.toNat = (i (25 + 1 * w) 1).toInt.toNat by omega, scn_fr hO (q := r (216 + 1 * (i (25 + 1 * w) 1).toInt.toNat) 0) (by have h9 := (hPC (i (25 + 1 * w) 1).toInt.toNat (by omega)).1 (by omega); omega) (by have h9 := (hPC (i (25 + 1 * w) 1).toInt.toNat (by omega)).1 (by omega); omega) (fun a ha => ((hfr_103 a (by omega)).trans (hfr_4 a (by omega))))]; omega) (hwf (by omega))) (cwV 4 hts gX11_doStep_X8_perform rfl rfl rfl (by decide +kernel) ⟨(Nat.le_of_ble_eq_true rfl), (Nat.le_of_ble_eq_true rfl)⟩) (x_preV (q := (RX8, TX8, 3)) hH hK (q_obj (by decide) (rfl : kd 19 = 8) (by decide)) rfl gxb (gxw hE hS (x_F hH hS hA))) rfl rfl hl.1 rfl (lv_room (Nat.le_of_ble_eq_true rfl)) dX11_doStep_83 ⟨(Nat.le_of_ble_eq_true rfl), (Nat.le_of_ble_eq_true rfl)⟩) hH hS hA rfl rfl (fun r_123 u_127 H locs hw_124 hH hS => ?_)
      obtain ⟨im_125, dm_126⟩ := u_127
      try dsimp only at hw_124
      have hH : sj_H D A (hwc g ka im_125 r Lm_101 dm_126) H := hH
      obtain ⟨hO_129, hfr_128, hfd_130, hr_131, he_132, hx2_133⟩ := hw_124
      have hr_131 : (0 : Int) ≤ r_123.toInt ∧ r_123.toInt ≤ 5 := hr_131
      refine lv_istore (lv' := [(4, .int r_123), (3, .int r_21), (0, .ref (g 0)), (1, .ref (g (25 + 1 * w))), (2, .ref (g (216 + 1 * j)))]) hx hb dX11_doStep_86 hl (by decide) rfl (fun ls hl => ?_)
      refine lv_aload_n hx hb dX11_doStep_88 rfl (lv_at hl 3 rfl) ?_
      refine lv_iload hx hb dX11_doStep_89 (lv_at hl 0 rfl) ?_
      have hw_134 : (im_125 23 1).toInt = ((i 23 1) : Int32).toInt := congrArg Int32.toInt (((congrFun (hfr_128 23 (by omega)) _).trans ((congrFun (hfr_103 23 (by omega)) _).trans (congrFun (hfr_4 23 (by omega)) _))))
      have hw_135 : (im_125 23 2).toInt = ((i 23 2) : Int32).toInt := congrArg Int32.toInt (((congrFun (hfr_128 23 (by omega)) _).trans ((congrFun (hfr_103 23 (by omega)) _).trans (congrFun (hfr_4 23 (by omega)) _))))
      have hw_136 : (im_125 23 4).toInt = ((i 23 4) : Int32).toInt := congrArg Int32.toInt (((congrFun (hfr_128 23 (by omega)) _).trans ((congrFun (hfr_103 23 (by omega)) _).trans (congrFun (hfr_4 23 (by omega)) _))))
      have hw_137 : (im_125 23 5).toInt = ((i 23 5) : Int32).toInt := congrArg Int32.toInt (((congrFun (hfr_128 23 (by omega)) _).trans ((congrFun (hfr_103 23 (by omega)) _).trans (congrFun (hfr_4 23 (by omega)) _))))
      have hw_138 : (im_125 23 6).toInt = ((i 23 6) : Int32).toInt := congrArg Int32.toInt (((congrFun (hfr_128 23 (by omega)) _).trans ((congrFun (hfr_103 23 (by omega)) _).trans (congrFun (hfr_4 23 (by omega)) _))))
      have hw_139 : (im_125 23 7).toInt = ((i 23 7) : Int32).toInt := congrArg Int32.toInt (((congrFun (hfr_128 23 (by omega)) _).trans ((congrFun (hfr_103 23 (by omega)) _).trans (congrFun (hfr_4 23 (by omega)) _))))
      have hw_140 : (im_125 23 8).toInt = ((i 23 8) : Int32).toInt := congrArg Int32.toInt (((congrFun (hfr_128 23 (by omega)) _).trans ((congrFun (hfr_103 23 (by omega)) _).trans (congrFun (hfr_4 23 (by omega)) _))))
      have hw_141 : (im_125 23 10).toInt = ((i 23 10) : Int32).toInt := congrArg Int32.toInt (((congrFun (hfr_128 23 (by omega)) _).trans ((congrFun (hfr_103 23 (by omega)) _).trans (congrFun (hfr_4 23 (by omega)) _))))
      have hw_142 : (im_125 13 4).toInt = ((i 13 4) : Int32).toInt := congrArg Int32.toInt (((congrFun (hfr_128 13 (by omega)) _).trans ((congrFun (hfr_103 13 (by omega)) _).trans (congrFun (hfr_4 13 (by omega)) _))))
      have hw_143 : (im_125 0 7).toInt = ((i 0 7) : Int32).toInt := congrArg Int32.toInt (((congrFun (hfr_128 0 (by omega)) _).trans ((congrFun (hfr_103 0 (by omega)) _).trans (congrFun (hfr_4 0 (by omega)) _))))
      have hw_144 : (im_125 0 11).toInt = ((i 0 11) : Int32).toInt := congrArg Int32.toInt (((congrFun (hfr_128 0 (by omega)) _).trans ((congrFun (hfr_103 0 (by omega)) _).trans (congrFun (hfr_4 0 (by omega)) _))))
      refine x_callv (va_runV (As := [.int r_123]) (rest := []) ⟨hx, hb, hml, hown, hts⟩ (k_note l D g ka ad im_125 r Lm_101 dm_126 w r_123 hO_129 hR H.size (by first | omega | decide) (by first | omega | decide) (by first | omega | decide)) (cwV 1 hts gX11_doStep_X10_note rfl rfl rfl (by decide +kernel) ⟨(Nat.le_of_ble_eq_true rfl), (Nat.le_of_ble_eq_true rfl)⟩) (x_preV (q := (RX10, TX10, 8)) hH hK (q_obj (lt_nK (by omega)) (kd_wk hw) (by decide)) rfl gxb (gxw hE hS (x_F hH hS hA))) rfl rfl hl.1 rfl (lv_room (Nat.le_of_ble_eq_true rfl)) dX11_doStep_91 ⟨(Nat.le_of_ble_eq_true rfl), (Nat.le_of_ble_eq_true rfl)⟩) hH hS hA rfl rfl (fun im_147 H locs hw_146 hH hS => ?_)
      have hH : sj_H D A (hwc g ka im_147 r Lm_101 dm_126) H := hH
      obtain ⟨hO_149, hfr_148, he_150⟩ := hw_146
      refine lv_aload_n hx hb dX11_doStep_94 rfl (lv_at hl 2 rfl) ?_
      refine h_getr (ci := 11) (C := RX11) (F := TX11) (N := 14) hx hb hts in11 hown hK hH (by decide) (rfl : kd 0 = 11) (by decide) rfl 4 (by decide) wd3 (fun _ h9 => h9) (by decide) rfl (t := 23) (hR 0 4 rfl) (by decide) dX11_doStep_95 ?_
      refine lv_iconst (v := 3) hx hb dX11_doStep_98 (by decide) ?_
      refine lv_aload_n hx hb dX11_doStep_99 rfl (lv_at hl 3 rfl) ?_
      have bx_151 : (-1 : Int) ≤ (im_147 (25 + 1 * w) 1).toInt ∧ (im_147 (25 + 1 * w) 1).toInt ≤ 23 := by have h9 := hO_149 (25 + 1 * w) 1; rw [bx_wk hw 1] at h9; exact h9
      refine h_geti (ci := 10) (C := RX10) (F := TX10) (N := 8) hx hb hts in10 hown hK hH (lt_nK (by omega)) (kd_wk hw) (by decide) rfl 1 (by decide) wd4 (fun _ h9 => h9) (by decide) rfl dX11_doStep_100 ?_
      refine lv_aload_n hx hb dX11_doStep_103 rfl (lv_at hl 3 rfl) ?_
      have bx_152 : (-1 : Int) ≤ (im_147 (25 + 1 * w) 3).toInt ∧ (im_147 (25 + 1 * w) 3).toInt ≤ 127 := by have h9 := hO_149 (25 + 1 * w) 3; rw [bx_wk hw 3] at h9; exact h9
      refine h_geti (ci := 10) (C := RX10) (F := TX10) (N := 8) hx hb hts in10 hown hK hH (lt_nK (by omega)) (kd_wk hw) (by decide) rfl 3 (by decide) wd1 (fun _ h9 => h9) (by decide) rfl dX11_doStep_104 ?_
      refine lv_iload hx hb dX11_doStep_107 (lv_at hl 0 rfl) ?_
      have hl_153 : (3 : Int32).toInt = 3 := rfl
      have hw_154 : (im_147 23 1).toInt = ((i 23 1) : Int32).toInt := congrArg Int32.toInt (((congrFun (hfr_148 23 (by omega)) _).trans ((congrFun (hfr_128 23 (by omega)) _).trans ((congrFun (hfr_103 23 (by omega)) _).trans (congrFun (hfr_4 23 (by omega)) _)))))
      have hw_155 : (im_147 23 2).toInt = ((i 23 2) : Int32).toInt := congrArg Int32.toInt (((congrFun (hfr_148 23 (by omega)) _).trans ((congrFun (hfr_128 23 (by omega)) _).trans ((congrFun (hfr_103 23 (by omega)) _).trans (congrFun (hfr_4 23 (by omega)) _)))))
      have hw_156 : (im_147 23 4).toInt = ((i 23 4) : Int32).toInt := congrArg Int32.toInt (((congrFun (hfr_148 23 (by omega)) _).trans ((congrFun (hfr_128 23 (by omega)) _).trans ((congrFun (hfr_103 23 (by omega)) _).trans (congrFun (hfr_4 23 (by omega)) _)))))
      have hw_157 : (im_147 23 5).toInt = ((i 23 5) : Int32).toInt := congrArg Int32.toInt (((congrFun (hfr_148 23 (by omega)) _).trans ((congrFun (hfr_128 23 (by omega)) _).trans ((congrFun (hfr_103 23 (by omega)) _).trans (congrFun (hfr_4 23 (by omega)) _)))))
      have hw_158 : (im_147 23 6).toInt = ((i 23 6) : Int32).toInt := congrArg Int32.toInt (((congrFun (hfr_148 23 (by omega)) _).trans ((congrFun (hfr_128 23 (by omega)) _).trans ((congrFun (hfr_103 23 (by omega)) _).trans (congrFun (hfr_4 23 (by omega)) _)))))
      have hw_159 : (im_147 23 7).toInt = ((i 23 7) : Int32).toInt := congrArg Int32.toInt (((congrFun (hfr_148 23 (by omega)) _).trans ((congrFun (hfr_128 23 (by omega)) _).trans ((congrFun (hfr_103 23 (by omega)) _).trans (congrFun (hfr_4 23 (by omega)) _)))))
      have hw_160 : (im_147 23 8).toInt = ((i 23 8) : Int32).toInt := congrArg Int32.toInt (((congrFun (hfr_148 23 (by omega)) _).trans ((congrFun (hfr_128 23 (by omega)) _).trans ((congrFun (hfr_103 23 (by omega)) _).trans (congrFun (hfr_4 23 (by omega)) _)))))
      have hw_161 : (im_147 23 10).toInt = ((i 23 10) : Int32).toInt := congrArg Int32.toInt (((congrFun (hfr_148 23 (by omega)) _).trans ((congrFun (hfr_128 23 (by omega)) _).trans ((congrFun (hfr_103 23 (by omega)) _).trans (congrFun (hfr_4 23 (by omega)) _)))))
      have hw_162 : (im_147 13 4).toInt = ((i 13 4) : Int32).toInt := congrArg Int32.toInt (((congrFun (hfr_148 13 (by omega)) _).trans ((congrFun (hfr_128 13 (by omega)) _).trans ((congrFun (hfr_103 13 (by omega)) _).trans (congrFun (hfr_4 13 (by omega)) _)))))
      have hw_163 : (im_147 0 7).toInt = ((i 0 7) : Int32).toInt := congrArg Int32.toInt (((congrFun (hfr_148 0 (by omega)) _).trans ((congrFun (hfr_128 0 (by omega)) _).trans ((congrFun (hfr_103 0 (by omega)) _).trans (congrFun (hfr_4 0 (by omega)) _)))))
      have hw_164 : (im_147 0 11).toInt = ((i 0 11) : Int32).toInt := congrArg Int32.toInt (((congrFun (hfr_148 0 (by omega)) _).trans ((congrFun (hfr_128 0 (by omega)) _).trans ((congrFun (hfr_103 0 (by omega)) _).trans (congrFun (hfr_4 0 (by omega)) _)))))
      refine x_callv (va_runV (As := [.int 3, .int (im_147 (25 + 1 * w) 1), .int (im_147 (25 + 1 * w) 3), .int r_123]) (rest := []) ⟨hx, hb, hml, hown, hts⟩ (k_tell l D g ka ad im_147 r Lm_101 dm_126 3 (im_147 (25 + 1 * w) 1) (im_147 (25 + 1 * w) 3) r_123 hO_149 hR H.size (by first | omega | decide)) (cwV 4 hts gX11_doStep_X7_tell rfl rfl rfl (by decide +kernel) ⟨(Nat.le_of_ble_eq_true rfl), (Nat.le_of_ble_eq_true rfl)⟩) (x_preV (q := (RX7, TX7, 11)) hH hK (q_obj (by decide) (rfl : kd 23 = 7) (by decide)) rfl gxb (gxw hE hS (x_F hH hS hA))) rfl rfl hl.1 rfl (lv_room (Nat.le_of_ble_eq_true rfl)) dX11_doStep_109 ⟨(Nat.le_of_ble_eq_true rfl), (Nat.le_of_ble_eq_true rfl)⟩) hH hS hA rfl rfl (fun im_167 H locs hw_166 hH hS => ?_)
      have hH : sj_H D A (hwc g ka im_167 r Lm_101 dm_126) H := hH
      obtain ⟨hO_169, hfr_168, he_170⟩ := hw_166
      have hw_171 : (im_167 (25 + 1 * w) 1).toInt = ((im_147 (25 + 1 * w) 1) : Int32).toInt := congrArg Int32.toInt ((congrFun (hfr_168 (25 + 1 * w) (by omega)) _))
      have hw_172 : (im_167 (25 + 1 * w) 2).toInt = ((im_147 (25 + 1 * w) 2) : Int32).toInt := congrArg Int32.toInt ((congrFun (hfr_168 (25 + 1 * w) (by omega)) _))
      have hw_173 : (im_167 (25 + 1 * w) 3).toInt = ((im_147 (25 + 1 * w) 3) : Int32).toInt := congrArg Int32.toInt ((congrFun (hfr_168 (25 + 1 * w) (by omega)) _))
      have hw_174 : (im_167 (25 + 1 * w) 4).toInt = ((im_147 (25 + 1 * w) 4) : Int32).toInt := congrArg Int32.toInt ((congrFun (hfr_168 (25 + 1 * w) (by omega)) _))
      have hw_175 : (im_167 13 4).toInt = ((i 13 4) : Int32).toInt := congrArg Int32.toInt (((congrFun (hfr_168 13 (by omega)) _).trans ((congrFun (hfr_148 13 (by omega)) _).trans ((congrFun (hfr_128 13 (by omega)) _).trans ((congrFun (hfr_103 13 (by omega)) _).trans (congrFun (hfr_4 13 (by omega)) _))))))
      have hw_176 : (im_167 0 7).toInt = ((i 0 7) : Int32).toInt := congrArg Int32.toInt (((congrFun (hfr_168 0 (by omega)) _).trans ((congrFun (hfr_148 0 (by omega)) _).trans ((congrFun (hfr_128 0 (by omega)) _).trans ((congrFun (hfr_103 0 (by omega)) _).trans (congrFun (hfr_4 0 (by omega)) _))))))
      have hw_177 : (im_167 0 11).toInt = ((i 0 11) : Int32).toInt := congrArg Int32.toInt (((congrFun (hfr_168 0 (by omega)) _).trans ((congrFun (hfr_148 0 (by omega)) _).trans ((congrFun (hfr_128 0 (by omega)) _).trans ((congrFun (hfr_103 0 (by omega)) _).trans (congrFun (hfr_4 0 (by omega)) _))))))
      exact sj_vret hx hb hr hlocks hS (im_167, Lm_101, dm_126) ⟨hO_169, (fun a ha => ((hfr_168 a (by omega)).trans ((hfr_148 a (by omega)).trans ((hfr_128 a (by omega)).trans ((hfr_103 a (by omega)).trans (hfr_4 a (by omega))))))), (fun a ha => (hfd_130 a (by omega))), (PD_fr hO hPD (fun a ha => ((hfr_168 a (by omega)).trans ((hfr_148 a (by omega)).trans ((hfr_128 a (by omega)).trans ((hfr_103 a (by omega)).trans (hfr_4 a (by omega)))))))), (PY_fr hPY (fun a ha => ((hfr_168 a (by omega)).trans ((hfr_148 a (by omega)).trans ((hfr_128 a (by omega)).trans ((hfr_103 a (by omega)).trans (hfr_4 a (by omega)))))))), (by dsimp only; refine ⟨?_, ?_, ?_, ?_, ?_, ?_, ?_, ?_, ?_, ?_, ?_⟩ <;> omega), (fun h => hx2_133 (by dsimp only at h; omega))⟩ hH (sj_Knil hK) (Nat.le_of_ble_eq_true rfl) (Nat.le_of_ble_eq_true rfl) dX11_doStep_112
  · skip
    have h_178 := s_nle (show (0 : Int32).toInt = 0 from rfl) (rfl : r_21.toInt = _) c_26
    refine lv_iload_n hx hb dX11_doStep_24 rfl (lv_at hl 1 rfl) ?_
    refine lv_iconst (v := (-1)) hx hb dX11_doStep_25 (by decide) ?_
    refine lv_icmp_ne (tgt := 33) hx hb dX11_doStep_26 (by decide) (fun c_179 => ?_) (fun c_179 => ?_)
    · skip
      have h_180 := s_ne (rfl : r_21.toInt = _) (show ((-1) : Int32).toInt = (-1) from rfl) c_179
      refine lv_iconst (v := 4) hx hb dX11_doStep_33 (by decide) ?_
      refine lv_istore (lv' := [(4, .int 4), (3, .int r_21), (0, .ref (g 0)), (1, .ref (g (25 + 1 * w))), (2, .ref (g (216 + 1 * j)))]) hx hb dX11_doStep_34 hl (by decide) rfl (fun ls hl => ?_)
      refine lv_goto (tgt := 88) hx hb dX11_doStep_36 (by decide) ?_
      refine lv_aload_n hx hb dX11_doStep_88 rfl (lv_at hl 3 rfl) ?_
      refine lv_iload hx hb dX11_doStep_89 (lv_at hl 0 rfl) ?_
      have hl_181 : (4 : Int32).toInt = 4 := rfl
      have hw_182 : (im_3 23 1).toInt = ((i 23 1) : Int32).toInt := congrArg Int32.toInt ((congrFun (hfr_4 23 (by omega)) _))
      have hw_183 : (im_3 23 2).toInt = ((i 23 2) : Int32).toInt := congrArg Int32.toInt ((congrFun (hfr_4 23 (by omega)) _))
      have hw_184 : (im_3 23 4).toInt = ((i 23 4) : Int32).toInt := congrArg Int32.toInt ((congrFun (hfr_4 23 (by omega)) _))
      have hw_185 : (im_3 23 5).toInt = ((i 23 5) : Int32).toInt := congrArg Int32.toInt ((congrFun (hfr_4 23 (by omega)) _))
      have hw_186 : (im_3 23 6).toInt = ((i 23 6) : Int32).toInt := congrArg Int32.toInt ((congrFun (hfr_4 23 (by omega)) _))
      have hw_187 : (im_3 23 7).toInt = ((i 23 7) : Int32).toInt := congrArg Int32.toInt ((congrFun (hfr_4 23 (by omega)) _))
      have hw_188 : (im_3 23 8).toInt = ((i 23 8) : Int32).toInt := congrArg Int32.toInt ((congrFun (hfr_4 23 (by omega)) _))
      have hw_189 : (im_3 23 10).toInt = ((i 23 10) : Int32).toInt := congrArg Int32.toInt ((congrFun (hfr_4 23 (by omega)) _))
      have hw_190 : (im_3 (25 + 1 * w) 1).toInt = ((i (25 + 1 * w) 1) : Int32).toInt := congrArg Int32.toInt ((congrFun (hfr_4 (25 + 1 * w) (by omega)) _))
      have hw_191 : (im_3 (25 + 1 * w) 2).toInt = ((i (25 + 1 * w) 2) : Int32).toInt := congrArg Int32.toInt ((congrFun (hfr_4 (25 + 1 * w) (by omega)) _))
      have hw_192 : (im_3 (25 + 1 * w) 3).toInt = ((i (25 + 1 * w) 3) : Int32).toInt := congrArg Int32.toInt ((congrFun (hfr_4 (25 + 1 * w) (by omega)) _))
      have hw_193 : (im_3 (25 + 1 * w) 4).toInt = ((i (25 + 1 * w) 4) : Int32).toInt := congrArg Int32.toInt ((congrFun (hfr_4 (25 + 1 * w) (by omega)) _))
      have hw_194 : (im_3 13 4).toInt = ((i 13 4) : Int32).toInt := congrArg Int32.toInt ((congrFun (hfr_4 13 (by omega)) _))
      have hw_195 : (im_3 0 7).toInt = ((i 0 7) : Int32).toInt := congrArg Int32.toInt ((congrFun (hfr_4 0 (by omega)) _))
      have hw_196 : (im_3 0 11).toInt = ((i 0 11) : Int32).toInt := congrArg Int32.toInt ((congrFun (hfr_4 0 (by omega)) _))
      refine x_callv (va_runV (As := [.int 4]) (rest := []) ⟨hx, hb, hml, hown, hts⟩ (k_note l D g ka ad im_3 r Lm_23 d w 4 hO_5 hR H.size (by first | omega | decide) (by first | omega | decide) (by first | omega | decide)) (cwV 1 hts gX11_doStep_X10_note rfl rfl rfl (by decide +kernel) ⟨(Nat.le_of_ble_eq_true rfl), (Nat.le_of_ble_eq_true rfl)⟩) (x_preV (q := (RX10, TX10, 8)) hH hK (q_obj (lt_nK (by omega)) (kd_wk hw) (by decide)) rfl gxb (gxw hE hS (x_F hH hS hA))) rfl rfl hl.1 rfl (lv_room (Nat.le_of_ble_eq_true rfl)) dX11_doStep_91 ⟨(Nat.le_of_ble_eq_true rfl), (Nat.le_of_ble_eq_true rfl)⟩) hH hS hA rfl rfl (fun im_199 H locs hw_198 hH hS => ?_)
      have hH : sj_H D A (hwc g ka im_199 r Lm_23 d) H := hH
      obtain ⟨hO_201, hfr_200, he_202⟩ := hw_198
      refine lv_aload_n hx hb dX11_doStep_94 rfl (lv_at hl 2 rfl) ?_
      refine h_getr (ci := 11) (C := RX11) (F := TX11) (N := 14) hx hb hts in11 hown hK hH (by decide) (rfl : kd 0 = 11) (by decide) rfl 4 (by decide) wd3 (fun _ h9 => h9) (by decide) rfl (t := 23) (hR 0 4 rfl) (by decide) dX11_doStep_95 ?_
      refine lv_iconst (v := 3) hx hb dX11_doStep_98 (by decide) ?_
      refine lv_aload_n hx hb dX11_doStep_99 rfl (lv_at hl 3 rfl) ?_
      have bx_203 : (-1 : Int) ≤ (im_199 (25 + 1 * w) 1).toInt ∧ (im_199 (25 + 1 * w) 1).toInt ≤ 23 := by have h9 := hO_201 (25 + 1 * w) 1; rw [bx_wk hw 1] at h9; exact h9
      refine h_geti (ci := 10) (C := RX10) (F := TX10) (N := 8) hx hb hts in10 hown hK hH (lt_nK (by omega)) (kd_wk hw) (by decide) rfl 1 (by decide) wd4 (fun _ h9 => h9) (by decide) rfl dX11_doStep_100 ?_
      refine lv_aload_n hx hb dX11_doStep_103 rfl (lv_at hl 3 rfl) ?_
      have bx_204 : (-1 : Int) ≤ (im_199 (25 + 1 * w) 3).toInt ∧ (im_199 (25 + 1 * w) 3).toInt ≤ 127 := by have h9 := hO_201 (25 + 1 * w) 3; rw [bx_wk hw 3] at h9; exact h9
      refine h_geti (ci := 10) (C := RX10) (F := TX10) (N := 8) hx hb hts in10 hown hK hH (lt_nK (by omega)) (kd_wk hw) (by decide) rfl 3 (by decide) wd1 (fun _ h9 => h9) (by decide) rfl dX11_doStep_104 ?_
      refine lv_iload hx hb dX11_doStep_107 (lv_at hl 0 rfl) ?_
      have hl_205 : (3 : Int32).toInt = 3 := rfl
      have hl_206 : (4 : Int32).toInt = 4 := rfl
      have hw_207 : (im_199 23 1).toInt = ((i 23 1) : Int32).toInt := congrArg Int32.toInt (((congrFun (hfr_200 23 (by omega)) _).trans (congrFun (hfr_4 23 (by omega)) _)))
      have hw_208 : (im_199 23 2).toInt = ((i 23 2) : Int32).toInt := congrArg Int32.toInt (((congrFun (hfr_200 23 (by omega)) _).trans (congrFun (hfr_4 23 (by omega)) _)))
      have hw_209 : (im_199 23 4).toInt = ((i 23 4) : Int32).toInt := congrArg Int32.toInt (((congrFun (hfr_200 23 (by omega)) _).trans (congrFun (hfr_4 23 (by omega)) _)))
      have hw_210 : (im_199 23 5).toInt = ((i 23 5) : Int32).toInt := congrArg Int32.toInt (((congrFun (hfr_200 23 (by omega)) _).trans (congrFun (hfr_4 23 (by omega)) _)))
      have hw_211 : (im_199 23 6).toInt = ((i 23 6) : Int32).toInt := congrArg Int32.toInt (((congrFun (hfr_200 23 (by omega)) _).trans (congrFun (hfr_4 23 (by omega)) _)))
      have hw_212 : (im_199 23 7).toInt = ((i 23 7) : Int32).toInt := congrArg Int32.toInt (((congrFun (hfr_200 23 (by omega)) _).trans (congrFun (hfr_4 23 (by omega)) _)))
      have hw_213 : (im_199 23 8).toInt = ((i 23 8) : Int32).toInt := congrArg Int32.toInt (((congrFun (hfr_200 23 (by omega)) _).trans (congrFun (hfr_4 23 (by omega)) _)))
      have hw_214 : (im_199 23 10).toInt = ((i 23 10) : Int32).toInt := congrArg Int32.toInt (((congrFun (hfr_200 23 (by omega)) _).trans (congrFun (hfr_4 23 (by omega)) _)))
      have hw_215 : (im_199 13 4).toInt = ((i 13 4) : Int32).toInt := congrArg Int32.toInt (((congrFun (hfr_200 13 (by omega)) _).trans (congrFun (hfr_4 13 (by omega)) _)))
      have hw_216 : (im_199 0 7).toInt = ((i 0 7) : Int32).toInt := congrArg Int32.toInt (((congrFun (hfr_200 0 (by omega)) _).trans (congrFun (hfr_4 0 (by omega)) _)))
      have hw_217 : (im_199 0 11).toInt = ((i 0 11) : Int32).toInt := congrArg Int32.toInt (((congrFun (hfr_200 0 (by omega)) _).trans (congrFun (hfr_4 0 (by omega)) _)))
      refine x_callv (va_runV (As := [.int 3, .int (im_199 (25 + 1 * w) 1), .int (im_199 (25 + 1 * w) 3), .int 4]) (rest := []) ⟨hx, hb, hml, hown, hts⟩ (k_tell l D g ka ad im_199 r Lm_23 d 3 (im_199 (25 + 1 * w) 1) (im_199 (25 + 1 * w) 3) 4 hO_201 hR H.size (by first | omega | decide)) (cwV 4 hts gX11_doStep_X7_tell rfl rfl rfl (by decide +kernel) ⟨(Nat.le_of_ble_eq_true rfl), (Nat.le_of_ble_eq_true rfl)⟩) (x_preV (q := (RX7, TX7, 11)) hH hK (q_obj (by decide) (rfl : kd 23 = 7) (by decide)) rfl gxb (gxw hE hS (x_F hH hS hA))) rfl rfl hl.1 rfl (lv_room (Nat.le_of_ble_eq_true rfl)) dX11_doStep_109 ⟨(Nat.le_of_ble_eq_true rfl), (Nat.le_of_ble_eq_true rfl)⟩) hH hS hA rfl rfl (fun im_220 H locs hw_219 hH hS => ?_)
      have hH : sj_H D A (hwc g ka im_220 r Lm_23 d) H := hH
      obtain ⟨hO_222, hfr_221, he_223⟩ := hw_219
      have hw_224 : (im_220 (25 + 1 * w) 1).toInt = ((im_199 (25 + 1 * w) 1) : Int32).toInt := congrArg Int32.toInt ((congrFun (hfr_221 (25 + 1 * w) (by omega)) _))
      have hw_225 : (im_220 (25 + 1 * w) 2).toInt = ((im_199 (25 + 1 * w) 2) : Int32).toInt := congrArg Int32.toInt ((congrFun (hfr_221 (25 + 1 * w) (by omega)) _))
      have hw_226 : (im_220 (25 + 1 * w) 3).toInt = ((im_199 (25 + 1 * w) 3) : Int32).toInt := congrArg Int32.toInt ((congrFun (hfr_221 (25 + 1 * w) (by omega)) _))
      have hw_227 : (im_220 (25 + 1 * w) 4).toInt = ((im_199 (25 + 1 * w) 4) : Int32).toInt := congrArg Int32.toInt ((congrFun (hfr_221 (25 + 1 * w) (by omega)) _))
      have hw_228 : (im_220 13 4).toInt = ((i 13 4) : Int32).toInt := congrArg Int32.toInt (((congrFun (hfr_221 13 (by omega)) _).trans ((congrFun (hfr_200 13 (by omega)) _).trans (congrFun (hfr_4 13 (by omega)) _))))
      have hw_229 : (im_220 0 7).toInt = ((i 0 7) : Int32).toInt := congrArg Int32.toInt (((congrFun (hfr_221 0 (by omega)) _).trans ((congrFun (hfr_200 0 (by omega)) _).trans (congrFun (hfr_4 0 (by omega)) _))))
      have hw_230 : (im_220 0 11).toInt = ((i 0 11) : Int32).toInt := congrArg Int32.toInt (((congrFun (hfr_221 0 (by omega)) _).trans ((congrFun (hfr_200 0 (by omega)) _).trans (congrFun (hfr_4 0 (by omega)) _))))
      exact sj_vret hx hb hr hlocks hS (im_220, Lm_23, d) ⟨hO_222, (fun a ha => ((hfr_221 a (by omega)).trans ((hfr_200 a (by omega)).trans (hfr_4 a (by omega))))), (fun a ha => rfl), (PD_fr hO hPD (fun a ha => ((hfr_221 a (by omega)).trans ((hfr_200 a (by omega)).trans (hfr_4 a (by omega)))))), (PY_fr hPY (fun a ha => ((hfr_221 a (by omega)).trans ((hfr_200 a (by omega)).trans (hfr_4 a (by omega)))))), (by dsimp only; refine ⟨?_, ?_, ?_, ?_, ?_, ?_, ?_, ?_, ?_, ?_, ?_⟩ <;> omega), (fun h => by dsimp only at h; exfalso; omega)⟩ hH (sj_Knil hK) (Nat.le_of_ble_eq_true rfl) (Nat.le_of_ble_eq_true rfl) dX11_doStep_112
    · skip
      have h_231 := s_eq (rfl : r_21.toInt = _) (show ((-1) : Int32).toInt = (-1) from rfl) c_179
      refine lv_iconst (v := 3) hx hb dX11_doStep_29 (by decide) ?_
      refine lv_goto (tgt := 34) hx hb dX11_doStep_30 (by decide) ?_
      refine lv_istore (lv' := [(4, .int 3), (3, .int r_21), (0, .ref (g 0)), (1, .ref (g (25 + 1 * w))), (2, .ref (g (216 + 1 * j)))]) hx hb dX11_doStep_34 hl (by decide) rfl (fun ls hl => ?_)
      refine lv_goto (tgt := 88) hx hb dX11_doStep_36 (by decide) ?_
      refine lv_aload_n hx hb dX11_doStep_88 rfl (lv_at hl 3 rfl) ?_
      refine lv_iload hx hb dX11_doStep_89 (lv_at hl 0 rfl) ?_
      have hl_232 : (3 : Int32).toInt = 3 := rfl
      have hw_233 : (im_3 23 1).toInt = ((i 23 1) : Int32).toInt := congrArg Int32.toInt ((congrFun (hfr_4 23 (by omega)) _))
      have hw_234 : (im_3 23 2).toInt = ((i 23 2) : Int32).toInt := congrArg Int32.toInt ((congrFun (hfr_4 23 (by omega)) _))
      have hw_235 : (im_3 23 4).toInt = ((i 23 4) : Int32).toInt := congrArg Int32.toInt ((congrFun (hfr_4 23 (by omega)) _))
      have hw_236 : (im_3 23 5).toInt = ((i 23 5) : Int32).toInt := congrArg Int32.toInt ((congrFun (hfr_4 23 (by omega)) _))
      have hw_237 : (im_3 23 6).toInt = ((i 23 6) : Int32).toInt := congrArg Int32.toInt ((congrFun (hfr_4 23 (by omega)) _))
      have hw_238 : (im_3 23 7).toInt = ((i 23 7) : Int32).toInt := congrArg Int32.toInt ((congrFun (hfr_4 23 (by omega)) _))
      have hw_239 : (im_3 23 8).toInt = ((i 23 8) : Int32).toInt := congrArg Int32.toInt ((congrFun (hfr_4 23 (by omega)) _))
      have hw_240 : (im_3 23 10).toInt = ((i 23 10) : Int32).toInt := congrArg Int32.toInt ((congrFun (hfr_4 23 (by omega)) _))
      have hw_241 : (im_3 (25 + 1 * w) 1).toInt = ((i (25 + 1 * w) 1) : Int32).toInt := congrArg Int32.toInt ((congrFun (hfr_4 (25 + 1 * w) (by omega)) _))
      have hw_242 : (im_3 (25 + 1 * w) 2).toInt = ((i (25 + 1 * w) 2) : Int32).toInt := congrArg Int32.toInt ((congrFun (hfr_4 (25 + 1 * w) (by omega)) _))
      have hw_243 : (im_3 (25 + 1 * w) 3).toInt = ((i (25 + 1 * w) 3) : Int32).toInt := congrArg Int32.toInt ((congrFun (hfr_4 (25 + 1 * w) (by omega)) _))
      have hw_244 : (im_3 (25 + 1 * w) 4).toInt = ((i (25 + 1 * w) 4) : Int32).toInt := congrArg Int32.toInt ((congrFun (hfr_4 (25 + 1 * w) (by omega)) _))
      have hw_245 : (im_3 13 4).toInt = ((i 13 4) : Int32).toInt := congrArg Int32.toInt ((congrFun (hfr_4 13 (by omega)) _))
      have hw_246 : (im_3 0 7).toInt = ((i 0 7) : Int32).toInt := congrArg Int32.toInt ((congrFun (hfr_4 0 (by omega)) _))
      have hw_247 : (im_3 0 11).toInt = ((i 0 11) : Int32).toInt := congrArg Int32.toInt ((congrFun (hfr_4 0 (by omega)) _))
      refine x_callv (va_runV (As := [.int 3]) (rest := []) ⟨hx, hb, hml, hown, hts⟩ (k_note l D g ka ad im_3 r Lm_23 d w 3 hO_5 hR H.size (by first | omega | decide) (by first | omega | decide) (by first | omega | decide)) (cwV 1 hts gX11_doStep_X10_note rfl rfl rfl (by decide +kernel) ⟨(Nat.le_of_ble_eq_true rfl), (Nat.le_of_ble_eq_true rfl)⟩) (x_preV (q := (RX10, TX10, 8)) hH hK (q_obj (lt_nK (by omega)) (kd_wk hw) (by decide)) rfl gxb (gxw hE hS (x_F hH hS hA))) rfl rfl hl.1 rfl (lv_room (Nat.le_of_ble_eq_true rfl)) dX11_doStep_91 ⟨(Nat.le_of_ble_eq_true rfl), (Nat.le_of_ble_eq_true rfl)⟩) hH hS hA rfl rfl (fun im_250 H locs hw_249 hH hS => ?_)
      have hH : sj_H D A (hwc g ka im_250 r Lm_23 d) H := hH
      obtain ⟨hO_252, hfr_251, he_253⟩ := hw_249
      refine lv_aload_n hx hb dX11_doStep_94 rfl (lv_at hl 2 rfl) ?_
      refine h_getr (ci := 11) (C := RX11) (F := TX11) (N := 14) hx hb hts in11 hown hK hH (by decide) (rfl : kd 0 = 11) (by decide) rfl 4 (by decide) wd3 (fun _ h9 => h9) (by decide) rfl (t := 23) (hR 0 4 rfl) (by decide) dX11_doStep_95 ?_
      refine lv_iconst (v := 3) hx hb dX11_doStep_98 (by decide) ?_
      refine lv_aload_n hx hb dX11_doStep_99 rfl (lv_at hl 3 rfl) ?_
      have bx_254 : (-1 : Int) ≤ (im_250 (25 + 1 * w) 1).toInt ∧ (im_250 (25 + 1 * w) 1).toInt ≤ 23 := by have h9 := hO_252 (25 + 1 * w) 1; rw [bx_wk hw 1] at h9; exact h9
      refine h_geti (ci := 10) (C := RX10) (F := TX10) (N := 8) hx hb hts in10 hown hK hH (lt_nK (by omega)) (kd_wk hw) (by decide) rfl 1 (by decide) wd4 (fun _ h9 => h9) (by decide) rfl dX11_doStep_100 ?_
      refine lv_aload_n hx hb dX11_doStep_103 rfl (lv_at hl 3 rfl) ?_
      have bx_255 : (-1 : Int) ≤ (im_250 (25 + 1 * w) 3).toInt ∧ (im_250 (25 + 1 * w) 3).toInt ≤ 127 := by have h9 := hO_252 (25 + 1 * w) 3; rw [bx_wk hw 3] at h9; exact h9
      refine h_geti (ci := 10) (C := RX10) (F := TX10) (N := 8) hx hb hts in10 hown hK hH (lt_nK (by omega)) (kd_wk hw) (by decide) rfl 3 (by decide) wd1 (fun _ h9 => h9) (by decide) rfl dX11_doStep_104 ?_
      refine lv_iload hx hb dX11_doStep_107 (lv_at hl 0 rfl) ?_
      have hl_256 : (3 : Int32).toInt = 3 := rfl
      have hl_257 : (3 : Int32).toInt = 3 := rfl
      have hw_258 : (im_250 23 1).toInt = ((i 23 1) : Int32).toInt := congrArg Int32.toInt (((congrFun (hfr_251 23 (by omega)) _).trans (congrFun (hfr_4 23 (by omega)) _)))
      have hw_259 : (im_250 23 2).toInt = ((i 23 2) : Int32).toInt := congrArg Int32.toInt (((congrFun (hfr_251 23 (by omega)) _).trans (congrFun (hfr_4 23 (by omega)) _)))
      have hw_260 : (im_250 23 4).toInt = ((i 23 4) : Int32).toInt := congrArg Int32.toInt (((congrFun (hfr_251 23 (by omega)) _).trans (congrFun (hfr_4 23 (by omega)) _)))
      have hw_261 : (im_250 23 5).toInt = ((i 23 5) : Int32).toInt := congrArg Int32.toInt (((congrFun (hfr_251 23 (by omega)) _).trans (congrFun (hfr_4 23 (by omega)) _)))
      have hw_262 : (im_250 23 6).toInt = ((i 23 6) : Int32).toInt := congrArg Int32.toInt (((congrFun (hfr_251 23 (by omega)) _).trans (congrFun (hfr_4 23 (by omega)) _)))
      have hw_263 : (im_250 23 7).toInt = ((i 23 7) : Int32).toInt := congrArg Int32.toInt (((congrFun (hfr_251 23 (by omega)) _).trans (congrFun (hfr_4 23 (by omega)) _)))
      have hw_264 : (im_250 23 8).toInt = ((i 23 8) : Int32).toInt := congrArg Int32.toInt (((congrFun (hfr_251 23 (by omega)) _).trans (congrFun (hfr_4 23 (by omega)) _)))
      have hw_265 : (im_250 23 10).toInt = ((i 23 10) : Int32).toInt := congrArg Int32.toInt (((congrFun (hfr_251 23 (by omega)) _).trans (congrFun (hfr_4 23 (by omega)) _)))
      have hw_266 : (im_250 13 4).toInt = ((i 13 4) : Int32).toInt := congrArg Int32.toInt (((congrFun (hfr_251 13 (by omega)) _).trans (congrFun (hfr_4 13 (by omega)) _)))
      have hw_267 : (im_250 0 7).toInt = ((i 0 7) : Int32).toInt := congrArg Int32.toInt (((congrFun (hfr_251 0 (by omega)) _).trans (congrFun (hfr_4 0 (by omega)) _)))
      have hw_268 : (im_250 0 11).toInt = ((i 0 11) : Int32).toInt := congrArg Int32.toInt (((congrFun (hfr_251 0 (by omega)) _).trans (congrFun (hfr_4 0 (by omega)) _)))
      refine x_callv (va_runV (As := [.int 3, .int (im_250 (25 + 1 * w) 1), .int (im_250 (25 + 1 * w) 3), .int 3]) (rest := []) ⟨hx, hb, hml, hown, hts⟩ (k_tell l D g ka ad im_250 r Lm_23 d 3 (im_250 (25 + 1 * w) 1) (im_250 (25 + 1 * w) 3) 3 hO_252 hR H.size (by first | omega | decide)) (cwV 4 hts gX11_doStep_X7_tell rfl rfl rfl (by decide +kernel) ⟨(Nat.le_of_ble_eq_true rfl), (Nat.le_of_ble_eq_true rfl)⟩) (x_preV (q := (RX7, TX7, 11)) hH hK (q_obj (by decide) (rfl : kd 23 = 7) (by decide)) rfl gxb (gxw hE hS (x_F hH hS hA))) rfl rfl hl.1 rfl (lv_room (Nat.le_of_ble_eq_true rfl)) dX11_doStep_109 ⟨(Nat.le_of_ble_eq_true rfl), (Nat.le_of_ble_eq_true rfl)⟩) hH hS hA rfl rfl (fun im_271 H locs hw_270 hH hS => ?_)
      have hH : sj_H D A (hwc g ka im_271 r Lm_23 d) H := hH
      obtain ⟨hO_273, hfr_272, he_274⟩ := hw_270
      have hw_275 : (im_271 (25 + 1 * w) 1).toInt = ((im_250 (25 + 1 * w) 1) : Int32).toInt := congrArg Int32.toInt ((congrFun (hfr_272 (25 + 1 * w) (by omega)) _))
      have hw_276 : (im_271 (25 + 1 * w) 2).toInt = ((im_250 (25 + 1 * w) 2) : Int32).toInt := congrArg Int32.toInt ((congrFun (hfr_272 (25 + 1 * w) (by omega)) _))
      have hw_277 : (im_271 (25 + 1 * w) 3).toInt = ((im_250 (25 + 1 * w) 3) : Int32).toInt := congrArg Int32.toInt ((congrFun (hfr_272 (25 + 1 * w) (by omega)) _))
      have hw_278 : (im_271 (25 + 1 * w) 4).toInt = ((im_250 (25 + 1 * w) 4) : Int32).toInt := congrArg Int32.toInt ((congrFun (hfr_272 (25 + 1 * w) (by omega)) _))
      have hw_279 : (im_271 13 4).toInt = ((i 13 4) : Int32).toInt := congrArg Int32.toInt (((congrFun (hfr_272 13 (by omega)) _).trans ((congrFun (hfr_251 13 (by omega)) _).trans (congrFun (hfr_4 13 (by omega)) _))))
      have hw_280 : (im_271 0 7).toInt = ((i 0 7) : Int32).toInt := congrArg Int32.toInt (((congrFun (hfr_272 0 (by omega)) _).trans ((congrFun (hfr_251 0 (by omega)) _).trans (congrFun (hfr_4 0 (by omega)) _))))
      have hw_281 : (im_271 0 11).toInt = ((i 0 11) : Int32).toInt := congrArg Int32.toInt (((congrFun (hfr_272 0 (by omega)) _).trans ((congrFun (hfr_251 0 (by omega)) _).trans (congrFun (hfr_4 0 (by omega)) _))))
      exact sj_vret hx hb hr hlocks hS (im_271, Lm_23, d) ⟨hO_273, (fun a ha => ((hfr_272 a (by omega)).trans ((hfr_251 a (by omega)).trans (hfr_4 a (by omega))))), (fun a ha => rfl), (PD_fr hO hPD (fun a ha => ((hfr_272 a (by omega)).trans ((hfr_251 a (by omega)).trans (hfr_4 a (by omega)))))), (PY_fr hPY (fun a ha => ((hfr_272 a (by omega)).trans ((hfr_251 a (by omega)).trans (hfr_4 a (by omega)))))), (by dsimp only; refine ⟨?_, ?_, ?_, ?_, ?_, ?_, ?_, ?_, ?_, ?_, ?_⟩ <;> omega), (fun h => by dsimp only at h; exfalso; omega)⟩ hH (sj_Knil hK) (Nat.le_of_ble_eq_true rfl) (Nat.le_of_ble_eq_true rfl) dX11_doStep_112
set_option maxHeartbeats 2000000 in
set_option maxRecDepth 100000 in
theorem k_moveX (l : Launch) (D : va_G) (g : Nat → Nat) (ka : Nat → ClassId) (ad : Nat → Nat) (i : Nat → Nat → Int32) (r : Nat → Nat → Nat) (L : Nat → Nat → Int64) (d : Nat → Nat → UInt64) (w : Nat) (hO : OkI i) (hR : RS r) (sz : Nat) (hw : w < 3) (hPC : PC i r) (hPO : PO i) (hPW : PW i) (hPD : PD i) (hPK : PK i) (hPQ : PQ i) (hev : (i 23 10).toInt ≤ 2000000000) (hWB : WB i r w) (hwf : 0 ≤ (i (25 + 1 * w) 1).toInt → (i (25 + 1 * w) 4).toInt = 0 → dfin (d (25 + 1 * w) 5)) (htk : (i 23 5).toInt ≤ (i 23 4).toInt) (hact : (i (25 + 1 * w) 1).toInt < 0 → (i 23 5).toInt < (i 23 4).toInt) (hov : (i 23 6).toInt ≤ 23) (hPY : PY i) : Met l yX11_move wsX11_move ({ frames := 125, cells := 0, slots := 0, locals := 4950 }) (va_Pc [.ref (g 0), .ref (g (25 + 1 * w))] (sj_B D (hwc g ka i r L d) (hT ka) sz (gx ad (va_A (hwc g ka i r L d) sz)))) (sj_Qv (S := (Nat → Nat → Int32) × (Nat → Nat → Int64) × (Nat → Nat → UInt64)) D (fun u => OkI u.1 ∧ (∀ a, ¬ (a = 25 + 1 * w ∨ a = 14 ∨ a = 15 ∨ a = 16 ∨ a = 17 ∨ a = 23 ∨ a = 29 ∨ (240 ≤ a ∧ a < 357) ∨ (216 ≤ a ∧ a < 240) ∨ (357 ≤ a ∧ a < 379)) → u.1 a = i a) ∧ (∀ a, ¬ (a = 25 + 1 * w) → u.2.2 a = d a) ∧ PD u.1 ∧ PY u.1 ∧ ((u.1 23 10).toInt = (i 23 10).toInt + 1 ∧ (u.1 23 1).toInt = (i 23 1).toInt ∧ (u.1 23 2).toInt = (i 23 2).toInt ∧ (u.1 23 4).toInt = (i 23 4).toInt ∧ (u.1 23 8).toInt = (i 23 8).toInt ∧ (((i (25 + 1 * w) 1).toInt < 0 ∧ (u.1 23 5).toInt = (i 23 5).toInt + 1 ∧ (u.1 23 6).toInt = (i 23 6).toInt ∧ 0 ≤ (u.1 (25 + 1 * w) 1).toInt) ∨ (0 ≤ (i (25 + 1 * w) 1).toInt ∧ (u.1 23 5).toInt = (i 23 5).toInt ∧ (u.1 23 6).toInt = (i 23 6).toInt ∧ 0 ≤ (u.1 (25 + 1 * w) 1).toInt) ∨ (0 ≤ (i (25 + 1 * w) 1).toInt ∧ (u.1 23 5).toInt = (i 23 5).toInt ∧ (u.1 23 6).toInt = (i 23 6).toInt + 1 ∧ (u.1 (25 + 1 * w) 1).toInt < 0))) ∧ (qrem u.1 r + wrem u.1 r w + 1 = qrem i r + wrem i r w) ∧ (SC i u.1) ∧ (WB u.1 r w) ∧ (0 ≤ (u.1 (25 + 1 * w) 1).toInt → (u.1 (25 + 1 * w) 4).toInt = 0 → dfin (u.2.2 (25 + 1 * w) 5))) (fun u => hwc g ka u.1 r u.2.1 u.2.2) (fun _ => []) (va_A (hwc g ka i r L d) sz)) 0 0 (va_A (hwc g ka i r L d) sz) := by
  refine x_met (Ex := gx ad) (cc := cX11_move) (maxL := 4) (ret := none) (by decide) rfl (Nat.le_of_ble_eq_true rfl) ?_
  intro p e s m below meth c A ls hx hb hr hml hts hown hlocks hA hS hH hK hE hl
  have hown : s.vm.findClass RX11 = some m.cls := hown
  have in0 : ∀ w ∈ wsX00, w ∈ wsX11_move := (fun _ h => (List.mem_cons_of_mem _ (List.mem_append_left _ (List.mem_append_left _ (List.mem_append_left _ (List.mem_append_left _ (List.mem_append_left _ (List.mem_append_left _ (List.mem_append_left _ (List.mem_append_left _ (List.mem_append_right _ h)))))))))))
  have in1 : ∀ w ∈ wsX10, w ∈ wsX11_move := (fun _ h => (List.mem_cons_of_mem _ (List.mem_append_left _ (List.mem_append_left _ (List.mem_append_left _ (List.mem_append_left _ (List.mem_append_left _ (List.mem_append_left _ (List.mem_append_left _ (List.mem_append_left _ (List.mem_append_left _ (List.mem_append_right _ h))))))))))))
  have in10 : ∀ w ∈ wsX100, w ∈ wsX11_move := (fun _ h => (List.mem_cons_of_mem _ (List.mem_append_left _ (List.mem_append_left _ (List.mem_append_left _ (List.mem_append_left _ (List.mem_append_left _ (List.mem_append_left _ (List.mem_append_left _ (List.mem_append_left _ (List.mem_append_left _ (List.mem_append_left _ (List.mem_append_left _ (List.mem_append_right _ h))))))))))))))
  have in11 : ∀ w ∈ wsX110, w ∈ wsX11_move := (fun _ h => (List.mem_cons_of_mem _ (List.mem_append_left _ (List.mem_append_left _ (List.mem_append_left _ (List.mem_append_left _ (List.mem_append_left _ (List.mem_append_left _ (List.mem_append_left _ (List.mem_append_left _ (List.mem_append_left _ (List.mem_append_left _ (List.mem_append_right _ h)))))))))))))
  have wd0 := hts (.fieldLink RX11 257 "StoryDesk$Worker" "story" "I") (List.mem_cons_of_mem _ (List.mem_append_left _ (List.mem_append_left _ (List.mem_append_left _ (List.mem_append_left _ (List.mem_append_left _ (List.mem_append_left _ (List.mem_append_left _ (List.mem_append_left _ (List.mem_append_left _ (List.mem_append_left _ (List.mem_append_left _ (List.mem_append_left _ (List.mem_append_left _ lm0))))))))))))))
  have wd1 := hts (.fieldLink RX11 30 "StoryDesk" "cases" "LStoryDesk$Cases;") (List.mem_cons_of_mem _ (List.mem_append_left _ (List.mem_append_left _ (List.mem_append_left _ (List.mem_append_left _ (List.mem_append_left _ (List.mem_append_left _ (List.mem_append_left _ (List.mem_append_left _ (List.mem_append_left _ (List.mem_append_left _ (List.mem_append_left _ (List.mem_append_left _ (List.mem_append_left _ lm2))))))))))))))
  have wd2 := hts (.fieldLink RX11 137 "StoryDesk$Cases" "all" "[LStoryDesk$Case;") (List.mem_cons_of_mem _ (List.mem_append_left _ (List.mem_append_left _ (List.mem_append_left _ (List.mem_append_left _ (List.mem_append_left _ (List.mem_append_left _ (List.mem_append_left _ (List.mem_append_left _ (List.mem_append_left _ (List.mem_append_left _ (List.mem_append_left _ (List.mem_append_left _ (List.mem_append_left _ lm3))))))))))))))
  have wd3 := hts (.fieldLink RX11 278 "StoryDesk$Worker" "stage" "I") (List.mem_cons_of_mem _ (List.mem_append_left _ (List.mem_append_left _ (List.mem_append_left _ (List.mem_append_left _ (List.mem_append_left _ (List.mem_append_left _ (List.mem_append_left _ (List.mem_append_left _ (List.mem_append_left _ (List.mem_append_left _ (List.mem_append_left _ (List.mem_append_left _ (List.mem_append_left _ lm4))))))))))))))
  have wd4 := hts (.fieldLink RX11 281 "StoryDesk$Worker" "next" "I") (List.mem_cons_of_mem _ (List.mem_append_left _ (List.mem_append_left _ (List.mem_append_left _ (List.mem_append_left _ (List.mem_append_left _ (List.mem_append_left _ (List.mem_append_left _ (List.mem_append_left _ (List.mem_append_left _ (List.mem_append_left _ (List.mem_append_left _ (List.mem_append_left _ (List.mem_append_left _ lm5))))))))))))))
  have wd5 := hts (.fieldLink RX11 141 "StoryDesk$Case" "tags" "I") (List.mem_cons_of_mem _ (List.mem_append_left _ (List.mem_append_left _ (List.mem_append_left _ (List.mem_append_left _ (List.mem_append_left _ (List.mem_append_left _ (List.mem_append_left _ (List.mem_append_left _ (List.mem_append_left _ (List.mem_append_left _ (List.mem_append_left _ (List.mem_append_left _ (List.mem_append_left _ lm6))))))))))))))
  have wd6 := hts (.fieldLink RX11 300 "StoryDesk$Worker" "worst" "I") (List.mem_cons_of_mem _ (List.mem_append_left _ (List.mem_append_left _ (List.mem_append_left _ (List.mem_append_left _ (List.mem_append_left _ (List.mem_append_left _ (List.mem_append_left _ (List.mem_append_left _ (List.mem_append_left _ (List.mem_append_left _ (List.mem_append_left _ (List.mem_append_left _ (List.mem_append_left _ lm8))))))))))))))
  have wd7 := hts (.fieldLink RX11 173 "StoryDesk$Case" "status" "I") (List.mem_cons_of_mem _ (List.mem_append_left _ (List.mem_append_left _ (List.mem_append_left _ (List.mem_append_left _ (List.mem_append_left _ (List.mem_append_left _ (List.mem_append_left _ (List.mem_append_left _ (List.mem_append_left _ (List.mem_append_left _ (List.mem_append_left _ (List.mem_append_left _ (List.mem_append_left _ lm9))))))))))))))
  have wd8 := hts (.fieldLink RX11 44 "StoryDesk" "run" "LStoryDesk$Run;") (List.mem_cons_of_mem _ (List.mem_append_left _ (List.mem_append_left _ (List.mem_append_left _ (List.mem_append_left _ (List.mem_append_left _ (List.mem_append_left _ (List.mem_append_left _ (List.mem_append_left _ (List.mem_append_left _ (List.mem_append_left _ (List.mem_append_left _ (List.mem_append_left _ (List.mem_append_left _ lm1))))))))))))))
  have wd9 := hts (.fieldLink RX11 130 "StoryDesk" "hookCount" "I") (List.mem_cons_of_mem _ (List.mem_append_left _ (List.mem_append_left _ (List.mem_append_left _ (List.mem_append_left _ (List.mem_append_left _ (List.mem_append_left _ (List.mem_append_left _ (List.mem_append_left _ (List.mem_append_left _ (List.mem_append_left _ (List.mem_append_left _ (List.mem_append_left _ (List.mem_append_left _ lm7))))))))))))))
  have hl : lv_has ls 4 [(0, .ref (g 0)), (1, .ref (g (25 + 1 * w)))] := hl
  have hK : va_K D vwCl (hT ka) s := hK
  have hzm0 : (0 : Int32).toInt = 0 := rfl
  have hzm1 : (1 : Int32).toInt = 1 := rfl
  have hzm2 : (2 : Int32).toInt = 2 := rfl
  have hzm3 : (3 : Int32).toInt = 3 := rfl
  have hzm4 : (4 : Int32).toInt = 4 := rfl
  have hzm5 : (5 : Int32).toInt = 5 := rfl
  have hbs : (-1 : Int) ≤ (i (25 + 1 * w) 1).toInt ∧ (i (25 + 1 * w) 1).toInt ≤ 23 := by have h9 := hO (25 + 1 * w) 1; rw [bx_wk hw 1] at h9; exact h9
  have hb5 : (0 : Int) ≤ (i 23 5).toInt ∧ (i 23 5).toInt ≤ 24 := hO 23 5
  have hb11 : (0 : Int) ≤ (i 0 11).toInt ∧ (i 0 11).toInt ≤ 8 := hO 0 11
  have hbw2 : (0 : Int) ≤ (i (25 + 1 * w) 2).toInt ∧ (i (25 + 1 * w) 2).toInt ≤ 2 := by have h9 := hO (25 + 1 * w) 2; rw [bx_wk hw 2] at h9; exact h9
  have hbw4 : (0 : Int) ≤ (i (25 + 1 * w) 4).toInt := by have h9 := hO (25 + 1 * w) 4; rw [bx_wk hw 4] at h9; exact h9.1
  refine lv_aload_n hx hb dX11_move_0 rfl (lv_at hl 1 rfl) ?_
  have bx_1 : (-1 : Int) ≤ (i (25 + 1 * w) 1).toInt ∧ (i (25 + 1 * w) 1).toInt ≤ 23 := by have h9 := hO (25 + 1 * w) 1; rw [bx_wk hw 1] at h9; exact h9
  refine h_geti (ci := 10) (C := RX10) (F := TX10) (N := 8) hx hb hts in10 hown hK hH (lt_nK (by omega)) (kd_wk hw) (by decide) rfl 1 (by decide) wd0 (fun _ h9 => h9) (by decide) rfl dX11_move_1 ?_
  refine lv_if_ge (tgt := 16) hx hb dX11_move_4 (by decide) (fun c_2 => ?_) (fun c_2 => ?_)
  · skip
    have h_3 := s_le (show (0 : Int32).toInt = 0 from rfl) (rfl : (i (25 + 1 * w) 1).toInt = _) c_2
    refine lv_aload_n hx hb dX11_move_16 rfl (lv_at hl 0 rfl) ?_
    refine h_getr (ci := 11) (C := RX11) (F := TX11) (N := 14) hx hb hts in11 hown hK hH (by decide) (rfl : kd 0 = 11) (by decide) rfl 2 (by decide) wd1 (fun _ h9 => h9) (by decide) rfl (t := 13) (hR 0 2 rfl) (by decide) dX11_move_17 ?_
    refine h_getr (ci := 1) (C := RX1) (F := TX1) (N := 5) hx hb hts in1 hown hK hH (by decide) (rfl : kd 13 = 1) (by decide) rfl 3 (by decide) wd2 (fun _ h9 => h9) (by decide) rfl (t := 18) (hR 13 3 rfl) (by decide) dX11_move_20 ?_
    refine lv_aload_n hx hb dX11_move_23 rfl (lv_at hl 1 rfl) ?_
    refine h_geti (ci := 10) (C := RX10) (F := TX10) (N := 8) hx hb hts in10 hown hK hH (lt_nK (by omega)) (kd_wk hw) (by decide) rfl 1 (by decide) wd0 (fun _ h9 => h9) (by decide) rfl dX11_move_24 ?_
    obtain ⟨j_4, ej_4, hj_4⟩ : ∃ j : Nat, ((i (25 + 1 * w) 1)).toNatClampNeg = j ∧ (j : Int) = (i (25 + 1 * w) 1).toInt := ⟨_, rfl, by rw [s_cl (rfl : (i (25 + 1 * w) 1).toInt = _)]; omega⟩
    have lj_4 : j_4 < 24 := by omega
    have hjs : (i (25 + 1 * w) 1).toInt.toNat = j_4 := by omega
    obtain ⟨c8, w1, w2, w3, w4, w5⟩ := hWB.resolve_left (by omega)
    have hc8 : j_4 = c8 := by omega
    subst hc8
    have hpq := (hPC j_4 (by omega)).1 (by omega)
    refine h_qald hx hb hK hH (by decide) (rfl : kd 18 = 18) (by decide) rfl (s_vin (N := 24) (rfl : (i (25 + 1 * w) 1).toInt = _) (rfl : ln 18 = 24) (by omega) (by omega)) (t := (216 + 1 * j_4)) (by rw [ej_4]; exact (hR 18 j_4 rfl)) (lt_nK (by omega)) dX11_move_27 ?_
    refine lv_astore_n (lv' := [(2, .ref (g (216 + 1 * j_4))), (0, .ref (g 0)), (1, .ref (g (25 + 1 * w)))]) hx hb dX11_move_28 rfl hl (by decide) rfl (fun ls hl => ?_)
    refine lv_aload_n hx hb dX11_move_29 rfl (lv_at hl 2 rfl) ?_
    have bx_5 : (0 : Int) ≤ (i (25 + 1 * w) 2).toInt ∧ (i (25 + 1 * w) 2).toInt ≤ 2 := by have h9 := hO (25 + 1 * w) 2; rw [bx_wk hw 2] at h9; exact h9
    refine h_geti (ci := 10) (C := RX10) (F := TX10) (N := 8) hx hb hts in10 hown hK hH (lt_nK (by omega)) (kd_wk hw) (by decide) rfl 2 (by decide) wd3 (fun _ h9 => h9) (by decide) rfl dX11_move_30 ?_
    refine lv_if_ne (tgt := 74) hx hb dX11_move_33 (by decide) (fun c_6 => ?_) (fun c_6 => ?_)
    · skip
      have h_7 := s_ne (rfl : (i (25 + 1 * w) 2).toInt = _) (show (0 : Int32).toInt = 0 from rfl) c_6
      refine lv_aload_n hx hb dX11_move_74 rfl (lv_at hl 2 rfl) ?_
      refine h_geti (ci := 10) (C := RX10) (F := TX10) (N := 8) hx hb hts in10 hown hK hH (lt_nK (by omega)) (kd_wk hw) (by decide) rfl 2 (by decide) wd3 (fun _ h9 => h9) (by decide) rfl dX11_move_75 ?_
      refine lv_iconst (v := 1) hx hb dX11_move_78 (by decide) ?_
      refine lv_icmp_ne (tgt := 125) hx hb dX11_move_79 (by decide) (fun c_8 => ?_) (fun c_8 => ?_)
      · skip
        have h_9 := s_ne (rfl : (i (25 + 1 * w) 2).toInt = _) (show (1 : Int32).toInt = 1 from rfl) c_8
        refine lv_aload_n hx hb dX11_move_125 rfl (lv_at hl 1 rfl) ?_
        refine lv_iconst (v := 0) hx hb dX11_move_126 (by decide) ?_
        refine lv_aload_n hx hb dX11_move_127 rfl (lv_at hl 2 rfl) ?_
        have bx_10 : (-1 : Int) ≤ (i (25 + 1 * w) 3).toInt ∧ (i (25 + 1 * w) 3).toInt ≤ 127 := by have h9 := hO (25 + 1 * w) 3; rw [bx_wk hw 3] at h9; exact h9
        refine h_geti (ci := 10) (C := RX10) (F := TX10) (N := 8) hx hb hts in10 hown hK hH (lt_nK (by omega)) (kd_wk hw) (by decide) rfl 3 (by decide) wd4 (fun _ h9 => h9) (by decide) rfl dX11_move_128 ?_
        refine lv_aload_n hx hb dX11_move_131 rfl (lv_at hl 0 rfl) ?_
        have bx_11 : (0 : Int) ≤ (i (216 + 1 * j_4) 3).toInt ∧ (i (216 + 1 * j_4) 3).toInt ≤ 65535 := by have h9 := hO (216 + 1 * j_4) 3; rw [bx_case (by omega) (by omega) 3] at h9; exact h9
        refine h_geti (ci := 0) (C := RX0) (F := TX0) (N := 5) hx hb hts in0 hown hK hH (lt_nK (by omega)) (kd_case (by omega) (by omega)) (by decide) rfl 3 (by decide) wd5 (fun _ h9 => h9) (by decide) rfl dX11_move_132 ?_
        have hl_12 : (0 : Int32).toInt = 0 := rfl
        refine x_calli (va_runV (As := [.int 0, .int (i (25 + 1 * w) 3), .int (i (216 + 1 * j_4) 3)]) (rest := []) ⟨hx, hb, hml, hown, hts⟩ (k_next0 l D g ka ad i r L d (i (25 + 1 * w) 3) (i (216 + 1 * j_4) 3) hO hR s.heap.size hPK (by first | omega | decide) (by first | omega | decide)) (cwV 3 hts gX11_move_X11_nextHook rfl rfl rfl (by decide +kernel) ⟨(Nat.le_of_ble_eq_true rfl), (Nat.le_of_ble_eq_true rfl)⟩) (x_preV (q := (RX11, TX11, 14)) hH hK (q_obj (by decide) (rfl : kd 0 = 11) (by decide)) rfl gxb (gxw hE hS (x_F hH hS hA))) rfl rfl hl.1 rfl (lv_room (Nat.le_of_ble_eq_true rfl)) dX11_move_135 ⟨(Nat.le_of_ble_eq_true rfl), (Nat.le_of_ble_eq_true rfl)⟩) hH hS hA rfl rfl (fun r_13 im_15 H locs hw_14 hH hS => ?_)
        have hH : sj_H D A (hwc g ka im_15 r L d) H := hH
        obtain ⟨hO_17, hfr_16, hr_18, he_19, hx2_20⟩ := hw_14
        have hr_18 : (-1 : Int) ≤ r_13.toInt ∧ r_13.toInt ≤ 7 := hr_18
        refine lv_istore_n (lv' := [(3, .int r_13), (2, .ref (g (216 + 1 * j_4))), (0, .ref (g 0)), (1, .ref (g (25 + 1 * w)))]) hx hb dX11_move_138 rfl hl (by decide) rfl (fun ls hl => ?_)
        refine lv_iload_n hx hb dX11_move_139 rfl (lv_at hl 0 rfl) ?_
        refine lv_if_lt (tgt := 157) hx hb dX11_move_140 (by decide) (fun c_21 => ?_) (fun c_21 => ?_)
        · skip
          have h_22 := s_lt (rfl : r_13.toInt = _) (show (0 : Int32).toInt = 0 from rfl) c_21
          refine lv_aload_n hx hb dX11_move_157 rfl (lv_at hl 1 rfl) ?_
          refine lv_aload_n hx hb dX11_move_158 rfl (lv_at hl 3 rfl) ?_
          have bx_23 : (0 : Int) ≤ (i (25 + 1 * w) 4).toInt ∧ (i (25 + 1 * w) 4).toInt ≤ 5 := by have h9 := hO (25 + 1 * w) 4; rw [bx_wk hw 4] at h9; exact h9
          refine h_geti (ci := 10) (C := RX10) (F := TX10) (N := 8) hx hb hts in10 hown hK hH (lt_nK (by omega)) (kd_wk hw) (by decide) rfl 4 (by decide) wd6 (fun _ h9 => h9) (by decide) rfl dX11_move_159 ?_
          refine sj_i (y := (i (25 + 1 * w) 4)) (congrFun (hfr_16 (25 + 1 * w) (by omega)) _) ?_
          have hO_24 := okp hO_17 (n := (216 + 1 * j_4)) (k := 4) (v := (i (25 + 1 * w) 4)) (by rw [bx_case (by omega) (by omega) 4]; exact (show (-1 : Int) ≤ ((i (25 + 1 * w) 4) : Int32).toInt ∧ ((i (25 + 1 * w) 4) : Int32).toInt ≤ 5 from ⟨by omega, by omega⟩))
          refine h_puti (ty := .int) (ci := 0) (C := RX0) (F := TX0) (N := 5) hx hb hts in0 tyX0 tyX0_ok nmX0 hown hK hH hS (lt_nK (by omega)) (kd_case (by omega) (by omega)) (by decide) rfl 4 (by decide) wd7 (fun _ h9 => h9) rfl (by decide +kernel) rfl rfl (by decide) rfl dX11_move_162 (fun H locs hH hS => ?_)
          refine lv_aload_n hx hb dX11_move_165 rfl (lv_at hl 2 rfl) ?_
          refine h_getr (ci := 11) (C := RX11) (F := TX11) (N := 14) hx hb hts in11 hown hK hH (by decide) (rfl : kd 0 = 11) (by decide) rfl 4 (by decide) wd8 (fun _ h9 => h9) (by decide) rfl (t := 23) (hR 0 4 rfl) (by decide) dX11_move_166 ?_
          refine lv_aload_n hx hb dX11_move_169 rfl (lv_at hl 3 rfl) ?_
          have hw_25 : ((up2 im_15 (216 + 1 * j_4) 4 (i (25 + 1 * w) 4)) 23 1).toInt = ((i 23 1) : Int32).toInt := congrArg Int32.toInt (((congrFun (up2_n _ _ (by omega)) _).trans (congrFun (hfr_16 23 (by omega)) _)))
          have hw_26 : ((up2 im_15 (216 + 1 * j_4) 4 (i (25 + 1 * w) 4)) 23 2).toInt = ((i 23 2) : Int32).toInt := congrArg Int32.toInt (((congrFun (up2_n _ _ (by omega)) _).trans (congrFun (hfr_16 23 (by omega)) _)))
          have hw_27 : ((up2 im_15 (216 + 1 * j_4) 4 (i (25 + 1 * w) 4)) 23 4).toInt = ((i 23 4) : Int32).toInt := congrArg Int32.toInt (((congrFun (up2_n _ _ (by omega)) _).trans (congrFun (hfr_16 23 (by omega)) _)))
          have hw_28 : ((up2 im_15 (216 + 1 * j_4) 4 (i (25 + 1 * w) 4)) 23 5).toInt = ((i 23 5) : Int32).toInt := congrArg Int32.toInt (((congrFun (up2_n _ _ (by omega)) _).trans (congrFun (hfr_16 23 (by omega)) _)))
          have hw_29 : ((up2 im_15 (216 + 1 * j_4) 4 (i (25 + 1 * w) 4)) 23 6).toInt = ((i 23 6) : Int32).toInt := congrArg Int32.toInt (((congrFun (up2_n _ _ (by omega)) _).trans (congrFun (hfr_16 23 (by omega)) _)))
          have hw_30 : ((up2 im_15 (216 + 1 * j_4) 4 (i (25 + 1 * w) 4)) 23 7).toInt = ((i 23 7) : Int32).toInt := congrArg Int32.toInt (((congrFun (up2_n _ _ (by omega)) _).trans (congrFun (hfr_16 23 (by omega)) _)))
          have hw_31 : ((up2 im_15 (216 + 1 * j_4) 4 (i (25 + 1 * w) 4)) 23 8).toInt = ((i 23 8) : Int32).toInt := congrArg Int32.toInt (((congrFun (up2_n _ _ (by omega)) _).trans (congrFun (hfr_16 23 (by omega)) _)))
          have hw_32 : ((up2 im_15 (216 + 1 * j_4) 4 (i (25 + 1 * w) 4)) 23 10).toInt = ((i 23 10) : Int32).toInt := congrArg Int32.toInt (((congrFun (up2_n _ _ (by omega)) _).trans (congrFun (hfr_16 23 (by omega)) _)))
          have hw_33 : ((up2 im_15 (216 + 1 * j_4) 4 (i (25 + 1 * w) 4)) (25 + 1 * w) 1).toInt = ((i (25 + 1 * w) 1) : Int32).toInt := congrArg Int32.toInt (((congrFun (up2_n _ _ (by omega)) _).trans (congrFun (hfr_16 (25 + 1 * w) (by omega)) _)))
          have hw_34 : ((up2 im_15 (216 + 1 * j_4) 4 (i (25 + 1 * w) 4)) (25 + 1 * w) 2).toInt = ((i (25 + 1 * w) 2) : Int32).toInt := congrArg Int32.toInt (((congrFun (up2_n _ _ (by omega)) _).trans (congrFun (hfr_16 (25 + 1 * w) (by omega)) _)))
          have hw_35 : ((up2 im_15 (216 + 1 * j_4) 4 (i (25 + 1 * w) 4)) (25 + 1 * w) 3).toInt = ((i (25 + 1 * w) 3) : Int32).toInt := congrArg Int32.toInt (((congrFun (up2_n _ _ (by omega)) _).trans (congrFun (hfr_16 (25 + 1 * w) (by omega)) _)))
          have hw_36 : ((up2 im_15 (216 + 1 * j_4) 4 (i (25 + 1 * w) 4)) (25 + 1 * w) 4).toInt = ((i (25 + 1 * w) 4) : Int32).toInt := congrArg Int32.toInt (((congrFun (up2_n _ _ (by omega)) _).trans (congrFun (hfr_16 (25 + 1 * w) (by omega)) _)))
          have hw_37 : ((up2 im_15 (216 + 1 * j_4) 4 (i (25 + 1 * w) 4)) 13 4).toInt = ((i 13 4) : Int32).toInt := congrArg Int32.toInt (((congrFun (up2_n _ _ (by omega)) _).trans (congrFun (hfr_16 13 (by omega)) _)))
          have hw_38 : ((up2 im_15 (216 + 1 * j_4) 4 (i (25 + 1 * w) 4)) 0 7).toInt = ((i 0 7) : Int32).toInt := congrArg Int32.toInt (((congrFun (up2_n _ _ (by omega)) _).trans (congrFun (hfr_16 0 (by omega)) _)))
          have hw_39 : ((up2 im_15 (216 + 1 * j_4) 4 (i (25 + 1 * w) 4)) 0 11).toInt = ((i 0 11) : Int32).toInt := congrArg Int32.toInt (((congrFun (up2_n _ _ (by omega)) _).trans (congrFun (hfr_16 0 (by omega)) _)))
          refine x_callv (va_runV (As := [.ref (g (25 + 1 * w))]) (rest := []) ⟨hx, hb, hml, hown, hts⟩ (k_finish l D g ka ad (up2 im_15 (216 + 1 * j_4) 4 (i (25 + 1 * w) 4)) r L d w hO_24 hR H.size (by first | omega | decide) (by first | omega | decide) (by first | omega | decide)) (cwV 1 hts gX11_move_X7_finishCase rfl rfl rfl (by decide +kernel) ⟨(Nat.le_of_ble_eq_true rfl), (Nat.le_of_ble_eq_true rfl)⟩) (x_preV (q := (RX7, TX7, 11)) hH hK (q_obj (by decide) (rfl : kd 23 = 7) (by decide)) rfl gxb (gxw hE hS (x_F hH hS hA))) rfl rfl hl.1 rfl (lv_room (Nat.le_of_ble_eq_true rfl)) dX11_move_170 ⟨(Nat.le_of_ble_eq_true rfl), (Nat.le_of_ble_eq_true rfl)⟩) hH hS hA rfl rfl (fun im_42 H locs hw_41 hH hS => ?_)
          have hH : sj_H D A (hwc g ka im_42 r L d) H := hH
          obtain ⟨hO_44, hfr_43, he_45⟩ := hw_41
          have hw_46 : (im_42 13 4).toInt = ((i 13 4) : Int32).toInt := congrArg Int32.toInt (((congrFun (hfr_43 13 (by omega)) _).trans ((congrFun (up2_n _ _ (by omega)) _).trans (congrFun (hfr_16 13 (by omega)) _))))
          have hw_47 : (im_42 0 7).toInt = ((i 0 7) : Int32).toInt := congrArg Int32.toInt (((congrFun (hfr_43 0 (by omega)) _).trans ((congrFun (up2_n _ _ (by omega)) _).trans (congrFun (hfr_16 0 (by omega)) _))))
          have hw_48 : (im_42 0 11).toInt = ((i 0 11) : Int32).toInt := congrArg Int32.toInt (((congrFun (hfr_43 0 (by omega)) _).trans ((congrFun (up2_n _ _ (by omega)) _).trans (congrFun (hfr_16 0 (by omega)) _))))
          have hw_49 : (im_42 13 4).toInt = ((i 13 4) : Int32).toInt := congrArg Int32.toInt (((congrFun (hfr_43 13 (by omega)) _).trans ((congrFun (up2_n _ _ (by omega)) _).trans (congrFun (hfr_16 13 (by omega)) _))))
          have hw_50 : (im_42 0 7).toInt = ((i 0 7) : Int32).toInt := congrArg Int32.toInt (((congrFun (hfr_43 0 (by omega)) _).trans ((congrFun (up2_n _ _ (by omega)) _).trans (congrFun (hfr_16 0 (by omega)) _))))
          have hw_51 : (im_42 0 11).toInt = ((i 0 11) : Int32).toInt := congrArg Int32.toInt (((congrFun (hfr_43 0 (by omega)) _).trans ((congrFun (up2_n _ _ (by omega)) _).trans (congrFun (hfr_16 0 (by omega)) _))))
          have hSC : SC i im_42 := ⟨((hfr_43 33 (by omega)).trans ((up2_n _ _ (by omega)).trans (hfr_16 33 (by omega)))), congrArg Int32.toInt (((congrFun (hfr_43 0 (by omega)) _).trans ((congrFun (up2_n _ _ (by omega)) _).trans (congrFun (hfr_16 0 (by omega)) _)))), (((tgE.refl i).trans hx2_20).trans (tgE.of (fun a ha => ((hfr_43 a (by omega)).trans (up2_n _ _ (by omega)))))), fun c9 hc9 => ((congrFun (hfr_43 (216 + 1 * c9) (by omega)) 3).trans ((up2_o _ _ (by omega)).trans (congrFun (hfr_16 (216 + 1 * c9) (by omega)) 3))), fun a ha => ((hfr_43 a (by omega)).trans ((up2_n _ _ (by omega)).trans (hfr_16 a (by omega))))⟩
          have e1 : qrem i r = qsum (caseM i r) (i 28) (i 23 4).toInt.toNat - qsum (caseM i r) (i 28) (i 23 5).toInt.toNat := rfl
          have e2 : qrem im_42 r = _ := qrem_eq hO hPC hPQ hSC ((hfr_43 28 (by omega)).trans ((up2_n _ _ (by omega)).trans (hfr_16 28 (by omega)))) (by omega) (rfl : (im_42 23 5).toInt = _) (by omega)
          rw [show (im_42 23 5).toInt.toNat = (i 23 5).toInt.toNat by omega] at e2
          have e3 : wrem i r w = wremF i r j_4 2 (i (25 + 1 * w) 3).toInt := wrem_eq hO (SC.refl i) (by omega) (by omega) (by omega) (by omega) (by omega) rfl
          rw [wremF2] at e3
          simp only [ctag, hcN] at e3
          have e4 : wrem im_42 r w = 0 := wrem_no (by omega)
          exact sj_vret hx hb hr hlocks hS (im_42, L, d) ⟨hO_44, (fun a ha => ((hfr_43 a (by omega)).trans ((up2_n _ _ (by omega)).trans (hfr_16 a (by omega))))), (fun a ha => rfl), (PD_fr hO hPD (fun a ha => ((hfr_43 a (by omega)).trans ((up2_n _ _ (by omega)).trans (hfr_16 a (by omega)))))), (PY_fr hPY (fun a ha => ((hfr_43 a (by omega)).trans ((up2_n _ _ (by omega)).trans (hfr_16 a (by omega)))))), (by dsimp only; refine ⟨?_, ?_, ?_, ?_, ?_, ?_⟩ <;> omega), (by dsimp only; omega), hSC, (Or.inl (by dsimp only; omega)), (fun q _ => by exfalso; dsimp only at q; omega)⟩ hH (sj_Knil hK) (Nat.le_of_ble_eq_true rfl) (Nat.le_of_ble_eq_true rfl) dX11_move_173
        · skip
          have h_52 := s_nlt (rfl : r_13.toInt = _) (show (0 : Int32).toInt = 0 from rfl) c_21
          refine lv_aload_n hx hb dX11_move_143 rfl (lv_at hl 2 rfl) ?_
          refine lv_aload_n hx hb dX11_move_144 rfl (lv_at hl 3 rfl) ?_
          refine lv_iload_n hx hb dX11_move_145 rfl (lv_at hl 0 rfl) ?_
          have hw_53 : (im_15 23 1).toInt = ((i 23 1) : Int32).toInt := congrArg Int32.toInt ((congrFun (hfr_16 23 (by omega)) _))
          have hw_54 : (im_15 23 2).toInt = ((i 23 2) : Int32).toInt := congrArg Int32.toInt ((congrFun (hfr_16 23 (by omega)) _))
          have hw_55 : (im_15 23 4).toInt = ((i 23 4) : Int32).toInt := congrArg Int32.toInt ((congrFun (hfr_16 23 (by omega)) _))
          have hw_56 : (im_15 23 5).toInt = ((i 23 5) : Int32).toInt := congrArg Int32.toInt ((congrFun (hfr_16 23 (by omega)) _))
          have hw_57 : (im_15 23 6).toInt = ((i 23 6) : Int32).toInt := congrArg Int32.toInt ((congrFun (hfr_16 23 (by omega)) _))
          have hw_58 : (im_15 23 7).toInt = ((i 23 7) : Int32).toInt := congrArg Int32.toInt ((congrFun (hfr_16 23 (by omega)) _))
          have hw_59 : (im_15 23 8).toInt = ((i 23 8) : Int32).toInt := congrArg Int32.toInt ((congrFun (hfr_16 23 (by omega)) _))
          have hw_60 : (im_15 23 10).toInt = ((i 23 10) : Int32).toInt := congrArg Int32.toInt ((congrFun (hfr_16 23 (by omega)) _))
          have hw_61 : (im_15 (25 + 1 * w) 1).toInt = ((i (25 + 1 * w) 1) : Int32).toInt := congrArg Int32.toInt ((congrFun (hfr_16 (25 + 1 * w) (by omega)) _))
          have hw_62 : (im_15 (25 + 1 * w) 2).toInt = ((i (25 + 1 * w) 2) : Int32).toInt := congrArg Int32.toInt ((congrFun (hfr_16 (25 + 1 * w) (by omega)) _))
          have hw_63 : (im_15 (25 + 1 * w) 3).toInt = ((i (25 + 1 * w) 3) : Int32).toInt := congrArg Int32.toInt ((congrFun (hfr_16 (25 + 1 * w) (by omega)) _))
          have hw_64 : (im_15 (25 + 1 * w) 4).toInt = ((i (25 + 1 * w) 4) : Int32).toInt := congrArg Int32.toInt ((congrFun (hfr_16 (25 + 1 * w) (by omega)) _))
          have hw_65 : (im_15 13 4).toInt = ((i 13 4) : Int32).toInt := congrArg Int32.toInt ((congrFun (hfr_16 13 (by omega)) _))
          have hw_66 : (im_15 0 7).toInt = ((i 0 7) : Int32).toInt := congrArg Int32.toInt ((congrFun (hfr_16 0 (by omega)) _))
          have hw_67 : (im_15 0 11).toInt = ((i 0 11) : Int32).toInt := congrArg Int32.toInt ((congrFun (hfr_16 0 (by omega)) _))
          refine x_callv (va_runV (As := [.ref (g (25 + 1 * w)), .int r_13]) (rest := []) ⟨hx, hb, hml, hown, hts⟩ (k_doHook l D g ka ad im_15 r L d w r_13 hO_17 hR H.size (by first | omega | decide) (by first | omega | decide) (by first | omega | decide) (PC_fr hPC (fun a ha => (hfr_16 a (by omega))) (fun _ _ _ => rfl)) (PO_fr hPO (fun a ha => (hfr_16 a (by omega)))) (PW_fr hPW (fun a ha => (hfr_16 a (by omega)))) (by first | omega | decide) (by first | omega | decide) (by first | omega | decide)) (cwV 2 hts gX11_move_X11_doHook rfl rfl rfl (by decide +kernel) ⟨(Nat.le_of_ble_eq_true rfl), (Nat.le_of_ble_eq_true rfl)⟩) (x_preV (q := (RX11, TX11, 14)) hH hK (q_obj (by decide) (rfl : kd 0 = 11) (by decide)) rfl gxb (gxw hE hS (x_F hH hS hA))) rfl rfl hl.1 rfl (lv_room (Nat.le_of_ble_eq_true rfl)) dX11_move_146 ⟨(Nat.le_of_ble_eq_true rfl), (Nat.le_of_ble_eq_true rfl)⟩) hH hS hA rfl rfl (fun im_70 H locs hw_69 hH hS => ?_)
          have hH : sj_H D A (hwc g ka im_70 r L d) H := hH
          obtain ⟨hO_72, hfr_71, he_73⟩ := hw_69
          refine lv_aload_n hx hb dX11_move_149 rfl (lv_at hl 3 rfl) ?_
          refine lv_iload_n hx hb dX11_move_150 rfl (lv_at hl 0 rfl) ?_
          refine lv_iconst (v := 1) hx hb dX11_move_151 (by decide) ?_
          refine lv_isub hx hb dX11_move_152 ?_
          obtain ⟨z_74, ez_74, hz_74⟩ := s_sub (rfl : r_13.toInt = _) (show (1 : Int32).toInt = 1 from rfl) (by omega) (by omega)
          refine sj_i ez_74 ?_
          have hO_75 := okp hO_72 (n := (25 + 1 * w)) (k := 3) (v := z_74) (by rw [bx_wk hw 3]; exact (show (-1 : Int) ≤ (z_74 : Int32).toInt ∧ (z_74 : Int32).toInt ≤ 127 from ⟨by omega, by omega⟩))
          refine h_puti (ty := .int) (ci := 10) (C := RX10) (F := TX10) (N := 8) hx hb hts in10 tyX10 tyX10_ok nmX10 hown hK hH hS (lt_nK (by omega)) (kd_wk hw) (by decide) rfl 3 (by decide) wd4 (fun _ h9 => h9) rfl (by decide +kernel) rfl rfl (by decide) rfl dX11_move_153 (fun H locs hH hS => ?_)
          have hw_76 : ((up2 im_70 (25 + 1 * w) 3 z_74) 23 1).toInt = ((im_70 23 1) : Int32).toInt := congrArg Int32.toInt ((congrFun (up2_n _ _ (by omega)) _))
          have hw_77 : ((up2 im_70 (25 + 1 * w) 3 z_74) 23 2).toInt = ((im_70 23 2) : Int32).toInt := congrArg Int32.toInt ((congrFun (up2_n _ _ (by omega)) _))
          have hw_78 : ((up2 im_70 (25 + 1 * w) 3 z_74) 23 4).toInt = ((im_70 23 4) : Int32).toInt := congrArg Int32.toInt ((congrFun (up2_n _ _ (by omega)) _))
          have hw_79 : ((up2 im_70 (25 + 1 * w) 3 z_74) 23 5).toInt = ((im_70 23 5) : Int32).toInt := congrArg Int32.toInt ((congrFun (up2_n _ _ (by omega)) _))
          have hw_80 : ((up2 im_70 (25 + 1 * w) 3 z_74) 23 6).toInt = ((im_70 23 6) : Int32).toInt := congrArg Int32.toInt ((congrFun (up2_n _ _ (by omega)) _))
          have hw_81 : ((up2 im_70 (25 + 1 * w) 3 z_74) 23 7).toInt = ((im_70 23 7) : Int32).toInt := congrArg Int32.toInt ((congrFun (up2_n _ _ (by omega)) _))
          have hw_82 : ((up2 im_70 (25 + 1 * w) 3 z_74) 23 8).toInt = ((im_70 23 8) : Int32).toInt := congrArg Int32.toInt ((congrFun (up2_n _ _ (by omega)) _))
          have hw_83 : ((up2 im_70 (25 + 1 * w) 3 z_74) 23 10).toInt = ((im_70 23 10) : Int32).toInt := congrArg Int32.toInt ((congrFun (up2_n _ _ (by omega)) _))
          have hw_84 : ((up2 im_70 (25 + 1 * w) 3 z_74) (25 + 1 * w) 1).toInt = ((im_70 (25 + 1 * w) 1) : Int32).toInt := congrArg Int32.toInt ((up2_k _ _ (by decide)))
          have hw_85 : ((up2 im_70 (25 + 1 * w) 3 z_74) (25 + 1 * w) 2).toInt = ((im_70 (25 + 1 * w) 2) : Int32).toInt := congrArg Int32.toInt ((up2_k _ _ (by decide)))
          have hw_86 : ((up2 im_70 (25 + 1 * w) 3 z_74) (25 + 1 * w) 3).toInt = (z_74 : Int32).toInt := congrArg Int32.toInt ((up2_at _ _ _ _))
          have hw_87 : ((up2 im_70 (25 + 1 * w) 3 z_74) (25 + 1 * w) 4).toInt = ((im_70 (25 + 1 * w) 4) : Int32).toInt := congrArg Int32.toInt ((up2_k _ _ (by decide)))
          have hw_88 : ((up2 im_70 (25 + 1 * w) 3 z_74) 13 4).toInt = ((i 13 4) : Int32).toInt := congrArg Int32.toInt (((congrFun (up2_n _ _ (by omega)) _).trans ((congrFun (hfr_71 13 (by omega)) _).trans (congrFun (hfr_16 13 (by omega)) _))))
          have hw_89 : ((up2 im_70 (25 + 1 * w) 3 z_74) 0 7).toInt = ((i 0 7) : Int32).toInt := congrArg Int32.toInt (((congrFun (up2_n _ _ (by omega)) _).trans ((congrFun (hfr_71 0 (by omega)) _).trans (congrFun (hfr_16 0 (by omega)) _))))
          have hw_90 : ((up2 im_70 (25 + 1 * w) 3 z_74) 0 11).toInt = ((i 0 11) : Int32).toInt := congrArg Int32.toInt (((congrFun (up2_n _ _ (by omega)) _).trans ((congrFun (hfr_71 0 (by omega)) _).trans (congrFun (hfr_16 0 (by omega)) _))))
          have hw_91 : ((up2 im_70 (25 + 1 * w) 3 z_74) 23 1).toInt = ((im_70 23 1) : Int32).toInt := congrArg Int32.toInt ((congrFun (up2_n _ _ (by omega)) _))
          have hw_92 : ((up2 im_70 (25 + 1 * w) 3 z_74) 23 2).toInt = ((im_70 23 2) : Int32).toInt := congrArg Int32.toInt ((congrFun (up2_n _ _ (by omega)) _))
          have hw_93 : ((up2 im_70 (25 + 1 * w) 3 z_74) 23 4).toInt = ((im_70 23 4) : Int32).toInt := congrArg Int32.toInt ((congrFun (up2_n _ _ (by omega)) _))
          have hw_94 : ((up2 im_70 (25 + 1 * w) 3 z_74) 23 5).toInt = ((im_70 23 5) : Int32).toInt := congrArg Int32.toInt ((congrFun (up2_n _ _ (by omega)) _))
          have hw_95 : ((up2 im_70 (25 + 1 * w) 3 z_74) 23 6).toInt = ((im_70 23 6) : Int32).toInt := congrArg Int32.toInt ((congrFun (up2_n _ _ (by omega)) _))
          have hw_96 : ((up2 im_70 (25 + 1 * w) 3 z_74) 23 7).toInt = ((im_70 23 7) : Int32).toInt := congrArg Int32.toInt ((congrFun (up2_n _ _ (by omega)) _))
          have hw_97 : ((up2 im_70 (25 + 1 * w) 3 z_74) 23 8).toInt = ((im_70 23 8) : Int32).toInt := congrArg Int32.toInt ((congrFun (up2_n _ _ (by omega)) _))
          have hw_98 : ((up2 im_70 (25 + 1 * w) 3 z_74) 23 10).toInt = ((im_70 23 10) : Int32).toInt := congrArg Int32.toInt ((congrFun (up2_n _ _ (by omega)) _))
          have hw_99 : ((up2 im_70 (25 + 1 * w) 3 z_74) (25 + 1 * w) 1).toInt = ((im_70 (25 + 1 * w) 1) : Int32).toInt := congrArg Int32.toInt ((up2_k _ _ (by decide)))
          have hw_100 : ((up2 im_70 (25 + 1 * w) 3 z_74) (25 + 1 * w) 2).toInt = ((im_70 (25 + 1 * w) 2) : Int32).toInt := congrArg Int32.toInt ((up2_k _ _ (by decide)))
          have hw_101 : ((up2 im_70 (25 + 1 * w) 3 z_74) (25 + 1 * w) 3).toInt = (z_74 : Int32).toInt := congrArg Int32.toInt ((up2_at _ _ _ _))
          have hw_102 : ((up2 im_70 (25 + 1 * w) 3 z_74) (25 + 1 * w) 4).toInt = ((im_70 (25 + 1 * w) 4) : Int32).toInt := congrArg Int32.toInt ((up2_k _ _ (by decide)))
          have hw_103 : ((up2 im_70 (25 + 1 * w) 3 z_74) 13 4).toInt = ((i 13 4) : Int32).toInt := congrArg Int32.toInt (((congrFun (up2_n _ _ (by omega)) _).trans ((congrFun (hfr_71 13 (by omega)) _).trans (congrFun (hfr_16 13 (by omega)) _))))
          have hw_104 : ((up2 im_70 (25 + 1 * w) 3 z_74) 0 7).toInt = ((i 0 7) : Int32).toInt := congrArg Int32.toInt (((congrFun (up2_n _ _ (by omega)) _).trans ((congrFun (hfr_71 0 (by omega)) _).trans (congrFun (hfr_16 0 (by omega)) _))))
          have hw_105 : ((up2 im_70 (25 + 1 * w) 3 z_74) 0 11).toInt = ((i 0 11) : Int32).toInt := congrArg Int32.toInt (((congrFun (up2_n _ _ (by omega)) _).trans ((congrFun (hfr_71 0 (by omega)) _).trans (congrFun (hfr_16 0 (by omega)) _))))
          have hSC : SC i (up2 im_70 (25 + 1 * w) 3 z_74) := ⟨((up2_n _ _ (by omega)).trans ((hfr_71 33 (by omega)).trans (hfr_16 33 (by omega)))), congrArg Int32.toInt (((congrFun (up2_n _ _ (by omega)) _).trans ((congrFun (hfr_71 0 (by omega)) _).trans (congrFun (hfr_16 0 (by omega)) _)))), (((tgE.refl i).trans hx2_20).trans (tgE.of (fun a ha => ((up2_n _ _ (by omega)).trans (hfr_71 a (by omega)))))), fun c9 hc9 => ((up2_o _ _ (by omega)).trans ((congrFun (hfr_71 (216 + 1 * c9) (by omega)) 3).trans (congrFun (hfr_16 (216 + 1 * c9) (by omega)) 3))), fun a ha => ((up2_n _ _ (by omega)).trans ((hfr_71 a (by omega)).trans (hfr_16 a (by omega))))⟩
          have e1 : qrem i r = qsum (caseM i r) (i 28) (i 23 4).toInt.toNat - qsum (caseM i r) (i 28) (i 23 5).toInt.toNat := rfl
          have e2 : qrem (up2 im_70 (25 + 1 * w) 3 z_74) r = _ := qrem_eq hO hPC hPQ hSC ((up2_n _ _ (by omega)).trans ((hfr_71 28 (by omega)).trans (hfr_16 28 (by omega)))) (by omega) (rfl : ((up2 im_70 (25 + 1 * w) 3 z_74) 23 5).toInt = _) (by omega)
          rw [show ((up2 im_70 (25 + 1 * w) 3 z_74) 23 5).toInt.toNat = (i 23 5).toInt.toNat by omega] at e2
          have e3 : wrem i r w = wremF i r j_4 2 (i (25 + 1 * w) 3).toInt := wrem_eq hO (SC.refl i) (by omega) (by omega) (by omega) (by omega) (by omega) rfl
          rw [wremF2] at e3
          simp only [ctag, hcN] at e3
          have e4 : wrem (up2 im_70 (25 + 1 * w) 3 z_74) r w = wremF i r j_4 2 ((up2 im_70 (25 + 1 * w) 3 z_74) (25 + 1 * w) 3).toInt := wrem_eq hO hSC (by omega) (by omega) (by omega) (by omega) (by omega) rfl
          rw [wremF2] at e4
          simp only [ctag, hcN] at e4
          rw [show (((up2 im_70 (25 + 1 * w) 3 z_74) (25 + 1 * w) 3).toInt + 1).toNat = r_13.toInt.toNat by omega] at e4
          exact sj_vret hx hb hr hlocks hS ((up2 im_70 (25 + 1 * w) 3 z_74), L, d) ⟨hO_75, (fun a ha => ((up2_n _ _ (by omega)).trans ((hfr_71 a (by omega)).trans (hfr_16 a (by omega))))), (fun a ha => rfl), (PD_fr hO hPD (fun a ha => ((up2_n _ _ (by omega)).trans ((hfr_71 a (by omega)).trans (hfr_16 a (by omega)))))), (PY_fr hPY (fun a ha => ((up2_n _ _ (by omega)).trans ((hfr_71 a (by omega)).trans (hfr_16 a (by omega)))))), (by dsimp only; refine ⟨?_, ?_, ?_, ?_, ?_, ?_⟩ <;> omega), (by dsimp only; omega), hSC, (Or.inr ⟨j_4, by dsimp only; omega, by dsimp only; omega, fun q => by dsimp only at q ⊢; omega, fun q => by dsimp only at q ⊢; rw [SC.sc hO hSC (by omega) (by omega)]; omega, fun q => by dsimp only at q ⊢; omega⟩), (fun _ q => hwf (by omega) (by dsimp only at q; omega))⟩ hH (sj_Knil hK) (Nat.le_of_ble_eq_true rfl) (Nat.le_of_ble_eq_true rfl) dX11_move_156
      · skip
        have h_106 := s_eq (rfl : (i (25 + 1 * w) 2).toInt = _) (show (1 : Int32).toInt = 1 from rfl) c_8
        refine lv_aload_n hx hb dX11_move_82 rfl (lv_at hl 2 rfl) ?_
        have bx_107 : (-1 : Int) ≤ (i (25 + 1 * w) 3).toInt ∧ (i (25 + 1 * w) 3).toInt ≤ 127 := by have h9 := hO (25 + 1 * w) 3; rw [bx_wk hw 3] at h9; exact h9
        refine h_geti (ci := 10) (C := RX10) (F := TX10) (N := 8) hx hb hts in10 hown hK hH (lt_nK (by omega)) (kd_wk hw) (by decide) rfl 3 (by decide) wd4 (fun _ h9 => h9) (by decide) rfl dX11_move_83 ?_
        refine lv_aload_n hx hb dX11_move_86 rfl (lv_at hl 1 rfl) ?_
        refine h_getr (ci := 11) (C := RX11) (F := TX11) (N := 14) hx hb hts in11 hown hK hH (by decide) (rfl : kd 0 = 11) (by decide) rfl 2 (by decide) wd1 (fun _ h9 => h9) (by decide) rfl (t := 13) (hR 0 2 rfl) (by decide) dX11_move_87 ?_
        refine lv_aload_n hx hb dX11_move_90 rfl (lv_at hl 0 rfl) ?_
        refine x_calli (va_runV (As := [.ref (g (216 + 1 * j_4))]) (rest := [.int (i (25 + 1 * w) 3)]) ⟨hx, hb, hml, hown, hts⟩ (k_scn l D g ka ad i r L d j_4 hO hR s.heap.size hPC (by first | omega | decide) (by first | omega | decide)) (cwV 1 hts gX11_move_X1_stepCount rfl rfl rfl (by decide +kernel) ⟨(Nat.le_of_ble_eq_true rfl), (Nat.le_of_ble_eq_true rfl)⟩) (x_preV (q := (RX1, TX1, 5)) hH hK (q_obj (by decide) (rfl : kd 13 = 1) (by decide)) rfl gxb (gxw hE hS (x_F hH hS hA))) rfl rfl hl.1 rfl (lv_room (Nat.le_of_ble_eq_true rfl)) dX11_move_91 ⟨(Nat.le_of_ble_eq_true rfl), (Nat.le_of_ble_eq_true rfl)⟩) hH hS hA rfl rfl (fun r_108 _ H locs hw_109 hH hS => ?_)
        obtain ⟨hr_111, he_112⟩ := hw_109
        have hr_111 : (0 : Int) ≤ r_108.toInt ∧ r_108.toInt ≤ 120 := hr_111
        refine lv_icmp_ge (tgt := 114) hx hb dX11_move_94 (by decide) (fun c_113 => ?_) (fun c_113 => ?_)
        · skip
          have h_114 := s_le (rfl : r_108.toInt = _) (rfl : (i (25 + 1 * w) 3).toInt = _) c_113
          refine lv_aload_n hx hb dX11_move_114 rfl (lv_at hl 2 rfl) ?_
          refine lv_iconst (v := 2) hx hb dX11_move_115 (by decide) ?_
          refine lv_aload_n hx hb dX11_move_116 rfl (lv_at hl 1 rfl) ?_
          have bx_115 : (0 : Int) ≤ (i 0 11).toInt ∧ (i 0 11).toInt ≤ 8 := hO 0 11
          refine h_geti (ci := 11) (C := RX11) (F := TX11) (N := 14) hx hb hts in11 hown hK hH (by decide) (rfl : kd 0 = 11) (by decide) rfl 11 (by decide) wd9 (fun _ h9 => h9) (by decide) rfl dX11_move_117 ?_
          refine lv_iconst (v := 1) hx hb dX11_move_120 (by decide) ?_
          refine lv_isub hx hb dX11_move_121 ?_
          obtain ⟨z_116, ez_116, hz_116⟩ := s_sub (rfl : (i 0 11).toInt = _) (show (1 : Int32).toInt = 1 from rfl) (by omega) (by omega)
          refine sj_i ez_116 ?_
          have hl_117 : (2 : Int32).toInt = 2 := rfl
          refine x_callv (va_runV (As := [.int 2, .int z_116]) (rest := []) ⟨hx, hb, hml, hown, hts⟩ (k_enter l D g ka ad i r L d w 2 z_116 hO hR H.size (by first | omega | decide) (by first | omega | decide) (by first | omega | decide) (by first | omega | decide) (by first | omega | decide)) (cwV 2 hts gX11_move_X10_enter rfl rfl rfl (by decide +kernel) ⟨(Nat.le_of_ble_eq_true rfl), (Nat.le_of_ble_eq_true rfl)⟩) (x_preV (q := (RX10, TX10, 8)) hH hK (q_obj (lt_nK (by omega)) (kd_wk hw) (by decide)) rfl gxb (gxw hE hS (x_F hH hS hA))) rfl rfl hl.1 rfl (lv_room (Nat.le_of_ble_eq_true rfl)) dX11_move_122 ⟨(Nat.le_of_ble_eq_true rfl), (Nat.le_of_ble_eq_true rfl)⟩) hH hS hA rfl rfl (fun im_120 H locs hw_119 hH hS => ?_)
          have hH : sj_H D A (hwc g ka im_120 r L d) H := hH
          obtain ⟨hO_122, hfr_121, he_123⟩ := hw_119
          refine lv_aload_n hx hb dX11_move_125 rfl (lv_at hl 1 rfl) ?_
          refine lv_iconst (v := 0) hx hb dX11_move_126 (by decide) ?_
          refine lv_aload_n hx hb dX11_move_127 rfl (lv_at hl 2 rfl) ?_
          have bx_124 : (-1 : Int) ≤ (im_120 (25 + 1 * w) 3).toInt ∧ (im_120 (25 + 1 * w) 3).toInt ≤ 127 := by have h9 := hO_122 (25 + 1 * w) 3; rw [bx_wk hw 3] at h9; exact h9
          refine h_geti (ci := 10) (C := RX10) (F := TX10) (N := 8) hx hb hts in10 hown hK hH (lt_nK (by omega)) (kd_wk hw) (by decide) rfl 3 (by decide) wd4 (fun _ h9 => h9) (by decide) rfl dX11_move_128 ?_
          refine lv_aload_n hx hb dX11_move_131 rfl (lv_at hl 0 rfl) ?_
          have bx_125 : (0 : Int) ≤ (i (216 + 1 * j_4) 3).toInt ∧ (i (216 + 1 * j_4) 3).toInt ≤ 65535 := by have h9 := hO (216 + 1 * j_4) 3; rw [bx_case (by omega) (by omega) 3] at h9; exact h9
          refine h_geti (ci := 0) (C := RX0) (F := TX0) (N := 5) hx hb hts in0 hown hK hH (lt_nK (by omega)) (kd_case (by omega) (by omega)) (by decide) rfl 3 (by decide) wd5 (fun _ h9 => h9) (by decide) rfl dX11_move_132 ?_
          refine sj_i (y := (i (216 + 1 * j_4) 3)) (congrFun (hfr_121 (216 + 1 * j_4) (by omega)) _) ?_
          have hl_126 : (0 : Int32).toInt = 0 := rfl
          have hw_127 : (im_120 23 1).toInt = ((i 23 1) : Int32).toInt := congrArg Int32.toInt ((congrFun (hfr_121 23 (by omega)) _))
          have hw_128 : (im_120 23 2).toInt = ((i 23 2) : Int32).toInt := congrArg Int32.toInt ((congrFun (hfr_121 23 (by omega)) _))
          have hw_129 : (im_120 23 4).toInt = ((i 23 4) : Int32).toInt := congrArg Int32.toInt ((congrFun (hfr_121 23 (by omega)) _))
          have hw_130 : (im_120 23 5).toInt = ((i 23 5) : Int32).toInt := congrArg Int32.toInt ((congrFun (hfr_121 23 (by omega)) _))
          have hw_131 : (im_120 23 6).toInt = ((i 23 6) : Int32).toInt := congrArg Int32.toInt ((congrFun (hfr_121 23 (by omega)) _))
          have hw_132 : (im_120 23 7).toInt = ((i 23 7) : Int32).toInt := congrArg Int32.toInt ((congrFun (hfr_121 23 (by omega)) _))
          have hw_133 : (im_120 23 8).toInt = ((i 23 8) : Int32).toInt := congrArg Int32.toInt ((congrFun (hfr_121 23 (by omega)) _))
          have hw_134 : (im_120 23 10).toInt = ((i 23 10) : Int32).toInt := congrArg Int32.toInt ((congrFun (hfr_121 23 (by omega)) _))
          have hw_135 : (im_120 13 4).toInt = ((i 13 4) : Int32).toInt := congrArg Int32.toInt ((congrFun (hfr_121 13 (by omega)) _))
          have hw_136 : (im_120 0 7).toInt = ((i 0 7) : Int32).toInt := congrArg Int32.toInt ((congrFun (hfr_121 0 (by omega)) _))
          have hw_137 : (im_120 0 11).toInt = ((i 0 11) : Int32).toInt := congrArg Int32.toInt ((congrFun (hfr_121 0 (by omega)) _))
          refine x_calli (va_runV (As := [.int 0, .int (im_120 (25 + 1 * w) 3), .int (i (216 + 1 * j_4) 3)]) (rest := []) ⟨hx, hb, hml, hown, hts⟩ (k_next0 l D g ka ad im_120 r L d (im_120 (25 + 1 * w) 3) (i (216 + 1 * j_4) 3) hO_122 hR H.size (PK.same hO hPK ((tgE.refl i).trans (tgE.of (fun a ha => (hfr_121 a (by omega))))) (congrArg Int32.toInt ((congrFun (hfr_121 0 (by omega)) _)))) (by first | omega | decide) (by first | omega | decide)) (cwV 3 hts gX11_move_X11_nextHook rfl rfl rfl (by decide +kernel) ⟨(Nat.le_of_ble_eq_true rfl), (Nat.le_of_ble_eq_true rfl)⟩) (x_preV (q := (RX11, TX11, 14)) hH hK (q_obj (by decide) (rfl : kd 0 = 11) (by decide)) rfl gxb (gxw hE hS (x_F hH hS hA))) rfl rfl hl.1 rfl (lv_room (Nat.le_of_ble_eq_true rfl)) dX11_move_135 ⟨(Nat.le_of_ble_eq_true rfl), (Nat.le_of_ble_eq_true rfl)⟩) hH hS hA rfl rfl (fun r_138 im_140 H locs hw_139 hH hS => ?_)
          have hH : sj_H D A (hwc g ka im_140 r L d) H := hH
          obtain ⟨hO_142, hfr_141, hr_143, he_144, hx2_145⟩ := hw_139
          have hr_143 : (-1 : Int) ≤ r_138.toInt ∧ r_138.toInt ≤ 7 := hr_143
          rw [hdue_same ((tgE.refl i).trans (tgE.of (fun a ha => (hfr_121 a (by omega))))) (hfr_121 33 (by omega)), show (im_120 0 11).toInt = (i 0 11).toInt from congrArg Int32.toInt ((congrFun (hfr_121 0 (by omega)) _))] at he_144
          rw [show ((im_120 (25 + 1 * w) 3).toInt + 1).toNat = (i 0 11).toInt.toNat by omega] at he_144
          refine lv_istore_n (lv' := [(3, .int r_138), (2, .ref (g (216 + 1 * j_4))), (0, .ref (g 0)), (1, .ref (g (25 + 1 * w)))]) hx hb dX11_move_138 rfl hl (by decide) rfl (fun ls hl => ?_)
          refine lv_iload_n hx hb dX11_move_139 rfl (lv_at hl 0 rfl) ?_
          refine lv_if_lt (tgt := 157) hx hb dX11_move_140 (by decide) (fun c_146 => ?_) (fun c_146 => ?_)
          · skip
            have h_147 := s_lt (rfl : r_138.toInt = _) (show (0 : Int32).toInt = 0 from rfl) c_146
            refine lv_aload_n hx hb dX11_move_157 rfl (lv_at hl 1 rfl) ?_
            refine lv_aload_n hx hb dX11_move_158 rfl (lv_at hl 3 rfl) ?_
            have bx_148 : (0 : Int) ≤ (im_120 (25 + 1 * w) 4).toInt ∧ (im_120 (25 + 1 * w) 4).toInt ≤ 5 := by have h9 := hO_122 (25 + 1 * w) 4; rw [bx_wk hw 4] at h9; exact h9
            refine h_geti (ci := 10) (C := RX10) (F := TX10) (N := 8) hx hb hts in10 hown hK hH (lt_nK (by omega)) (kd_wk hw) (by decide) rfl 4 (by decide) wd6 (fun _ h9 => h9) (by decide) rfl dX11_move_159 ?_
            refine sj_i (y := (im_120 (25 + 1 * w) 4)) (congrFun (hfr_141 (25 + 1 * w) (by omega)) _) ?_
            have hO_149 := okp hO_142 (n := (216 + 1 * j_4)) (k := 4) (v := (im_120 (25 + 1 * w) 4)) (by rw [bx_case (by omega) (by omega) 4]; exact (show (-1 : Int) ≤ ((im_120 (25 + 1 * w) 4) : Int32).toInt ∧ ((im_120 (25 + 1 * w) 4) : Int32).toInt ≤ 5 from ⟨by omega, by omega⟩))
            refine h_puti (ty := .int) (ci := 0) (C := RX0) (F := TX0) (N := 5) hx hb hts in0 tyX0 tyX0_ok nmX0 hown hK hH hS (lt_nK (by omega)) (kd_case (by omega) (by omega)) (by decide) rfl 4 (by decide) wd7 (fun _ h9 => h9) rfl (by decide +kernel) rfl rfl (by decide) rfl dX11_move_162 (fun H locs hH hS => ?_)
            refine lv_aload_n hx hb dX11_move_165 rfl (lv_at hl 2 rfl) ?_
            refine h_getr (ci := 11) (C := RX11) (F := TX11) (N := 14) hx hb hts in11 hown hK hH (by decide) (rfl : kd 0 = 11) (by decide) rfl 4 (by decide) wd8 (fun _ h9 => h9) (by decide) rfl (t := 23) (hR 0 4 rfl) (by decide) dX11_move_166 ?_
            refine lv_aload_n hx hb dX11_move_169 rfl (lv_at hl 3 rfl) ?_
            have hw_150 : ((up2 im_140 (216 + 1 * j_4) 4 (im_120 (25 + 1 * w) 4)) 23 1).toInt = ((i 23 1) : Int32).toInt := congrArg Int32.toInt (((congrFun (up2_n _ _ (by omega)) _).trans ((congrFun (hfr_141 23 (by omega)) _).trans (congrFun (hfr_121 23 (by omega)) _))))
            have hw_151 : ((up2 im_140 (216 + 1 * j_4) 4 (im_120 (25 + 1 * w) 4)) 23 2).toInt = ((i 23 2) : Int32).toInt := congrArg Int32.toInt (((congrFun (up2_n _ _ (by omega)) _).trans ((congrFun (hfr_141 23 (by omega)) _).trans (congrFun (hfr_121 23 (by omega)) _))))
            have hw_152 : ((up2 im_140 (216 + 1 * j_4) 4 (im_120 (25 + 1 * w) 4)) 23 4).toInt = ((i 23 4) : Int32).toInt := congrArg Int32.toInt (((congrFun (up2_n _ _ (by omega)) _).trans ((congrFun (hfr_141 23 (by omega)) _).trans (congrFun (hfr_121 23 (by omega)) _))))
            have hw_153 : ((up2 im_140 (216 + 1 * j_4) 4 (im_120 (25 + 1 * w) 4)) 23 5).toInt = ((i 23 5) : Int32).toInt := congrArg Int32.toInt (((congrFun (up2_n _ _ (by omega)) _).trans ((congrFun (hfr_141 23 (by omega)) _).trans (congrFun (hfr_121 23 (by omega)) _))))
            have hw_154 : ((up2 im_140 (216 + 1 * j_4) 4 (im_120 (25 + 1 * w) 4)) 23 6).toInt = ((i 23 6) : Int32).toInt := congrArg Int32.toInt (((congrFun (up2_n _ _ (by omega)) _).trans ((congrFun (hfr_141 23 (by omega)) _).trans (congrFun (hfr_121 23 (by omega)) _))))
            have hw_155 : ((up2 im_140 (216 + 1 * j_4) 4 (im_120 (25 + 1 * w) 4)) 23 7).toInt = ((i 23 7) : Int32).toInt := congrArg Int32.toInt (((congrFun (up2_n _ _ (by omega)) _).trans ((congrFun (hfr_141 23 (by omega)) _).trans (congrFun (hfr_121 23 (by omega)) _))))
            have hw_156 : ((up2 im_140 (216 + 1 * j_4) 4 (im_120 (25 + 1 * w) 4)) 23 8).toInt = ((i 23 8) : Int32).toInt := congrArg Int32.toInt (((congrFun (up2_n _ _ (by omega)) _).trans ((congrFun (hfr_141 23 (by omega)) _).trans (congrFun (hfr_121 23 (by omega)) _))))
            have hw_157 : ((up2 im_140 (216 + 1 * j_4) 4 (im_120 (25 + 1 * w) 4)) 23 10).toInt = ((i 23 10) : Int32).toInt := congrArg Int32.toInt (((congrFun (up2_n _ _ (by omega)) _).trans ((congrFun (hfr_141 23 (by omega)) _).trans (congrFun (hfr_121 23 (by omega)) _))))
            have hw_158 : ((up2 im_140 (216 + 1 * j_4) 4 (im_120 (25 + 1 * w) 4)) (25 + 1 * w) 1).toInt = ((im_120 (25 + 1 * w) 1) : Int32).toInt := congrArg Int32.toInt (((congrFun (up2_n _ _ (by omega)) _).trans (congrFun (hfr_141 (25 + 1 * w) (by omega)) _)))
            have hw_159 : ((up2 im_140 (216 + 1 * j_4) 4 (im_120 (25 + 1 * w) 4)) (25 + 1 * w) 2).toInt = ((im_120 (25 + 1 * w) 2) : Int32).toInt := congrArg Int32.toInt (((congrFun (up2_n _ _ (by omega)) _).trans (congrFun (hfr_141 (25 + 1 * w) (by omega)) _)))
            have hw_160 : ((up2 im_140 (216 + 1 * j_4) 4 (im_120 (25 + 1 * w) 4)) (25 + 1 * w) 3).toInt = ((im_120 (25 + 1 * w) 3) : Int32).toInt := congrArg Int32.toInt (((congrFun (up2_n _ _ (by omega)) _).trans (congrFun (hfr_141 (25 + 1 * w) (by omega)) _)))
            have hw_161 : ((up2 im_140 (216 + 1 * j_4) 4 (im_120 (25 + 1 * w) 4)) (25 + 1 * w) 4).toInt = ((im_120 (25 + 1 * w) 4) : Int32).toInt := congrArg Int32.toInt (((congrFun (up2_n _ _ (by omega)) _).trans (congrFun (hfr_141 (25 + 1 * w) (by omega)) _)))
            have hw_162 : ((up2 im_140 (216 + 1 * j_4) 4 (im_120 (25 + 1 * w) 4)) 13 4).toInt = ((i 13 4) : Int32).toInt := congrArg Int32.toInt (((congrFun (up2_n _ _ (by omega)) _).trans ((congrFun (hfr_141 13 (by omega)) _).trans (congrFun (hfr_121 13 (by omega)) _))))
            have hw_163 : ((up2 im_140 (216 + 1 * j_4) 4 (im_120 (25 + 1 * w) 4)) 0 7).toInt = ((i 0 7) : Int32).toInt := congrArg Int32.toInt (((congrFun (up2_n _ _ (by omega)) _).trans ((congrFun (hfr_141 0 (by omega)) _).trans (congrFun (hfr_121 0 (by omega)) _))))
            have hw_164 : ((up2 im_140 (216 + 1 * j_4) 4 (im_120 (25 + 1 * w) 4)) 0 11).toInt = ((i 0 11) : Int32).toInt := congrArg Int32.toInt (((congrFun (up2_n _ _ (by omega)) _).trans ((congrFun (hfr_141 0 (by omega)) _).trans (congrFun (hfr_121 0 (by omega)) _))))
            refine x_callv (va_runV (As := [.ref (g (25 + 1 * w))]) (rest := []) ⟨hx, hb, hml, hown, hts⟩ (k_finish l D g ka ad (up2 im_140 (216 + 1 * j_4) 4 (im_120 (25 + 1 * w) 4)) r L d w hO_149 hR H.size (by first | omega | decide) (by first | omega | decide) (by first | omega | decide)) (cwV 1 hts gX11_move_X7_finishCase rfl rfl rfl (by decide +kernel) ⟨(Nat.le_of_ble_eq_true rfl), (Nat.le_of_ble_eq_true rfl)⟩) (x_preV (q := (RX7, TX7, 11)) hH hK (q_obj (by decide) (rfl : kd 23 = 7) (by decide)) rfl gxb (gxw hE hS (x_F hH hS hA))) rfl rfl hl.1 rfl (lv_room (Nat.le_of_ble_eq_true rfl)) dX11_move_170 ⟨(Nat.le_of_ble_eq_true rfl), (Nat.le_of_ble_eq_true rfl)⟩) hH hS hA rfl rfl (fun im_167 H locs hw_166 hH hS => ?_)
            have hH : sj_H D A (hwc g ka im_167 r L d) H := hH
            obtain ⟨hO_169, hfr_168, he_170⟩ := hw_166
            have hw_171 : (im_167 13 4).toInt = ((i 13 4) : Int32).toInt := congrArg Int32.toInt (((congrFun (hfr_168 13 (by omega)) _).trans ((congrFun (up2_n _ _ (by omega)) _).trans ((congrFun (hfr_141 13 (by omega)) _).trans (congrFun (hfr_121 13 (by omega)) _)))))
            have hw_172 : (im_167 0 7).toInt = ((i 0 7) : Int32).toInt := congrArg Int32.toInt (((congrFun (hfr_168 0 (by omega)) _).trans ((congrFun (up2_n _ _ (by omega)) _).trans ((congrFun (hfr_141 0 (by omega)) _).trans (congrFun (hfr_121 0 (by omega)) _)))))
            have hw_173 : (im_167 0 11).toInt = ((i 0 11) : Int32).toInt := congrArg Int32.toInt (((congrFun (hfr_168 0 (by omega)) _).trans ((congrFun (up2_n _ _ (by omega)) _).trans ((congrFun (hfr_141 0 (by omega)) _).trans (congrFun (hfr_121 0 (by omega)) _)))))
            have hw_174 : (im_167 13 4).toInt = ((i 13 4) : Int32).toInt := congrArg Int32.toInt (((congrFun (hfr_168 13 (by omega)) _).trans ((congrFun (up2_n _ _ (by omega)) _).trans ((congrFun (hfr_141 13 (by omega)) _).trans (congrFun (hfr_121 13 (by omega)) _)))))
            have hw_175 : (im_167 0 7).toInt = ((i 0 7) : Int32).toInt := congrArg Int32.toInt (((congrFun (hfr_168 0 (by omega)) _).trans ((congrFun (up2_n _ _ (by omega)) _).trans ((congrFun (hfr_141 0 (by omega)) _).trans (congrFun (hfr_121 0 (by omega)) _)))))
            have hw_176 : (im_167 0 11).toInt = ((i 0 11) : Int32).toInt := congrArg Int32.toInt (((congrFun (hfr_168 0 (by omega)) _).trans ((congrFun (up2_n _ _ (by omega)) _).trans ((congrFun (hfr_141 0 (by omega)) _).trans (congrFun (hfr_121 0 (by omega)) _)))))
            have hSC : SC i im_167 := ⟨((hfr_168 33 (by omega)).trans ((up2_n _ _ (by omega)).trans ((hfr_141 33 (by omega)).trans (hfr_121 33 (by omega))))), congrArg Int32.toInt (((congrFun (hfr_168 0 (by omega)) _).trans ((congrFun (up2_n _ _ (by omega)) _).trans ((congrFun (hfr_141 0 (by omega)) _).trans (congrFun (hfr_121 0 (by omega)) _))))), ((((tgE.refl i).trans (tgE.of (fun a ha => (hfr_121 a (by omega))))).trans hx2_145).trans (tgE.of (fun a ha => ((hfr_168 a (by omega)).trans (up2_n _ _ (by omega)))))), fun c9 hc9 => ((congrFun (hfr_168 (216 + 1 * c9) (by omega)) 3).trans ((up2_o _ _ (by omega)).trans ((congrFun (hfr_141 (216 + 1 * c9) (by omega)) 3).trans (congrFun (hfr_121 (216 + 1 * c9) (by omega)) 3)))), fun a ha => ((hfr_168 a (by omega)).trans ((up2_n _ _ (by omega)).trans ((hfr_141 a (by omega)).trans (hfr_121 a (by omega)))))⟩
            have e1 : qrem i r = qsum (caseM i r) (i 28) (i 23 4).toInt.toNat - qsum (caseM i r) (i 28) (i 23 5).toInt.toNat := rfl
            have e2 : qrem im_167 r = _ := qrem_eq hO hPC hPQ hSC ((hfr_168 28 (by omega)).trans ((up2_n _ _ (by omega)).trans ((hfr_141 28 (by omega)).trans (hfr_121 28 (by omega))))) (by omega) (rfl : (im_167 23 5).toInt = _) (by omega)
            rw [show (im_167 23 5).toInt.toNat = (i 23 5).toInt.toNat by omega] at e2
            have e3 : wrem i r w = wremF i r j_4 1 (i (25 + 1 * w) 3).toInt := wrem_eq hO (SC.refl i) (by omega) (by omega) (by omega) (by omega) (by omega) rfl
            rw [wremF1] at e3
            simp only [ctag, hcN] at e3
            have e4 : wrem im_167 r w = 0 := wrem_no (by omega)
            exact sj_vret hx hb hr hlocks hS (im_167, L, d) ⟨hO_169, (fun a ha => ((hfr_168 a (by omega)).trans ((up2_n _ _ (by omega)).trans ((hfr_141 a (by omega)).trans (hfr_121 a (by omega)))))), (fun a ha => rfl), (PD_fr hO hPD (fun a ha => ((hfr_168 a (by omega)).trans ((up2_n _ _ (by omega)).trans ((hfr_141 a (by omega)).trans (hfr_121 a (by omega))))))), (PY_fr hPY (fun a ha => ((hfr_168 a (by omega)).trans ((up2_n _ _ (by omega)).trans ((hfr_141 a (by omega)).trans (hfr_121 a (by omega))))))), (by dsimp only; refine ⟨?_, ?_, ?_, ?_, ?_, ?_⟩ <;> omega), (by dsimp only; omega), hSC, (Or.inl (by dsimp only; omega)), (fun q _ => by exfalso; dsimp only at q; omega)⟩ hH (sj_Knil hK) (Nat.le_of_ble_eq_true rfl) (Nat.le_of_ble_eq_true rfl) dX11_move_173
          · skip
            have h_177 := s_nlt (rfl : r_138.toInt = _) (show (0 : Int32).toInt = 0 from rfl) c_146
            refine lv_aload_n hx hb dX11_move_143 rfl (lv_at hl 2 rfl) ?_
            refine lv_aload_n hx hb dX11_move_144 rfl (lv_at hl 3 rfl) ?_
            refine lv_iload_n hx hb dX11_move_145 rfl (lv_at hl 0 rfl) ?_
            have hw_178 : (im_140 23 1).toInt = ((i 23 1) : Int32).toInt := congrArg Int32.toInt (((congrFun (hfr_141 23 (by omega)) _).trans (congrFun (hfr_121 23 (by omega)) _)))
            have hw_179 : (im_140 23 2).toInt = ((i 23 2) : Int32).toInt := congrArg Int32.toInt (((congrFun (hfr_141 23 (by omega)) _).trans (congrFun (hfr_121 23 (by omega)) _)))
            have hw_180 : (im_140 23 4).toInt = ((i 23 4) : Int32).toInt := congrArg Int32.toInt (((congrFun (hfr_141 23 (by omega)) _).trans (congrFun (hfr_121 23 (by omega)) _)))
            have hw_181 : (im_140 23 5).toInt = ((i 23 5) : Int32).toInt := congrArg Int32.toInt (((congrFun (hfr_141 23 (by omega)) _).trans (congrFun (hfr_121 23 (by omega)) _)))
            have hw_182 : (im_140 23 6).toInt = ((i 23 6) : Int32).toInt := congrArg Int32.toInt (((congrFun (hfr_141 23 (by omega)) _).trans (congrFun (hfr_121 23 (by omega)) _)))
            have hw_183 : (im_140 23 7).toInt = ((i 23 7) : Int32).toInt := congrArg Int32.toInt (((congrFun (hfr_141 23 (by omega)) _).trans (congrFun (hfr_121 23 (by omega)) _)))
            have hw_184 : (im_140 23 8).toInt = ((i 23 8) : Int32).toInt := congrArg Int32.toInt (((congrFun (hfr_141 23 (by omega)) _).trans (congrFun (hfr_121 23 (by omega)) _)))
            have hw_185 : (im_140 23 10).toInt = ((i 23 10) : Int32).toInt := congrArg Int32.toInt (((congrFun (hfr_141 23 (by omega)) _).trans (congrFun (hfr_121 23 (by omega)) _)))
            have hw_186 : (im_140 (25 + 1 * w) 1).toInt = ((im_120 (25 + 1 * w) 1) : Int32).toInt := congrArg Int32.toInt ((congrFun (hfr_141 (25 + 1 * w) (by omega)) _))
            have hw_187 : (im_140 (25 + 1 * w) 2).toInt = ((im_120 (25 + 1 * w) 2) : Int32).toInt := congrArg Int32.toInt ((congrFun (hfr_141 (25 + 1 * w) (by omega)) _))
            have hw_188 : (im_140 (25 + 1 * w) 3).toInt = ((im_120 (25 + 1 * w) 3) : Int32).toInt := congrArg Int32.toInt ((congrFun (hfr_141 (25 + 1 * w) (by omega)) _))
            have hw_189 : (im_140 (25 + 1 * w) 4).toInt = ((im_120 (25 + 1 * w) 4) : Int32).toInt := congrArg Int32.toInt ((congrFun (hfr_141 (25 + 1 * w) (by omega)) _))
            have hw_190 : (im_140 13 4).toInt = ((i 13 4) : Int32).toInt := congrArg Int32.toInt (((congrFun (hfr_141 13 (by omega)) _).trans (congrFun (hfr_121 13 (by omega)) _)))
            have hw_191 : (im_140 0 7).toInt = ((i 0 7) : Int32).toInt := congrArg Int32.toInt (((congrFun (hfr_141 0 (by omega)) _).trans (congrFun (hfr_121 0 (by omega)) _)))
            have hw_192 : (im_140 0 11).toInt = ((i 0 11) : Int32).toInt := congrArg Int32.toInt (((congrFun (hfr_141 0 (by omega)) _).trans (congrFun (hfr_121 0 (by omega)) _)))
            refine x_callv (va_runV (As := [.ref (g (25 + 1 * w)), .int r_138]) (rest := []) ⟨hx, hb, hml, hown, hts⟩ (k_doHook l D g ka ad im_140 r L d w r_138 hO_142 hR H.size (by first | omega | decide) (by first | omega | decide) (by first | omega | decide) (PC_fr hPC (fun a ha => ((hfr_141 a (by omega)).trans (hfr_121 a (by omega)))) (fun _ _ _ => rfl)) (PO_fr hPO (fun a ha => ((hfr_141 a (by omega)).trans (hfr_121 a (by omega))))) (PW_fr hPW (fun a ha => ((hfr_141 a (by omega)).trans (hfr_121 a (by omega))))) (by first | omega | decide) (by first | omega | decide) (by first | omega | decide)) (cwV 2 hts gX11_move_X11_doHook rfl rfl rfl (by decide +kernel) ⟨(Nat.le_of_ble_eq_true rfl), (Nat.le_of_ble_eq_true rfl)⟩) (x_preV (q := (RX11, TX11, 14)) hH hK (q_obj (by decide) (rfl : kd 0 = 11) (by decide)) rfl gxb (gxw hE hS (x_F hH hS hA))) rfl rfl hl.1 rfl (lv_room (Nat.le_of_ble_eq_true rfl)) dX11_move_146 ⟨(Nat.le_of_ble_eq_true rfl), (Nat.le_of_ble_eq_true rfl)⟩) hH hS hA rfl rfl (fun im_195 H locs hw_194 hH hS => ?_)
            have hH : sj_H D A (hwc g ka im_195 r L d) H := hH
            obtain ⟨hO_197, hfr_196, he_198⟩ := hw_194
            refine lv_aload_n hx hb dX11_move_149 rfl (lv_at hl 3 rfl) ?_
            refine lv_iload_n hx hb dX11_move_150 rfl (lv_at hl 0 rfl) ?_
            refine lv_iconst (v := 1) hx hb dX11_move_151 (by decide) ?_
            refine lv_isub hx hb dX11_move_152 ?_
            obtain ⟨z_199, ez_199, hz_199⟩ := s_sub (rfl : r_138.toInt = _) (show (1 : Int32).toInt = 1 from rfl) (by omega) (by omega)
            refine sj_i ez_199 ?_
            have hO_200 := okp hO_197 (n := (25 + 1 * w)) (k := 3) (v := z_199) (by rw [bx_wk hw 3]; exact (show (-1 : Int) ≤ (z_199 : Int32).toInt ∧ (z_199 : Int32).toInt ≤ 127 from ⟨by omega, by omega⟩))
            refine h_puti (ty := .int) (ci := 10) (C := RX10) (F := TX10) (N := 8) hx hb hts in10 tyX10 tyX10_ok nmX10 hown hK hH hS (lt_nK (by omega)) (kd_wk hw) (by decide) rfl 3 (by decide) wd4 (fun _ h9 => h9) rfl (by decide +kernel) rfl rfl (by decide) rfl dX11_move_153 (fun H locs hH hS => ?_)
            have hw_201 : ((up2 im_195 (25 + 1 * w) 3 z_199) 23 1).toInt = ((im_195 23 1) : Int32).toInt := congrArg Int32.toInt ((congrFun (up2_n _ _ (by omega)) _))
            have hw_202 : ((up2 im_195 (25 + 1 * w) 3 z_199) 23 2).toInt = ((im_195 23 2) : Int32).toInt := congrArg Int32.toInt ((congrFun (up2_n _ _ (by omega)) _))
            have hw_203 : ((up2 im_195 (25 + 1 * w) 3 z_199) 23 4).toInt = ((im_195 23 4) : Int32).toInt := congrArg Int32.toInt ((congrFun (up2_n _ _ (by omega)) _))
            have hw_204 : ((up2 im_195 (25 + 1 * w) 3 z_199) 23 5).toInt = ((im_195 23 5) : Int32).toInt := congrArg Int32.toInt ((congrFun (up2_n _ _ (by omega)) _))
            have hw_205 : ((up2 im_195 (25 + 1 * w) 3 z_199) 23 6).toInt = ((im_195 23 6) : Int32).toInt := congrArg Int32.toInt ((congrFun (up2_n _ _ (by omega)) _))
            have hw_206 : ((up2 im_195 (25 + 1 * w) 3 z_199) 23 7).toInt = ((im_195 23 7) : Int32).toInt := congrArg Int32.toInt ((congrFun (up2_n _ _ (by omega)) _))
            have hw_207 : ((up2 im_195 (25 + 1 * w) 3 z_199) 23 8).toInt = ((im_195 23 8) : Int32).toInt := congrArg Int32.toInt ((congrFun (up2_n _ _ (by omega)) _))
            have hw_208 : ((up2 im_195 (25 + 1 * w) 3 z_199) 23 10).toInt = ((im_195 23 10) : Int32).toInt := congrArg Int32.toInt ((congrFun (up2_n _ _ (by omega)) _))
            have hw_209 : ((up2 im_195 (25 + 1 * w) 3 z_199) (25 + 1 * w) 1).toInt = ((im_195 (25 + 1 * w) 1) : Int32).toInt := congrArg Int32.toInt ((up2_k _ _ (by decide)))
            have hw_210 : ((up2 im_195 (25 + 1 * w) 3 z_199) (25 + 1 * w) 2).toInt = ((im_195 (25 + 1 * w) 2) : Int32).toInt := congrArg Int32.toInt ((up2_k _ _ (by decide)))
            have hw_211 : ((up2 im_195 (25 + 1 * w) 3 z_199) (25 + 1 * w) 3).toInt = (z_199 : Int32).toInt := congrArg Int32.toInt ((up2_at _ _ _ _))
            have hw_212 : ((up2 im_195 (25 + 1 * w) 3 z_199) (25 + 1 * w) 4).toInt = ((im_195 (25 + 1 * w) 4) : Int32).toInt := congrArg Int32.toInt ((up2_k _ _ (by decide)))
            have hw_213 : ((up2 im_195 (25 + 1 * w) 3 z_199) 13 4).toInt = ((i 13 4) : Int32).toInt := congrArg Int32.toInt (((congrFun (up2_n _ _ (by omega)) _).trans ((congrFun (hfr_196 13 (by omega)) _).trans ((congrFun (hfr_141 13 (by omega)) _).trans (congrFun (hfr_121 13 (by omega)) _)))))
            have hw_214 : ((up2 im_195 (25 + 1 * w) 3 z_199) 0 7).toInt = ((i 0 7) : Int32).toInt := congrArg Int32.toInt (((congrFun (up2_n _ _ (by omega)) _).trans ((congrFun (hfr_196 0 (by omega)) _).trans ((congrFun (hfr_141 0 (by omega)) _).trans (congrFun (hfr_121 0 (by omega)) _)))))
            have hw_215 : ((up2 im_195 (25 + 1 * w) 3 z_199) 0 11).toInt = ((i 0 11) : Int32).toInt := congrArg Int32.toInt (((congrFun (up2_n _ _ (by omega)) _).trans ((congrFun (hfr_196 0 (by omega)) _).trans ((congrFun (hfr_141 0 (by omega)) _).trans (congrFun (hfr_121 0 (by omega)) _)))))
            have hw_216 : ((up2 im_195 (25 + 1 * w) 3 z_199) 23 1).toInt = ((im_195 23 1) : Int32).toInt := congrArg Int32.toInt ((congrFun (up2_n _ _ (by omega)) _))
            have hw_217 : ((up2 im_195 (25 + 1 * w) 3 z_199) 23 2).toInt = ((im_195 23 2) : Int32).toInt := congrArg Int32.toInt ((congrFun (up2_n _ _ (by omega)) _))
            have hw_218 : ((up2 im_195 (25 + 1 * w) 3 z_199) 23 4).toInt = ((im_195 23 4) : Int32).toInt := congrArg Int32.toInt ((congrFun (up2_n _ _ (by omega)) _))
            have hw_219 : ((up2 im_195 (25 + 1 * w) 3 z_199) 23 5).toInt = ((im_195 23 5) : Int32).toInt := congrArg Int32.toInt ((congrFun (up2_n _ _ (by omega)) _))
            have hw_220 : ((up2 im_195 (25 + 1 * w) 3 z_199) 23 6).toInt = ((im_195 23 6) : Int32).toInt := congrArg Int32.toInt ((congrFun (up2_n _ _ (by omega)) _))
            have hw_221 : ((up2 im_195 (25 + 1 * w) 3 z_199) 23 7).toInt = ((im_195 23 7) : Int32).toInt := congrArg Int32.toInt ((congrFun (up2_n _ _ (by omega)) _))
            have hw_222 : ((up2 im_195 (25 + 1 * w) 3 z_199) 23 8).toInt = ((im_195 23 8) : Int32).toInt := congrArg Int32.toInt ((congrFun (up2_n _ _ (by omega)) _))
            have hw_223 : ((up2 im_195 (25 + 1 * w) 3 z_199) 23 10).toInt = ((im_195 23 10) : Int32).toInt := congrArg Int32.toInt ((congrFun (up2_n _ _ (by omega)) _))
            have hw_224 : ((up2 im_195 (25 + 1 * w) 3 z_199) (25 + 1 * w) 1).toInt = ((im_195 (25 + 1 * w) 1) : Int32).toInt := congrArg Int32.toInt ((up2_k _ _ (by decide)))
            have hw_225 : ((up2 im_195 (25 + 1 * w) 3 z_199) (25 + 1 * w) 2).toInt = ((im_195 (25 + 1 * w) 2) : Int32).toInt := congrArg Int32.toInt ((up2_k _ _ (by decide)))
            have hw_226 : ((up2 im_195 (25 + 1 * w) 3 z_199) (25 + 1 * w) 3).toInt = (z_199 : Int32).toInt := congrArg Int32.toInt ((up2_at _ _ _ _))
            have hw_227 : ((up2 im_195 (25 + 1 * w) 3 z_199) (25 + 1 * w) 4).toInt = ((im_195 (25 + 1 * w) 4) : Int32).toInt := congrArg Int32.toInt ((up2_k _ _ (by decide)))
            have hw_228 : ((up2 im_195 (25 + 1 * w) 3 z_199) 13 4).toInt = ((i 13 4) : Int32).toInt := congrArg Int32.toInt (((congrFun (up2_n _ _ (by omega)) _).trans ((congrFun (hfr_196 13 (by omega)) _).trans ((congrFun (hfr_141 13 (by omega)) _).trans (congrFun (hfr_121 13 (by omega)) _)))))
            have hw_229 : ((up2 im_195 (25 + 1 * w) 3 z_199) 0 7).toInt = ((i 0 7) : Int32).toInt := congrArg Int32.toInt (((congrFun (up2_n _ _ (by omega)) _).trans ((congrFun (hfr_196 0 (by omega)) _).trans ((congrFun (hfr_141 0 (by omega)) _).trans (congrFun (hfr_121 0 (by omega)) _)))))
            have hw_230 : ((up2 im_195 (25 + 1 * w) 3 z_199) 0 11).toInt = ((i 0 11) : Int32).toInt := congrArg Int32.toInt (((congrFun (up2_n _ _ (by omega)) _).trans ((congrFun (hfr_196 0 (by omega)) _).trans ((congrFun (hfr_141 0 (by omega)) _).trans (congrFun (hfr_121 0 (by omega)) _)))))
            have hSC : SC i (up2 im_195 (25 + 1 * w) 3 z_199) := ⟨((up2_n _ _ (by omega)).trans ((hfr_196 33 (by omega)).trans ((hfr_141 33 (by omega)).trans (hfr_121 33 (by omega))))), congrArg Int32.toInt (((congrFun (up2_n _ _ (by omega)) _).trans ((congrFun (hfr_196 0 (by omega)) _).trans ((congrFun (hfr_141 0 (by omega)) _).trans (congrFun (hfr_121 0 (by omega)) _))))), ((((tgE.refl i).trans (tgE.of (fun a ha => (hfr_121 a (by omega))))).trans hx2_145).trans (tgE.of (fun a ha => ((up2_n _ _ (by omega)).trans (hfr_196 a (by omega)))))), fun c9 hc9 => ((up2_o _ _ (by omega)).trans ((congrFun (hfr_196 (216 + 1 * c9) (by omega)) 3).trans ((congrFun (hfr_141 (216 + 1 * c9) (by omega)) 3).trans (congrFun (hfr_121 (216 + 1 * c9) (by omega)) 3)))), fun a ha => ((up2_n _ _ (by omega)).trans ((hfr_196 a (by omega)).trans ((hfr_141 a (by omega)).trans (hfr_121 a (by omega)))))⟩
            have e1 : qrem i r = qsum (caseM i r) (i 28) (i 23 4).toInt.toNat - qsum (caseM i r) (i 28) (i 23 5).toInt.toNat := rfl
            have e2 : qrem (up2 im_195 (25 + 1 * w) 3 z_199) r = _ := qrem_eq hO hPC hPQ hSC ((up2_n _ _ (by omega)).trans ((hfr_196 28 (by omega)).trans ((hfr_141 28 (by omega)).trans (hfr_121 28 (by omega))))) (by omega) (rfl : ((up2 im_195 (25 + 1 * w) 3 z_199) 23 5).toInt = _) (by omega)
            rw [show ((up2 im_195 (25 + 1 * w) 3 z_199) 23 5).toInt.toNat = (i 23 5).toInt.toNat by omega] at e2
            have e3 : wrem i r w = wremF i r j_4 1 (i (25 + 1 * w) 3).toInt := wrem_eq hO (SC.refl i) (by omega) (by omega) (by omega) (by omega) (by omega) rfl
            rw [wremF1] at e3
            simp only [ctag, hcN] at e3
            have e4 : wrem (up2 im_195 (25 + 1 * w) 3 z_199) r w = wremF i r j_4 2 ((up2 im_195 (25 + 1 * w) 3 z_199) (25 + 1 * w) 3).toInt := wrem_eq hO hSC (by omega) (by omega) (by omega) (by omega) (by omega) rfl
            rw [wremF2] at e4
            simp only [ctag, hcN] at e4
            rw [show (((up2 im_195 (25 + 1 * w) 3 z_199) (25 + 1 * w) 3).toInt + 1).toNat = r_138.toInt.toNat by omega] at e4
            exact sj_vret hx hb hr hlocks hS ((up2 im_195 (25 + 1 * w) 3 z_199), L, d) ⟨hO_200, (fun a ha => ((up2_n _ _ (by omega)).trans ((hfr_196 a (by omega)).trans ((hfr_141 a (by omega)).trans (hfr_121 a (by omega)))))), (fun a ha => rfl), (PD_fr hO hPD (fun a ha => ((up2_n _ _ (by omega)).trans ((hfr_196 a (by omega)).trans ((hfr_141 a (by omega)).trans (hfr_121 a (by omega))))))), (PY_fr hPY (fun a ha => ((up2_n _ _ (by omega)).trans ((hfr_196 a (by omega)).trans ((hfr_141 a (by omega)).trans (hfr_121 a (by omega))))))), (by dsimp only; refine ⟨?_, ?_, ?_, ?_, ?_, ?_⟩ <;> omega), (by dsimp only; omega), hSC, (Or.inr ⟨j_4, by dsimp only; omega, by dsimp only; omega, fun q => by dsimp only at q ⊢; omega, fun q => by dsimp only at q ⊢; rw [SC.sc hO hSC (by omega) (by omega)]; omega, fun q => by dsimp only at q ⊢; omega⟩), (fun _ q => hwf (by omega) (by dsimp only at q; omega))⟩ hH (sj_Knil hK) (Nat.le_of_ble_eq_true rfl) (Nat.le_of_ble_eq_true rfl) dX11_move_156
        · skip
          have h_231 := s_nle (rfl : r_108.toInt = _) (rfl : (i (25 + 1 * w) 3).toInt = _) c_113
          refine lv_aload_n hx hb dX11_move_97 rfl (lv_at hl 1 rfl) ?_
          refine lv_aload_n hx hb dX11_move_98 rfl (lv_at hl 2 rfl) ?_
          refine lv_aload_n hx hb dX11_move_99 rfl (lv_at hl 0 rfl) ?_
          refine x_callv (va_runV (As := [.ref (g (25 + 1 * w)), .ref (g (216 + 1 * j_4))]) (rest := []) ⟨hx, hb, hml, hown, hts⟩ (k_doStepX l D g ka ad i r L d w j_4 hO hR H.size (by first | omega | decide) hPC hPO hPW (by first | omega | decide) (by first | omega | decide) (by first | omega | decide) (by rw [show (i (25 + 1 * w) 1).toInt.toNat = j_4 by omega]; omega) (by first | omega | decide) (by first | omega | decide) hPD (by first | omega | decide) (fun q => hwf (by omega) (by omega)) hPY) (cwV 2 hts gX11_move_X11_doStep rfl rfl rfl (by decide +kernel) ⟨(Nat.le_of_ble_eq_true rfl), (Nat.le_of_ble_eq_true rfl)⟩) (x_preV (q := (RX11, TX11, 14)) hH hK (q_obj (by decide) (rfl : kd 0 = 11) (by decide)) rfl gxb (gxw hE hS (x_F hH hS hA))) rfl rfl hl.1 rfl (lv_room (Nat.le_of_ble_eq_true rfl)) dX11_move_100 ⟨(Nat.le_of_ble_eq_true rfl), (Nat.le_of_ble_eq_true rfl)⟩) hH hS hA rfl rfl (fun u_237 H locs hw_233 hH hS => ?_)
          obtain ⟨im_234, Lm_235, dm_236⟩ := u_237
          try dsimp only at hw_233
          have hH : sj_H D A (hwc g ka im_234 r Lm_235 dm_236) H := hH
          obtain ⟨hO_239, hfr_238, hfd_240, hk_241, hk_242, he_243, hx2_244⟩ := hw_233
          refine lv_aload_n hx hb dX11_move_103 rfl (lv_at hl 2 rfl) ?_
          refine lv_dup hx hb dX11_move_104 rfl ?_
          have bx_245 : (-1 : Int) ≤ (im_234 (25 + 1 * w) 3).toInt ∧ (im_234 (25 + 1 * w) 3).toInt ≤ 127 := by have h9 := hO_239 (25 + 1 * w) 3; rw [bx_wk hw 3] at h9; exact h9
          refine h_geti (ci := 10) (C := RX10) (F := TX10) (N := 8) hx hb hts in10 hown hK hH (lt_nK (by omega)) (kd_wk hw) (by decide) rfl 3 (by decide) wd4 (fun _ h9 => h9) (by decide) rfl dX11_move_105 ?_
          refine lv_iconst (v := 1) hx hb dX11_move_108 (by decide) ?_
          refine lv_iadd hx hb dX11_move_109 ?_
          obtain ⟨z_246, ez_246, hz_246⟩ := s_add (rfl : (im_234 (25 + 1 * w) 3).toInt = _) (show (1 : Int32).toInt = 1 from rfl) (by omega) (by omega)
          refine sj_i ez_246 ?_
          have hO_247 := okp hO_239 (n := (25 + 1 * w)) (k := 3) (v := z_246) (by rw [bx_wk hw 3]; exact (show (-1 : Int) ≤ (z_246 : Int32).toInt ∧ (z_246 : Int32).toInt ≤ 127 from ⟨by omega, by omega⟩))
          refine h_puti (ty := .int) (ci := 10) (C := RX10) (F := TX10) (N := 8) hx hb hts in10 tyX10 tyX10_ok nmX10 hown hK hH hS (lt_nK (by omega)) (kd_wk hw) (by decide) rfl 3 (by decide) wd4 (fun _ h9 => h9) rfl (by decide +kernel) rfl rfl (by decide) rfl dX11_move_110 (fun H locs hH hS => ?_)
          have hw_248 : ((up2 im_234 (25 + 1 * w) 3 z_246) 23 1).toInt = ((im_234 23 1) : Int32).toInt := congrArg Int32.toInt ((congrFun (up2_n _ _ (by omega)) _))
          have hw_249 : ((up2 im_234 (25 + 1 * w) 3 z_246) 23 2).toInt = ((im_234 23 2) : Int32).toInt := congrArg Int32.toInt ((congrFun (up2_n _ _ (by omega)) _))
          have hw_250 : ((up2 im_234 (25 + 1 * w) 3 z_246) 23 4).toInt = ((im_234 23 4) : Int32).toInt := congrArg Int32.toInt ((congrFun (up2_n _ _ (by omega)) _))
          have hw_251 : ((up2 im_234 (25 + 1 * w) 3 z_246) 23 5).toInt = ((im_234 23 5) : Int32).toInt := congrArg Int32.toInt ((congrFun (up2_n _ _ (by omega)) _))
          have hw_252 : ((up2 im_234 (25 + 1 * w) 3 z_246) 23 6).toInt = ((im_234 23 6) : Int32).toInt := congrArg Int32.toInt ((congrFun (up2_n _ _ (by omega)) _))
          have hw_253 : ((up2 im_234 (25 + 1 * w) 3 z_246) 23 7).toInt = ((im_234 23 7) : Int32).toInt := congrArg Int32.toInt ((congrFun (up2_n _ _ (by omega)) _))
          have hw_254 : ((up2 im_234 (25 + 1 * w) 3 z_246) 23 8).toInt = ((im_234 23 8) : Int32).toInt := congrArg Int32.toInt ((congrFun (up2_n _ _ (by omega)) _))
          have hw_255 : ((up2 im_234 (25 + 1 * w) 3 z_246) 23 10).toInt = ((im_234 23 10) : Int32).toInt := congrArg Int32.toInt ((congrFun (up2_n _ _ (by omega)) _))
          have hw_256 : ((up2 im_234 (25 + 1 * w) 3 z_246) (25 + 1 * w) 1).toInt = ((im_234 (25 + 1 * w) 1) : Int32).toInt := congrArg Int32.toInt ((up2_k _ _ (by decide)))
          have hw_257 : ((up2 im_234 (25 + 1 * w) 3 z_246) (25 + 1 * w) 2).toInt = ((im_234 (25 + 1 * w) 2) : Int32).toInt := congrArg Int32.toInt ((up2_k _ _ (by decide)))
          have hw_258 : ((up2 im_234 (25 + 1 * w) 3 z_246) (25 + 1 * w) 3).toInt = (z_246 : Int32).toInt := congrArg Int32.toInt ((up2_at _ _ _ _))
          have hw_259 : ((up2 im_234 (25 + 1 * w) 3 z_246) (25 + 1 * w) 4).toInt = ((im_234 (25 + 1 * w) 4) : Int32).toInt := congrArg Int32.toInt ((up2_k _ _ (by decide)))
          have hw_260 : ((up2 im_234 (25 + 1 * w) 3 z_246) 13 4).toInt = ((i 13 4) : Int32).toInt := congrArg Int32.toInt (((congrFun (up2_n _ _ (by omega)) _).trans (congrFun (hfr_238 13 (by omega)) _)))
          have hw_261 : ((up2 im_234 (25 + 1 * w) 3 z_246) 0 7).toInt = ((i 0 7) : Int32).toInt := congrArg Int32.toInt (((congrFun (up2_n _ _ (by omega)) _).trans (congrFun (hfr_238 0 (by omega)) _)))
          have hw_262 : ((up2 im_234 (25 + 1 * w) 3 z_246) 0 11).toInt = ((i 0 11) : Int32).toInt := congrArg Int32.toInt (((congrFun (up2_n _ _ (by omega)) _).trans (congrFun (hfr_238 0 (by omega)) _)))
          have hw_263 : ((up2 im_234 (25 + 1 * w) 3 z_246) 23 1).toInt = ((im_234 23 1) : Int32).toInt := congrArg Int32.toInt ((congrFun (up2_n _ _ (by omega)) _))
          have hw_264 : ((up2 im_234 (25 + 1 * w) 3 z_246) 23 2).toInt = ((im_234 23 2) : Int32).toInt := congrArg Int32.toInt ((congrFun (up2_n _ _ (by omega)) _))
          have hw_265 : ((up2 im_234 (25 + 1 * w) 3 z_246) 23 4).toInt = ((im_234 23 4) : Int32).toInt := congrArg Int32.toInt ((congrFun (up2_n _ _ (by omega)) _))
          have hw_266 : ((up2 im_234 (25 + 1 * w) 3 z_246) 23 5).toInt = ((im_234 23 5) : Int32).toInt := congrArg Int32.toInt ((congrFun (up2_n _ _ (by omega)) _))
          have hw_267 : ((up2 im_234 (25 + 1 * w) 3 z_246) 23 6).toInt = ((im_234 23 6) : Int32).toInt := congrArg Int32.toInt ((congrFun (up2_n _ _ (by omega)) _))
          have hw_268 : ((up2 im_234 (25 + 1 * w) 3 z_246) 23 7).toInt = ((im_234 23 7) : Int32).toInt := congrArg Int32.toInt ((congrFun (up2_n _ _ (by omega)) _))
          have hw_269 : ((up2 im_234 (25 + 1 * w) 3 z_246) 23 8).toInt = ((im_234 23 8) : Int32).toInt := congrArg Int32.toInt ((congrFun (up2_n _ _ (by omega)) _))
          have hw_270 : ((up2 im_234 (25 + 1 * w) 3 z_246) 23 10).toInt = ((im_234 23 10) : Int32).toInt := congrArg Int32.toInt ((congrFun (up2_n _ _ (by omega)) _))
          have hw_271 : ((up2 im_234 (25 + 1 * w) 3 z_246) (25 + 1 * w) 1).toInt = ((im_234 (25 + 1 * w) 1) : Int32).toInt := congrArg Int32.toInt ((up2_k _ _ (by decide)))
          have hw_272 : ((up2 im_234 (25 + 1 * w) 3 z_246) (25 + 1 * w) 2).toInt = ((im_234 (25 + 1 * w) 2) : Int32).toInt := congrArg Int32.toInt ((up2_k _ _ (by decide)))
          have hw_273 : ((up2 im_234 (25 + 1 * w) 3 z_246) (25 + 1 * w) 3).toInt = (z_246 : Int32).toInt := congrArg Int32.toInt ((up2_at _ _ _ _))
          have hw_274 : ((up2 im_234 (25 + 1 * w) 3 z_246) (25 + 1 * w) 4).toInt = ((im_234 (25 + 1 * w) 4) : Int32).toInt := congrArg Int32.toInt ((up2_k _ _ (by decide)))
          have hw_275 : ((up2 im_234 (25 + 1 * w) 3 z_246) 13 4).toInt = ((i 13 4) : Int32).toInt := congrArg Int32.toInt (((congrFun (up2_n _ _ (by omega)) _).trans (congrFun (hfr_238 13 (by omega)) _)))
          have hw_276 : ((up2 im_234 (25 + 1 * w) 3 z_246) 0 7).toInt = ((i 0 7) : Int32).toInt := congrArg Int32.toInt (((congrFun (up2_n _ _ (by omega)) _).trans (congrFun (hfr_238 0 (by omega)) _)))
          have hw_277 : ((up2 im_234 (25 + 1 * w) 3 z_246) 0 11).toInt = ((i 0 11) : Int32).toInt := congrArg Int32.toInt (((congrFun (up2_n _ _ (by omega)) _).trans (congrFun (hfr_238 0 (by omega)) _)))
          have hSC : SC i (up2 im_234 (25 + 1 * w) 3 z_246) := ⟨((up2_n _ _ (by omega)).trans (hfr_238 33 (by omega))), congrArg Int32.toInt (((congrFun (up2_n _ _ (by omega)) _).trans (congrFun (hfr_238 0 (by omega)) _))), ((tgE.refl i).trans (tgE.of (fun a ha => ((up2_n _ _ (by omega)).trans (hfr_238 a (by omega)))))), fun c9 hc9 => ((up2_o _ _ (by omega)).trans (congrFun (hfr_238 (216 + 1 * c9) (by omega)) 3)), fun a ha => ((up2_n _ _ (by omega)).trans (hfr_238 a (by omega)))⟩
          have e1 : qrem i r = qsum (caseM i r) (i 28) (i 23 4).toInt.toNat - qsum (caseM i r) (i 28) (i 23 5).toInt.toNat := rfl
          have e2 : qrem (up2 im_234 (25 + 1 * w) 3 z_246) r = _ := qrem_eq hO hPC hPQ hSC ((up2_n _ _ (by omega)).trans (hfr_238 28 (by omega))) (by omega) (rfl : ((up2 im_234 (25 + 1 * w) 3 z_246) 23 5).toInt = _) (by omega)
          rw [show ((up2 im_234 (25 + 1 * w) 3 z_246) 23 5).toInt.toNat = (i 23 5).toInt.toNat by omega] at e2
          have e3 : wrem i r w = wremF i r j_4 1 (i (25 + 1 * w) 3).toInt := wrem_eq hO (SC.refl i) (by omega) (by omega) (by omega) (by omega) (by omega) rfl
          rw [wremF1] at e3
          simp only [ctag, hcN] at e3
          have e4 : wrem (up2 im_234 (25 + 1 * w) 3 z_246) r w = wremF i r j_4 1 ((up2 im_234 (25 + 1 * w) 3 z_246) (25 + 1 * w) 3).toInt := wrem_eq hO hSC (by omega) (by omega) (by omega) (by omega) (by omega) rfl
          rw [wremF1] at e4
          simp only [ctag, hcN] at e4
          exact sj_vret hx hb hr hlocks hS ((up2 im_234 (25 + 1 * w) 3 z_246), Lm_235, dm_236) ⟨hO_247, (fun a ha => ((up2_n _ _ (by omega)).trans (hfr_238 a (by omega)))), (fun a ha => (hfd_240 a (by omega))), (PD_fr hO_239 hk_241 (fun a ha => (up2_n _ _ (by omega)))), (PY_fr hk_242 (fun a ha => (up2_n _ _ (by omega)))), (by dsimp only; refine ⟨?_, ?_, ?_, ?_, ?_, ?_⟩ <;> omega), (by dsimp only; omega), hSC, (Or.inr ⟨j_4, by dsimp only; omega, by dsimp only; omega, fun q => by dsimp only at q ⊢; omega, fun q => by dsimp only at q ⊢; rw [SC.sc hO hSC (by omega) (by omega)]; omega, fun q => by dsimp only at q ⊢; omega⟩), (fun _ q => hx2_244 (by dsimp only at q; omega))⟩ hH (sj_Knil hK) (Nat.le_of_ble_eq_true rfl) (Nat.le_of_ble_eq_true rfl) dX11_move_113
    · skip
      have h_278 := s_eq (rfl : (i (25 + 1 * w) 2).toInt = _) (show (0 : Int32).toInt = 0 from rfl) c_6
      refine lv_aload_n hx hb dX11_move_36 rfl (lv_at hl 1 rfl) ?_
      refine lv_iconst (v := 1) hx hb dX11_move_37 (by decide) ?_
      refine lv_aload_n hx hb dX11_move_38 rfl (lv_at hl 2 rfl) ?_
      have bx_279 : (-1 : Int) ≤ (i (25 + 1 * w) 3).toInt ∧ (i (25 + 1 * w) 3).toInt ≤ 127 := by have h9 := hO (25 + 1 * w) 3; rw [bx_wk hw 3] at h9; exact h9
      refine h_geti (ci := 10) (C := RX10) (F := TX10) (N := 8) hx hb hts in10 hown hK hH (lt_nK (by omega)) (kd_wk hw) (by decide) rfl 3 (by decide) wd4 (fun _ h9 => h9) (by decide) rfl dX11_move_39 ?_
      refine lv_aload_n hx hb dX11_move_42 rfl (lv_at hl 0 rfl) ?_
      have bx_280 : (0 : Int) ≤ (i (216 + 1 * j_4) 3).toInt ∧ (i (216 + 1 * j_4) 3).toInt ≤ 65535 := by have h9 := hO (216 + 1 * j_4) 3; rw [bx_case (by omega) (by omega) 3] at h9; exact h9
      refine h_geti (ci := 0) (C := RX0) (F := TX0) (N := 5) hx hb hts in0 hown hK hH (lt_nK (by omega)) (kd_case (by omega) (by omega)) (by decide) rfl 3 (by decide) wd5 (fun _ h9 => h9) (by decide) rfl dX11_move_43 ?_
      have hl_281 : (1 : Int32).toInt = 1 := rfl
      refine x_calli (va_runV (As := [.int 1, .int (i (25 + 1 * w) 3), .int (i (216 + 1 * j_4) 3)]) (rest := []) ⟨hx, hb, hml, hown, hts⟩ (k_next1 l D g ka ad i r L d (i (25 + 1 * w) 3) (i (216 + 1 * j_4) 3) hO hR s.heap.size hPK (by first | omega | decide) (by first | omega | decide)) (cwV 3 hts gX11_move_X11_nextHook rfl rfl rfl (by decide +kernel) ⟨(Nat.le_of_ble_eq_true rfl), (Nat.le_of_ble_eq_true rfl)⟩) (x_preV (q := (RX11, TX11, 14)) hH hK (q_obj (by decide) (rfl : kd 0 = 11) (by decide)) rfl gxb (gxw hE hS (x_F hH hS hA))) rfl rfl hl.1 rfl (lv_room (Nat.le_of_ble_eq_true rfl)) dX11_move_46 ⟨(Nat.le_of_ble_eq_true rfl), (Nat.le_of_ble_eq_true rfl)⟩) hH hS hA rfl rfl (fun r_282 im_284 H locs hw_283 hH hS => ?_)
      have hH : sj_H D A (hwc g ka im_284 r L d) H := hH
      obtain ⟨hO_286, hfr_285, hr_287, he_288, hx2_289⟩ := hw_283
      have hr_287 : (-1 : Int) ≤ r_282.toInt ∧ r_282.toInt ≤ 7 := hr_287
      refine lv_istore_n (lv' := [(3, .int r_282), (2, .ref (g (216 + 1 * j_4))), (0, .ref (g 0)), (1, .ref (g (25 + 1 * w)))]) hx hb dX11_move_49 rfl hl (by decide) rfl (fun ls hl => ?_)
      refine lv_iload_n hx hb dX11_move_50 rfl (lv_at hl 0 rfl) ?_
      refine lv_if_lt (tgt := 68) hx hb dX11_move_51 (by decide) (fun c_290 => ?_) (fun c_290 => ?_)
      · skip
        have h_291 := s_lt (rfl : r_282.toInt = _) (show (0 : Int32).toInt = 0 from rfl) c_290
        refine lv_aload_n hx hb dX11_move_68 rfl (lv_at hl 3 rfl) ?_
        refine lv_iconst (v := 1) hx hb dX11_move_69 (by decide) ?_
        refine lv_iconst (v := 0) hx hb dX11_move_70 (by decide) ?_
        have hl_292 : (1 : Int32).toInt = 1 := rfl
        have hl_293 : (0 : Int32).toInt = 0 := rfl
        have hw_294 : (im_284 23 1).toInt = ((i 23 1) : Int32).toInt := congrArg Int32.toInt ((congrFun (hfr_285 23 (by omega)) _))
        have hw_295 : (im_284 23 2).toInt = ((i 23 2) : Int32).toInt := congrArg Int32.toInt ((congrFun (hfr_285 23 (by omega)) _))
        have hw_296 : (im_284 23 4).toInt = ((i 23 4) : Int32).toInt := congrArg Int32.toInt ((congrFun (hfr_285 23 (by omega)) _))
        have hw_297 : (im_284 23 5).toInt = ((i 23 5) : Int32).toInt := congrArg Int32.toInt ((congrFun (hfr_285 23 (by omega)) _))
        have hw_298 : (im_284 23 6).toInt = ((i 23 6) : Int32).toInt := congrArg Int32.toInt ((congrFun (hfr_285 23 (by omega)) _))
        have hw_299 : (im_284 23 7).toInt = ((i 23 7) : Int32).toInt := congrArg Int32.toInt ((congrFun (hfr_285 23 (by omega)) _))
        have hw_300 : (im_284 23 8).toInt = ((i 23 8) : Int32).toInt := congrArg Int32.toInt ((congrFun (hfr_285 23 (by omega)) _))
        have hw_301 : (im_284 23 10).toInt = ((i 23 10) : Int32).toInt := congrArg Int32.toInt ((congrFun (hfr_285 23 (by omega)) _))
        have hw_302 : (im_284 (25 + 1 * w) 1).toInt = ((i (25 + 1 * w) 1) : Int32).toInt := congrArg Int32.toInt ((congrFun (hfr_285 (25 + 1 * w) (by omega)) _))
        have hw_303 : (im_284 (25 + 1 * w) 2).toInt = ((i (25 + 1 * w) 2) : Int32).toInt := congrArg Int32.toInt ((congrFun (hfr_285 (25 + 1 * w) (by omega)) _))
        have hw_304 : (im_284 (25 + 1 * w) 3).toInt = ((i (25 + 1 * w) 3) : Int32).toInt := congrArg Int32.toInt ((congrFun (hfr_285 (25 + 1 * w) (by omega)) _))
        have hw_305 : (im_284 (25 + 1 * w) 4).toInt = ((i (25 + 1 * w) 4) : Int32).toInt := congrArg Int32.toInt ((congrFun (hfr_285 (25 + 1 * w) (by omega)) _))
        have hw_306 : (im_284 13 4).toInt = ((i 13 4) : Int32).toInt := congrArg Int32.toInt ((congrFun (hfr_285 13 (by omega)) _))
        have hw_307 : (im_284 0 7).toInt = ((i 0 7) : Int32).toInt := congrArg Int32.toInt ((congrFun (hfr_285 0 (by omega)) _))
        have hw_308 : (im_284 0 11).toInt = ((i 0 11) : Int32).toInt := congrArg Int32.toInt ((congrFun (hfr_285 0 (by omega)) _))
        refine x_callv (va_runV (As := [.int 1, .int 0]) (rest := []) ⟨hx, hb, hml, hown, hts⟩ (k_enter l D g ka ad im_284 r L d w 1 0 hO_286 hR H.size (by first | omega | decide) (by first | omega | decide) (by first | omega | decide) (by first | omega | decide) (by first | omega | decide)) (cwV 2 hts gX11_move_X10_enter rfl rfl rfl (by decide +kernel) ⟨(Nat.le_of_ble_eq_true rfl), (Nat.le_of_ble_eq_true rfl)⟩) (x_preV (q := (RX10, TX10, 8)) hH hK (q_obj (lt_nK (by omega)) (kd_wk hw) (by decide)) rfl gxb (gxw hE hS (x_F hH hS hA))) rfl rfl hl.1 rfl (lv_room (Nat.le_of_ble_eq_true rfl)) dX11_move_71 ⟨(Nat.le_of_ble_eq_true rfl), (Nat.le_of_ble_eq_true rfl)⟩) hH hS hA rfl rfl (fun im_311 H locs hw_310 hH hS => ?_)
        have hH : sj_H D A (hwc g ka im_311 r L d) H := hH
        obtain ⟨hO_313, hfr_312, he_314⟩ := hw_310
        refine lv_aload_n hx hb dX11_move_74 rfl (lv_at hl 3 rfl) ?_
        have bx_315 : (0 : Int) ≤ (im_311 (25 + 1 * w) 2).toInt ∧ (im_311 (25 + 1 * w) 2).toInt ≤ 2 := by have h9 := hO_313 (25 + 1 * w) 2; rw [bx_wk hw 2] at h9; exact h9
        refine h_geti (ci := 10) (C := RX10) (F := TX10) (N := 8) hx hb hts in10 hown hK hH (lt_nK (by omega)) (kd_wk hw) (by decide) rfl 2 (by decide) wd3 (fun _ h9 => h9) (by decide) rfl dX11_move_75 ?_
        refine lv_iconst (v := 1) hx hb dX11_move_78 (by decide) ?_
        refine lv_icmp_ne (tgt := 125) hx hb dX11_move_79 (by decide) (fun c_316 => ?_) (fun c_316 => ?_)
        · skip
          have h_317 := s_ne (rfl : (im_311 (25 + 1 * w) 2).toInt = _) (show (1 : Int32).toInt = 1 from rfl) c_316
          exfalso; omega
        · skip
          have h_318 := s_eq (rfl : (im_311 (25 + 1 * w) 2).toInt = _) (show (1 : Int32).toInt = 1 from rfl) c_316
          refine lv_aload_n hx hb dX11_move_82 rfl (lv_at hl 3 rfl) ?_
          have bx_319 : (-1 : Int) ≤ (im_311 (25 + 1 * w) 3).toInt ∧ (im_311 (25 + 1 * w) 3).toInt ≤ 127 := by have h9 := hO_313 (25 + 1 * w) 3; rw [bx_wk hw 3] at h9; exact h9
          refine h_geti (ci := 10) (C := RX10) (F := TX10) (N := 8) hx hb hts in10 hown hK hH (lt_nK (by omega)) (kd_wk hw) (by decide) rfl 3 (by decide) wd4 (fun _ h9 => h9) (by decide) rfl dX11_move_83 ?_
          refine lv_aload_n hx hb dX11_move_86 rfl (lv_at hl 2 rfl) ?_
          refine h_getr (ci := 11) (C := RX11) (F := TX11) (N := 14) hx hb hts in11 hown hK hH (by decide) (rfl : kd 0 = 11) (by decide) rfl 2 (by decide) wd1 (fun _ h9 => h9) (by decide) rfl (t := 13) (hR 0 2 rfl) (by decide) dX11_move_87 ?_
          refine lv_aload_n hx hb dX11_move_90 rfl (lv_at hl 1 rfl) ?_
          have hw_320 : (im_311 23 1).toInt = ((i 23 1) : Int32).toInt := congrArg Int32.toInt (((congrFun (hfr_312 23 (by omega)) _).trans (congrFun (hfr_285 23 (by omega)) _)))
          have hw_321 : (im_311 23 2).toInt = ((i 23 2) : Int32).toInt := congrArg Int32.toInt (((congrFun (hfr_312 23 (by omega)) _).trans (congrFun (hfr_285 23 (by omega)) _)))
          have hw_322 : (im_311 23 4).toInt = ((i 23 4) : Int32).toInt := congrArg Int32.toInt (((congrFun (hfr_312 23 (by omega)) _).trans (congrFun (hfr_285 23 (by omega)) _)))
          have hw_323 : (im_311 23 5).toInt = ((i 23 5) : Int32).toInt := congrArg Int32.toInt (((congrFun (hfr_312 23 (by omega)) _).trans (congrFun (hfr_285 23 (by omega)) _)))
          have hw_324 : (im_311 23 6).toInt = ((i 23 6) : Int32).toInt := congrArg Int32.toInt (((congrFun (hfr_312 23 (by omega)) _).trans (congrFun (hfr_285 23 (by omega)) _)))
          have hw_325 : (im_311 23 7).toInt = ((i 23 7) : Int32).toInt := congrArg Int32.toInt (((congrFun (hfr_312 23 (by omega)) _).trans (congrFun (hfr_285 23 (by omega)) _)))
          have hw_326 : (im_311 23 8).toInt = ((i 23 8) : Int32).toInt := congrArg Int32.toInt (((congrFun (hfr_312 23 (by omega)) _).trans (congrFun (hfr_285 23 (by omega)) _)))
          have hw_327 : (im_311 23 10).toInt = ((i 23 10) : Int32).toInt := congrArg Int32.toInt (((congrFun (hfr_312 23 (by omega)) _).trans (congrFun (hfr_285 23 (by omega)) _)))
          have hw_328 : (im_311 13 4).toInt = ((i 13 4) : Int32).toInt := congrArg Int32.toInt (((congrFun (hfr_312 13 (by omega)) _).trans (congrFun (hfr_285 13 (by omega)) _)))
          have hw_329 : (im_311 0 7).toInt = ((i 0 7) : Int32).toInt := congrArg Int32.toInt (((congrFun (hfr_312 0 (by omega)) _).trans (congrFun (hfr_285 0 (by omega)) _)))
          have hw_330 : (im_311 0 11).toInt = ((i 0 11) : Int32).toInt := congrArg Int32.toInt (((congrFun (hfr_312 0 (by omega)) _).trans (congrFun (hfr_285 0 (by omega)) _)))
          refine x_calli (va_runV (As := [.ref (g (216 + 1 * j_4))]) (rest := [.int (im_311 (25 + 1 * w) 3)]) ⟨hx, hb, hml, hown, hts⟩ (k_scn l D g ka ad im_311 r L d j_4 hO_313 hR H.size (PC_fr hPC (fun a ha => ((hfr_312 a (by omega)).trans (hfr_285 a (by omega)))) (fun _ _ _ => rfl)) (by first | omega | decide) (by first | omega | decide)) (cwV 1 hts gX11_move_X1_stepCount rfl rfl rfl (by decide +kernel) ⟨(Nat.le_of_ble_eq_true rfl), (Nat.le_of_ble_eq_true rfl)⟩) (x_preV (q := (RX1, TX1, 5)) hH hK (q_obj (by decide) (rfl : kd 13 = 1) (by decide)) rfl gxb (gxw hE hS (x_F hH hS hA))) rfl rfl hl.1 rfl (lv_room (Nat.le_of_ble_eq_true rfl)) dX11_move_91 ⟨(Nat.le_of_ble_eq_true rfl), (Nat.le_of_ble_eq_true rfl)⟩) hH hS hA rfl rfl (fun r_331 _ H locs hw_332 hH hS => ?_)
          obtain ⟨hr_334, he_335⟩ := hw_332
          have hr_334 : (0 : Int) ≤ r_331.toInt ∧ r_331.toInt ≤ 120 := hr_334
          have hsn := scn_fr hO (q := r (216 + 1 * j_4) 0) (by omega) (by omega) (fun a ha => ((hfr_312 a (by omega)).trans (hfr_285 a (by omega))))
          rw [hsn] at he_335
          refine lv_icmp_ge (tgt := 114) hx hb dX11_move_94 (by decide) (fun c_336 => ?_) (fun c_336 => ?_)
          · skip
            have h_337 := s_le (rfl : r_331.toInt = _) (rfl : (im_311 (25 + 1 * w) 3).toInt = _) c_336
            refine lv_aload_n hx hb dX11_move_114 rfl (lv_at hl 3 rfl) ?_
            refine lv_iconst (v := 2) hx hb dX11_move_115 (by decide) ?_
            refine lv_aload_n hx hb dX11_move_116 rfl (lv_at hl 2 rfl) ?_
            have bx_338 : (0 : Int) ≤ (i 0 11).toInt ∧ (i 0 11).toInt ≤ 8 := hO 0 11
            refine h_geti (ci := 11) (C := RX11) (F := TX11) (N := 14) hx hb hts in11 hown hK hH (by decide) (rfl : kd 0 = 11) (by decide) rfl 11 (by decide) wd9 (fun _ h9 => h9) (by decide) rfl dX11_move_117 ?_
            refine sj_i (y := (i 0 11)) ((congrFun (hfr_312 0 (by omega)) _).trans (congrFun (hfr_285 0 (by omega)) _)) ?_
            refine lv_iconst (v := 1) hx hb dX11_move_120 (by decide) ?_
            refine lv_isub hx hb dX11_move_121 ?_
            obtain ⟨z_339, ez_339, hz_339⟩ := s_sub (rfl : (i 0 11).toInt = _) (show (1 : Int32).toInt = 1 from rfl) (by omega) (by omega)
            refine sj_i ez_339 ?_
            have hl_340 : (2 : Int32).toInt = 2 := rfl
            have hw_341 : (im_311 23 1).toInt = ((i 23 1) : Int32).toInt := congrArg Int32.toInt (((congrFun (hfr_312 23 (by omega)) _).trans (congrFun (hfr_285 23 (by omega)) _)))
            have hw_342 : (im_311 23 2).toInt = ((i 23 2) : Int32).toInt := congrArg Int32.toInt (((congrFun (hfr_312 23 (by omega)) _).trans (congrFun (hfr_285 23 (by omega)) _)))
            have hw_343 : (im_311 23 4).toInt = ((i 23 4) : Int32).toInt := congrArg Int32.toInt (((congrFun (hfr_312 23 (by omega)) _).trans (congrFun (hfr_285 23 (by omega)) _)))
            have hw_344 : (im_311 23 5).toInt = ((i 23 5) : Int32).toInt := congrArg Int32.toInt (((congrFun (hfr_312 23 (by omega)) _).trans (congrFun (hfr_285 23 (by omega)) _)))
            have hw_345 : (im_311 23 6).toInt = ((i 23 6) : Int32).toInt := congrArg Int32.toInt (((congrFun (hfr_312 23 (by omega)) _).trans (congrFun (hfr_285 23 (by omega)) _)))
            have hw_346 : (im_311 23 7).toInt = ((i 23 7) : Int32).toInt := congrArg Int32.toInt (((congrFun (hfr_312 23 (by omega)) _).trans (congrFun (hfr_285 23 (by omega)) _)))
            have hw_347 : (im_311 23 8).toInt = ((i 23 8) : Int32).toInt := congrArg Int32.toInt (((congrFun (hfr_312 23 (by omega)) _).trans (congrFun (hfr_285 23 (by omega)) _)))
            have hw_348 : (im_311 23 10).toInt = ((i 23 10) : Int32).toInt := congrArg Int32.toInt (((congrFun (hfr_312 23 (by omega)) _).trans (congrFun (hfr_285 23 (by omega)) _)))
            have hw_349 : (im_311 13 4).toInt = ((i 13 4) : Int32).toInt := congrArg Int32.toInt (((congrFun (hfr_312 13 (by omega)) _).trans (congrFun (hfr_285 13 (by omega)) _)))
            have hw_350 : (im_311 0 7).toInt = ((i 0 7) : Int32).toInt := congrArg Int32.toInt (((congrFun (hfr_312 0 (by omega)) _).trans (congrFun (hfr_285 0 (by omega)) _)))
            have hw_351 : (im_311 0 11).toInt = ((i 0 11) : Int32).toInt := congrArg Int32.toInt (((congrFun (hfr_312 0 (by omega)) _).trans (congrFun (hfr_285 0 (by omega)) _)))
            refine x_callv (va_runV (As := [.int 2, .int z_339]) (rest := []) ⟨hx, hb, hml, hown, hts⟩ (k_enter l D g ka ad im_311 r L d w 2 z_339 hO_313 hR H.size (by first | omega | decide) (by first | omega | decide) (by first | omega | decide) (by first | omega | decide) (by first | omega | decide)) (cwV 2 hts gX11_move_X10_enter rfl rfl rfl (by decide +kernel) ⟨(Nat.le_of_ble_eq_true rfl), (Nat.le_of_ble_eq_true rfl)⟩) (x_preV (q := (RX10, TX10, 8)) hH hK (q_obj (lt_nK (by omega)) (kd_wk hw) (by decide)) rfl gxb (gxw hE hS (x_F hH hS hA))) rfl rfl hl.1 rfl (lv_room (Nat.le_of_ble_eq_true rfl)) dX11_move_122 ⟨(Nat.le_of_ble_eq_true rfl), (Nat.le_of_ble_eq_true rfl)⟩) hH hS hA rfl rfl (fun im_354 H locs hw_353 hH hS => ?_)
            have hH : sj_H D A (hwc g ka im_354 r L d) H := hH
            obtain ⟨hO_356, hfr_355, he_357⟩ := hw_353
            refine lv_aload_n hx hb dX11_move_125 rfl (lv_at hl 2 rfl) ?_
            refine lv_iconst (v := 0) hx hb dX11_move_126 (by decide) ?_
            refine lv_aload_n hx hb dX11_move_127 rfl (lv_at hl 3 rfl) ?_
            have bx_358 : (-1 : Int) ≤ (im_354 (25 + 1 * w) 3).toInt ∧ (im_354 (25 + 1 * w) 3).toInt ≤ 127 := by have h9 := hO_356 (25 + 1 * w) 3; rw [bx_wk hw 3] at h9; exact h9
            refine h_geti (ci := 10) (C := RX10) (F := TX10) (N := 8) hx hb hts in10 hown hK hH (lt_nK (by omega)) (kd_wk hw) (by decide) rfl 3 (by decide) wd4 (fun _ h9 => h9) (by decide) rfl dX11_move_128 ?_
            refine lv_aload_n hx hb dX11_move_131 rfl (lv_at hl 1 rfl) ?_
            refine h_geti (ci := 0) (C := RX0) (F := TX0) (N := 5) hx hb hts in0 hown hK hH (lt_nK (by omega)) (kd_case (by omega) (by omega)) (by decide) rfl 3 (by decide) wd5 (fun _ h9 => h9) (by decide) rfl dX11_move_132 ?_
            refine sj_i (y := (i (216 + 1 * j_4) 3)) ((congrFun (hfr_355 (216 + 1 * j_4) (by omega)) _).trans ((congrFun (hfr_312 (216 + 1 * j_4) (by omega)) _).trans (congrFun (hfr_285 (216 + 1 * j_4) (by omega)) _))) ?_
            have hl_359 : (0 : Int32).toInt = 0 := rfl
            have hw_360 : (im_354 23 1).toInt = ((i 23 1) : Int32).toInt := congrArg Int32.toInt (((congrFun (hfr_355 23 (by omega)) _).trans ((congrFun (hfr_312 23 (by omega)) _).trans (congrFun (hfr_285 23 (by omega)) _))))
            have hw_361 : (im_354 23 2).toInt = ((i 23 2) : Int32).toInt := congrArg Int32.toInt (((congrFun (hfr_355 23 (by omega)) _).trans ((congrFun (hfr_312 23 (by omega)) _).trans (congrFun (hfr_285 23 (by omega)) _))))
            have hw_362 : (im_354 23 4).toInt = ((i 23 4) : Int32).toInt := congrArg Int32.toInt (((congrFun (hfr_355 23 (by omega)) _).trans ((congrFun (hfr_312 23 (by omega)) _).trans (congrFun (hfr_285 23 (by omega)) _))))
            have hw_363 : (im_354 23 5).toInt = ((i 23 5) : Int32).toInt := congrArg Int32.toInt (((congrFun (hfr_355 23 (by omega)) _).trans ((congrFun (hfr_312 23 (by omega)) _).trans (congrFun (hfr_285 23 (by omega)) _))))
            have hw_364 : (im_354 23 6).toInt = ((i 23 6) : Int32).toInt := congrArg Int32.toInt (((congrFun (hfr_355 23 (by omega)) _).trans ((congrFun (hfr_312 23 (by omega)) _).trans (congrFun (hfr_285 23 (by omega)) _))))
            have hw_365 : (im_354 23 7).toInt = ((i 23 7) : Int32).toInt := congrArg Int32.toInt (((congrFun (hfr_355 23 (by omega)) _).trans ((congrFun (hfr_312 23 (by omega)) _).trans (congrFun (hfr_285 23 (by omega)) _))))
            have hw_366 : (im_354 23 8).toInt = ((i 23 8) : Int32).toInt := congrArg Int32.toInt (((congrFun (hfr_355 23 (by omega)) _).trans ((congrFun (hfr_312 23 (by omega)) _).trans (congrFun (hfr_285 23 (by omega)) _))))
            have hw_367 : (im_354 23 10).toInt = ((i 23 10) : Int32).toInt := congrArg Int32.toInt (((congrFun (hfr_355 23 (by omega)) _).trans ((congrFun (hfr_312 23 (by omega)) _).trans (congrFun (hfr_285 23 (by omega)) _))))
            have hw_368 : (im_354 13 4).toInt = ((i 13 4) : Int32).toInt := congrArg Int32.toInt (((congrFun (hfr_355 13 (by omega)) _).trans ((congrFun (hfr_312 13 (by omega)) _).trans (congrFun (hfr_285 13 (by omega)) _))))
            have hw_369 : (im_354 0 7).toInt = ((i 0 7) : Int32).toInt := congrArg Int32.toInt (((congrFun (hfr_355 0 (by omega)) _).trans ((congrFun (hfr_312 0 (by omega)) _).trans (congrFun (hfr_285 0 (by omega)) _))))
            have hw_370 : (im_354 0 11).toInt = ((i 0 11) : Int32).toInt := congrArg Int32.toInt (((congrFun (hfr_355 0 (by omega)) _).trans ((congrFun (hfr_312 0 (by omega)) _).trans (congrFun (hfr_285 0 (by omega)) _))))
            refine x_calli (va_runV (As := [.int 0, .int (im_354 (25 + 1 * w) 3), .int (i (216 + 1 * j_4) 3)]) (rest := []) ⟨hx, hb, hml, hown, hts⟩ (k_next0 l D g ka ad im_354 r L d (im_354 (25 + 1 * w) 3) (i (216 + 1 * j_4) 3) hO_356 hR H.size (PK.same hO hPK (((tgE.refl i).trans hx2_289).trans (tgE.of (fun a ha => ((hfr_355 a (by omega)).trans (hfr_312 a (by omega)))))) (congrArg Int32.toInt (((congrFun (hfr_355 0 (by omega)) _).trans ((congrFun (hfr_312 0 (by omega)) _).trans (congrFun (hfr_285 0 (by omega)) _)))))) (by first | omega | decide) (by first | omega | decide)) (cwV 3 hts gX11_move_X11_nextHook rfl rfl rfl (by decide +kernel) ⟨(Nat.le_of_ble_eq_true rfl), (Nat.le_of_ble_eq_true rfl)⟩) (x_preV (q := (RX11, TX11, 14)) hH hK (q_obj (by decide) (rfl : kd 0 = 11) (by decide)) rfl gxb (gxw hE hS (x_F hH hS hA))) rfl rfl hl.1 rfl (lv_room (Nat.le_of_ble_eq_true rfl)) dX11_move_135 ⟨(Nat.le_of_ble_eq_true rfl), (Nat.le_of_ble_eq_true rfl)⟩) hH hS hA rfl rfl (fun r_371 im_373 H locs hw_372 hH hS => ?_)
            have hH : sj_H D A (hwc g ka im_373 r L d) H := hH
            obtain ⟨hO_375, hfr_374, hr_376, he_377, hx2_378⟩ := hw_372
            have hr_376 : (-1 : Int) ≤ r_371.toInt ∧ r_371.toInt ≤ 7 := hr_376
            rw [hdue_same (((tgE.refl i).trans hx2_289).trans (tgE.of (fun a ha => ((hfr_355 a (by omega)).trans (hfr_312 a (by omega)))))) ((hfr_355 33 (by omega)).trans ((hfr_312 33 (by omega)).trans (hfr_285 33 (by omega)))), show (im_354 0 11).toInt = (i 0 11).toInt from congrArg Int32.toInt (((congrFun (hfr_355 0 (by omega)) _).trans ((congrFun (hfr_312 0 (by omega)) _).trans (congrFun (hfr_285 0 (by omega)) _))))] at he_377
            rw [show ((im_354 (25 + 1 * w) 3).toInt + 1).toNat = (i 0 11).toInt.toNat by omega] at he_377
            refine lv_istore_n (lv' := [(3, .int r_371), (2, .ref (g (216 + 1 * j_4))), (0, .ref (g 0)), (1, .ref (g (25 + 1 * w)))]) hx hb dX11_move_138 rfl hl (by decide) rfl (fun ls hl => ?_)
            refine lv_iload_n hx hb dX11_move_139 rfl (lv_at hl 0 rfl) ?_
            refine lv_if_lt (tgt := 157) hx hb dX11_move_140 (by decide) (fun c_379 => ?_) (fun c_379 => ?_)
            · skip
              have h_380 := s_lt (rfl : r_371.toInt = _) (show (0 : Int32).toInt = 0 from rfl) c_379
              refine lv_aload_n hx hb dX11_move_157 rfl (lv_at hl 1 rfl) ?_
              refine lv_aload_n hx hb dX11_move_158 rfl (lv_at hl 3 rfl) ?_
              have bx_381 : (0 : Int) ≤ (im_354 (25 + 1 * w) 4).toInt ∧ (im_354 (25 + 1 * w) 4).toInt ≤ 5 := by have h9 := hO_356 (25 + 1 * w) 4; rw [bx_wk hw 4] at h9; exact h9
              refine h_geti (ci := 10) (C := RX10) (F := TX10) (N := 8) hx hb hts in10 hown hK hH (lt_nK (by omega)) (kd_wk hw) (by decide) rfl 4 (by decide) wd6 (fun _ h9 => h9) (by decide) rfl dX11_move_159 ?_
              refine sj_i (y := (im_354 (25 + 1 * w) 4)) (congrFun (hfr_374 (25 + 1 * w) (by omega)) _) ?_
              have hO_382 := okp hO_375 (n := (216 + 1 * j_4)) (k := 4) (v := (im_354 (25 + 1 * w) 4)) (by rw [bx_case (by omega) (by omega) 4]; exact (show (-1 : Int) ≤ ((im_354 (25 + 1 * w) 4) : Int32).toInt ∧ ((im_354 (25 + 1 * w) 4) : Int32).toInt ≤ 5 from ⟨by omega, by omega⟩))
              refine h_puti (ty := .int) (ci := 0) (C := RX0) (F := TX0) (N := 5) hx hb hts in0 tyX0 tyX0_ok nmX0 hown hK hH hS (lt_nK (by omega)) (kd_case (by omega) (by omega)) (by decide) rfl 4 (by decide) wd7 (fun _ h9 => h9) rfl (by decide +kernel) rfl rfl (by decide) rfl dX11_move_162 (fun H locs hH hS => ?_)
              refine lv_aload_n hx hb dX11_move_165 rfl (lv_at hl 2 rfl) ?_
              refine h_getr (ci := 11) (C := RX11) (F := TX11) (N := 14) hx hb hts in11 hown hK hH (by decide) (rfl : kd 0 = 11) (by decide) rfl 4 (by decide) wd8 (fun _ h9 => h9) (by decide) rfl (t := 23) (hR 0 4 rfl) (by decide) dX11_move_166 ?_
              refine lv_aload_n hx hb dX11_move_169 rfl (lv_at hl 3 rfl) ?_
              have hw_383 : ((up2 im_373 (216 + 1 * j_4) 4 (im_354 (25 + 1 * w) 4)) 23 1).toInt = ((i 23 1) : Int32).toInt := congrArg Int32.toInt (((congrFun (up2_n _ _ (by omega)) _).trans ((congrFun (hfr_374 23 (by omega)) _).trans ((congrFun (hfr_355 23 (by omega)) _).trans ((congrFun (hfr_312 23 (by omega)) _).trans (congrFun (hfr_285 23 (by omega)) _))))))
              have hw_384 : ((up2 im_373 (216 + 1 * j_4) 4 (im_354 (25 + 1 * w) 4)) 23 2).toInt = ((i 23 2) : Int32).toInt := congrArg Int32.toInt (((congrFun (up2_n _ _ (by omega)) _).trans ((congrFun (hfr_374 23 (by omega)) _).trans ((congrFun (hfr_355 23 (by omega)) _).trans ((congrFun (hfr_312 23 (by omega)) _).trans (congrFun (hfr_285 23 (by omega)) _))))))
              have hw_385 : ((up2 im_373 (216 + 1 * j_4) 4 (im_354 (25 + 1 * w) 4)) 23 4).toInt = ((i 23 4) : Int32).toInt := congrArg Int32.toInt (((congrFun (up2_n _ _ (by omega)) _).trans ((congrFun (hfr_374 23 (by omega)) _).trans ((congrFun (hfr_355 23 (by omega)) _).trans ((congrFun (hfr_312 23 (by omega)) _).trans (congrFun (hfr_285 23 (by omega)) _))))))
              have hw_386 : ((up2 im_373 (216 + 1 * j_4) 4 (im_354 (25 + 1 * w) 4)) 23 5).toInt = ((i 23 5) : Int32).toInt := congrArg Int32.toInt (((congrFun (up2_n _ _ (by omega)) _).trans ((congrFun (hfr_374 23 (by omega)) _).trans ((congrFun (hfr_355 23 (by omega)) _).trans ((congrFun (hfr_312 23 (by omega)) _).trans (congrFun (hfr_285 23 (by omega)) _))))))
              have hw_387 : ((up2 im_373 (216 + 1 * j_4) 4 (im_354 (25 + 1 * w) 4)) 23 6).toInt = ((i 23 6) : Int32).toInt := congrArg Int32.toInt (((congrFun (up2_n _ _ (by omega)) _).trans ((congrFun (hfr_374 23 (by omega)) _).trans ((congrFun (hfr_355 23 (by omega)) _).trans ((congrFun (hfr_312 23 (by omega)) _).trans (congrFun (hfr_285 23 (by omega)) _))))))
              have hw_388 : ((up2 im_373 (216 + 1 * j_4) 4 (im_354 (25 + 1 * w) 4)) 23 7).toInt = ((i 23 7) : Int32).toInt := congrArg Int32.toInt (((congrFun (up2_n _ _ (by omega)) _).trans ((congrFun (hfr_374 23 (by omega)) _).trans ((congrFun (hfr_355 23 (by omega)) _).trans ((congrFun (hfr_312 23 (by omega)) _).trans (congrFun (hfr_285 23 (by omega)) _))))))
              have hw_389 : ((up2 im_373 (216 + 1 * j_4) 4 (im_354 (25 + 1 * w) 4)) 23 8).toInt = ((i 23 8) : Int32).toInt := congrArg Int32.toInt (((congrFun (up2_n _ _ (by omega)) _).trans ((congrFun (hfr_374 23 (by omega)) _).trans ((congrFun (hfr_355 23 (by omega)) _).trans ((congrFun (hfr_312 23 (by omega)) _).trans (congrFun (hfr_285 23 (by omega)) _))))))
              have hw_390 : ((up2 im_373 (216 + 1 * j_4) 4 (im_354 (25 + 1 * w) 4)) 23 10).toInt = ((i 23 10) : Int32).toInt := congrArg Int32.toInt (((congrFun (up2_n _ _ (by omega)) _).trans ((congrFun (hfr_374 23 (by omega)) _).trans ((congrFun (hfr_355 23 (by omega)) _).trans ((congrFun (hfr_312 23 (by omega)) _).trans (congrFun (hfr_285 23 (by omega)) _))))))
              have hw_391 : ((up2 im_373 (216 + 1 * j_4) 4 (im_354 (25 + 1 * w) 4)) (25 + 1 * w) 1).toInt = ((im_354 (25 + 1 * w) 1) : Int32).toInt := congrArg Int32.toInt (((congrFun (up2_n _ _ (by omega)) _).trans (congrFun (hfr_374 (25 + 1 * w) (by omega)) _)))
              have hw_392 : ((up2 im_373 (216 + 1 * j_4) 4 (im_354 (25 + 1 * w) 4)) (25 + 1 * w) 2).toInt = ((im_354 (25 + 1 * w) 2) : Int32).toInt := congrArg Int32.toInt (((congrFun (up2_n _ _ (by omega)) _).trans (congrFun (hfr_374 (25 + 1 * w) (by omega)) _)))
              have hw_393 : ((up2 im_373 (216 + 1 * j_4) 4 (im_354 (25 + 1 * w) 4)) (25 + 1 * w) 3).toInt = ((im_354 (25 + 1 * w) 3) : Int32).toInt := congrArg Int32.toInt (((congrFun (up2_n _ _ (by omega)) _).trans (congrFun (hfr_374 (25 + 1 * w) (by omega)) _)))
              have hw_394 : ((up2 im_373 (216 + 1 * j_4) 4 (im_354 (25 + 1 * w) 4)) (25 + 1 * w) 4).toInt = ((im_354 (25 + 1 * w) 4) : Int32).toInt := congrArg Int32.toInt (((congrFun (up2_n _ _ (by omega)) _).trans (congrFun (hfr_374 (25 + 1 * w) (by omega)) _)))
              have hw_395 : ((up2 im_373 (216 + 1 * j_4) 4 (im_354 (25 + 1 * w) 4)) 13 4).toInt = ((i 13 4) : Int32).toInt := congrArg Int32.toInt (((congrFun (up2_n _ _ (by omega)) _).trans ((congrFun (hfr_374 13 (by omega)) _).trans ((congrFun (hfr_355 13 (by omega)) _).trans ((congrFun (hfr_312 13 (by omega)) _).trans (congrFun (hfr_285 13 (by omega)) _))))))
              have hw_396 : ((up2 im_373 (216 + 1 * j_4) 4 (im_354 (25 + 1 * w) 4)) 0 7).toInt = ((i 0 7) : Int32).toInt := congrArg Int32.toInt (((congrFun (up2_n _ _ (by omega)) _).trans ((congrFun (hfr_374 0 (by omega)) _).trans ((congrFun (hfr_355 0 (by omega)) _).trans ((congrFun (hfr_312 0 (by omega)) _).trans (congrFun (hfr_285 0 (by omega)) _))))))
              have hw_397 : ((up2 im_373 (216 + 1 * j_4) 4 (im_354 (25 + 1 * w) 4)) 0 11).toInt = ((i 0 11) : Int32).toInt := congrArg Int32.toInt (((congrFun (up2_n _ _ (by omega)) _).trans ((congrFun (hfr_374 0 (by omega)) _).trans ((congrFun (hfr_355 0 (by omega)) _).trans ((congrFun (hfr_312 0 (by omega)) _).trans (congrFun (hfr_285 0 (by omega)) _))))))
              refine x_callv (va_runV (As := [.ref (g (25 + 1 * w))]) (rest := []) ⟨hx, hb, hml, hown, hts⟩ (k_finish l D g ka ad (up2 im_373 (216 + 1 * j_4) 4 (im_354 (25 + 1 * w) 4)) r L d w hO_382 hR H.size (by first | omega | decide) (by first | omega | decide) (by first | omega | decide)) (cwV 1 hts gX11_move_X7_finishCase rfl rfl rfl (by decide +kernel) ⟨(Nat.le_of_ble_eq_true rfl), (Nat.le_of_ble_eq_true rfl)⟩) (x_preV (q := (RX7, TX7, 11)) hH hK (q_obj (by decide) (rfl : kd 23 = 7) (by decide)) rfl gxb (gxw hE hS (x_F hH hS hA))) rfl rfl hl.1 rfl (lv_room (Nat.le_of_ble_eq_true rfl)) dX11_move_170 ⟨(Nat.le_of_ble_eq_true rfl), (Nat.le_of_ble_eq_true rfl)⟩) hH hS hA rfl rfl (fun im_400 H locs hw_399 hH hS => ?_)
              have hH : sj_H D A (hwc g ka im_400 r L d) H := hH
              obtain ⟨hO_402, hfr_401, he_403⟩ := hw_399
              have hw_404 : (im_400 13 4).toInt = ((i 13 4) : Int32).toInt := congrArg Int32.toInt (((congrFun (hfr_401 13 (by omega)) _).trans ((congrFun (up2_n _ _ (by omega)) _).trans ((congrFun (hfr_374 13 (by omega)) _).trans ((congrFun (hfr_355 13 (by omega)) _).trans ((congrFun (hfr_312 13 (by omega)) _).trans (congrFun (hfr_285 13 (by omega)) _)))))))
              have hw_405 : (im_400 0 7).toInt = ((i 0 7) : Int32).toInt := congrArg Int32.toInt (((congrFun (hfr_401 0 (by omega)) _).trans ((congrFun (up2_n _ _ (by omega)) _).trans ((congrFun (hfr_374 0 (by omega)) _).trans ((congrFun (hfr_355 0 (by omega)) _).trans ((congrFun (hfr_312 0 (by omega)) _).trans (congrFun (hfr_285 0 (by omega)) _)))))))
              have hw_406 : (im_400 0 11).toInt = ((i 0 11) : Int32).toInt := congrArg Int32.toInt (((congrFun (hfr_401 0 (by omega)) _).trans ((congrFun (up2_n _ _ (by omega)) _).trans ((congrFun (hfr_374 0 (by omega)) _).trans ((congrFun (hfr_355 0 (by omega)) _).trans ((congrFun (hfr_312 0 (by omega)) _).trans (congrFun (hfr_285 0 (by omega)) _)))))))
              have hw_407 : (im_400 13 4).toInt = ((i 13 4) : Int32).toInt := congrArg Int32.toInt (((congrFun (hfr_401 13 (by omega)) _).trans ((congrFun (up2_n _ _ (by omega)) _).trans ((congrFun (hfr_374 13 (by omega)) _).trans ((congrFun (hfr_355 13 (by omega)) _).trans ((congrFun (hfr_312 13 (by omega)) _).trans (congrFun (hfr_285 13 (by omega)) _)))))))
              have hw_408 : (im_400 0 7).toInt = ((i 0 7) : Int32).toInt := congrArg Int32.toInt (((congrFun (hfr_401 0 (by omega)) _).trans ((congrFun (up2_n _ _ (by omega)) _).trans ((congrFun (hfr_374 0 (by omega)) _).trans ((congrFun (hfr_355 0 (by omega)) _).trans ((congrFun (hfr_312 0 (by omega)) _).trans (congrFun (hfr_285 0 (by omega)) _)))))))
              have hw_409 : (im_400 0 11).toInt = ((i 0 11) : Int32).toInt := congrArg Int32.toInt (((congrFun (hfr_401 0 (by omega)) _).trans ((congrFun (up2_n _ _ (by omega)) _).trans ((congrFun (hfr_374 0 (by omega)) _).trans ((congrFun (hfr_355 0 (by omega)) _).trans ((congrFun (hfr_312 0 (by omega)) _).trans (congrFun (hfr_285 0 (by omega)) _)))))))
              have hSC : SC i im_400 := ⟨((hfr_401 33 (by omega)).trans ((up2_n _ _ (by omega)).trans ((hfr_374 33 (by omega)).trans ((hfr_355 33 (by omega)).trans ((hfr_312 33 (by omega)).trans (hfr_285 33 (by omega))))))), congrArg Int32.toInt (((congrFun (hfr_401 0 (by omega)) _).trans ((congrFun (up2_n _ _ (by omega)) _).trans ((congrFun (hfr_374 0 (by omega)) _).trans ((congrFun (hfr_355 0 (by omega)) _).trans ((congrFun (hfr_312 0 (by omega)) _).trans (congrFun (hfr_285 0 (by omega)) _))))))), (((((tgE.refl i).trans hx2_289).trans (tgE.of (fun a ha => ((hfr_355 a (by omega)).trans (hfr_312 a (by omega)))))).trans hx2_378).trans (tgE.of (fun a ha => ((hfr_401 a (by omega)).trans (up2_n _ _ (by omega)))))), fun c9 hc9 => ((congrFun (hfr_401 (216 + 1 * c9) (by omega)) 3).trans ((up2_o _ _ (by omega)).trans ((congrFun (hfr_374 (216 + 1 * c9) (by omega)) 3).trans ((congrFun (hfr_355 (216 + 1 * c9) (by omega)) 3).trans ((congrFun (hfr_312 (216 + 1 * c9) (by omega)) 3).trans (congrFun (hfr_285 (216 + 1 * c9) (by omega)) 3)))))), fun a ha => ((hfr_401 a (by omega)).trans ((up2_n _ _ (by omega)).trans ((hfr_374 a (by omega)).trans ((hfr_355 a (by omega)).trans ((hfr_312 a (by omega)).trans (hfr_285 a (by omega)))))))⟩
              have e1 : qrem i r = qsum (caseM i r) (i 28) (i 23 4).toInt.toNat - qsum (caseM i r) (i 28) (i 23 5).toInt.toNat := rfl
              have e2 : qrem im_400 r = _ := qrem_eq hO hPC hPQ hSC ((hfr_401 28 (by omega)).trans ((up2_n _ _ (by omega)).trans ((hfr_374 28 (by omega)).trans ((hfr_355 28 (by omega)).trans ((hfr_312 28 (by omega)).trans (hfr_285 28 (by omega))))))) (by omega) (rfl : (im_400 23 5).toInt = _) (by omega)
              rw [show (im_400 23 5).toInt.toNat = (i 23 5).toInt.toNat by omega] at e2
              have e3 : wrem i r w = wremF i r j_4 0 (i (25 + 1 * w) 3).toInt := wrem_eq hO (SC.refl i) (by omega) (by omega) (by omega) (by omega) (by omega) rfl
              rw [wremF0] at e3
              simp only [ctag, hcN] at e3
              have e4 : wrem im_400 r w = 0 := wrem_no (by omega)
              exact sj_vret hx hb hr hlocks hS (im_400, L, d) ⟨hO_402, (fun a ha => ((hfr_401 a (by omega)).trans ((up2_n _ _ (by omega)).trans ((hfr_374 a (by omega)).trans ((hfr_355 a (by omega)).trans ((hfr_312 a (by omega)).trans (hfr_285 a (by omega)))))))), (fun a ha => rfl), (PD_fr hO hPD (fun a ha => ((hfr_401 a (by omega)).trans ((up2_n _ _ (by omega)).trans ((hfr_374 a (by omega)).trans ((hfr_355 a (by omega)).trans ((hfr_312 a (by omega)).trans (hfr_285 a (by omega))))))))), (PY_fr hPY (fun a ha => ((hfr_401 a (by omega)).trans ((up2_n _ _ (by omega)).trans ((hfr_374 a (by omega)).trans ((hfr_355 a (by omega)).trans ((hfr_312 a (by omega)).trans (hfr_285 a (by omega))))))))), (by dsimp only; refine ⟨?_, ?_, ?_, ?_, ?_, ?_⟩ <;> omega), (by dsimp only; omega), hSC, (Or.inl (by dsimp only; omega)), (fun q _ => by exfalso; dsimp only at q; omega)⟩ hH (sj_Knil hK) (Nat.le_of_ble_eq_true rfl) (Nat.le_of_ble_eq_true rfl) dX11_move_173
            · skip
              have h_410 := s_nlt (rfl : r_371.toInt = _) (show (0 : Int32).toInt = 0 from rfl) c_379
              refine lv_aload_n hx hb dX11_move_143 rfl (lv_at hl 2 rfl) ?_
              refine lv_aload_n hx hb dX11_move_144 rfl (lv_at hl 3 rfl) ?_
              refine lv_iload_n hx hb dX11_move_145 rfl (lv_at hl 0 rfl) ?_
              have hw_411 : (im_373 23 1).toInt = ((i 23 1) : Int32).toInt := congrArg Int32.toInt (((congrFun (hfr_374 23 (by omega)) _).trans ((congrFun (hfr_355 23 (by omega)) _).trans ((congrFun (hfr_312 23 (by omega)) _).trans (congrFun (hfr_285 23 (by omega)) _)))))
              have hw_412 : (im_373 23 2).toInt = ((i 23 2) : Int32).toInt := congrArg Int32.toInt (((congrFun (hfr_374 23 (by omega)) _).trans ((congrFun (hfr_355 23 (by omega)) _).trans ((congrFun (hfr_312 23 (by omega)) _).trans (congrFun (hfr_285 23 (by omega)) _)))))
              have hw_413 : (im_373 23 4).toInt = ((i 23 4) : Int32).toInt := congrArg Int32.toInt (((congrFun (hfr_374 23 (by omega)) _).trans ((congrFun (hfr_355 23 (by omega)) _).trans ((congrFun (hfr_312 23 (by omega)) _).trans (congrFun (hfr_285 23 (by omega)) _)))))
              have hw_414 : (im_373 23 5).toInt = ((i 23 5) : Int32).toInt := congrArg Int32.toInt (((congrFun (hfr_374 23 (by omega)) _).trans ((congrFun (hfr_355 23 (by omega)) _).trans ((congrFun (hfr_312 23 (by omega)) _).trans (congrFun (hfr_285 23 (by omega)) _)))))
              have hw_415 : (im_373 23 6).toInt = ((i 23 6) : Int32).toInt := congrArg Int32.toInt (((congrFun (hfr_374 23 (by omega)) _).trans ((congrFun (hfr_355 23 (by omega)) _).trans ((congrFun (hfr_312 23 (by omega)) _).trans (congrFun (hfr_285 23 (by omega)) _)))))
              have hw_416 : (im_373 23 7).toInt = ((i 23 7) : Int32).toInt := congrArg Int32.toInt (((congrFun (hfr_374 23 (by omega)) _).trans ((congrFun (hfr_355 23 (by omega)) _).trans ((congrFun (hfr_312 23 (by omega)) _).trans (congrFun (hfr_285 23 (by omega)) _)))))
              have hw_417 : (im_373 23 8).toInt = ((i 23 8) : Int32).toInt := congrArg Int32.toInt (((congrFun (hfr_374 23 (by omega)) _).trans ((congrFun (hfr_355 23 (by omega)) _).trans ((congrFun (hfr_312 23 (by omega)) _).trans (congrFun (hfr_285 23 (by omega)) _)))))
              have hw_418 : (im_373 23 10).toInt = ((i 23 10) : Int32).toInt := congrArg Int32.toInt (((congrFun (hfr_374 23 (by omega)) _).trans ((congrFun (hfr_355 23 (by omega)) _).trans ((congrFun (hfr_312 23 (by omega)) _).trans (congrFun (hfr_285 23 (by omega)) _)))))
              have hw_419 : (im_373 (25 + 1 * w) 1).toInt = ((im_354 (25 + 1 * w) 1) : Int32).toInt := congrArg Int32.toInt ((congrFun (hfr_374 (25 + 1 * w) (by omega)) _))
              have hw_420 : (im_373 (25 + 1 * w) 2).toInt = ((im_354 (25 + 1 * w) 2) : Int32).toInt := congrArg Int32.toInt ((congrFun (hfr_374 (25 + 1 * w) (by omega)) _))
              have hw_421 : (im_373 (25 + 1 * w) 3).toInt = ((im_354 (25 + 1 * w) 3) : Int32).toInt := congrArg Int32.toInt ((congrFun (hfr_374 (25 + 1 * w) (by omega)) _))
              have hw_422 : (im_373 (25 + 1 * w) 4).toInt = ((im_354 (25 + 1 * w) 4) : Int32).toInt := congrArg Int32.toInt ((congrFun (hfr_374 (25 + 1 * w) (by omega)) _))
              have hw_423 : (im_373 13 4).toInt = ((i 13 4) : Int32).toInt := congrArg Int32.toInt (((congrFun (hfr_374 13 (by omega)) _).trans ((congrFun (hfr_355 13 (by omega)) _).trans ((congrFun (hfr_312 13 (by omega)) _).trans (congrFun (hfr_285 13 (by omega)) _)))))
              have hw_424 : (im_373 0 7).toInt = ((i 0 7) : Int32).toInt := congrArg Int32.toInt (((congrFun (hfr_374 0 (by omega)) _).trans ((congrFun (hfr_355 0 (by omega)) _).trans ((congrFun (hfr_312 0 (by omega)) _).trans (congrFun (hfr_285 0 (by omega)) _)))))
              have hw_425 : (im_373 0 11).toInt = ((i 0 11) : Int32).toInt := congrArg Int32.toInt (((congrFun (hfr_374 0 (by omega)) _).trans ((congrFun (hfr_355 0 (by omega)) _).trans ((congrFun (hfr_312 0 (by omega)) _).trans (congrFun (hfr_285 0 (by omega)) _)))))
              refine x_callv (va_runV (As := [.ref (g (25 + 1 * w)), .int r_371]) (rest := []) ⟨hx, hb, hml, hown, hts⟩ (k_doHook l D g ka ad im_373 r L d w r_371 hO_375 hR H.size (by first | omega | decide) (by first | omega | decide) (by first | omega | decide) (PC_fr hPC (fun a ha => ((hfr_374 a (by omega)).trans ((hfr_355 a (by omega)).trans ((hfr_312 a (by omega)).trans (hfr_285 a (by omega)))))) (fun _ _ _ => rfl)) (PO_fr hPO (fun a ha => ((hfr_374 a (by omega)).trans ((hfr_355 a (by omega)).trans ((hfr_312 a (by omega)).trans (hfr_285 a (by omega))))))) (PW_fr hPW (fun a ha => ((hfr_374 a (by omega)).trans ((hfr_355 a (by omega)).trans ((hfr_312 a (by omega)).trans (hfr_285 a (by omega))))))) (by first | omega | decide) (by first | omega | decide) (by first | omega | decide)) (cwV 2 hts gX11_move_X11_doHook rfl rfl rfl (by decide +kernel) ⟨(Nat.le_of_ble_eq_true rfl), (Nat.le_of_ble_eq_true rfl)⟩) (x_preV (q := (RX11, TX11, 14)) hH hK (q_obj (by decide) (rfl : kd 0 = 11) (by decide)) rfl gxb (gxw hE hS (x_F hH hS hA))) rfl rfl hl.1 rfl (lv_room (Nat.le_of_ble_eq_true rfl)) dX11_move_146 ⟨(Nat.le_of_ble_eq_true rfl), (Nat.le_of_ble_eq_true rfl)⟩) hH hS hA rfl rfl (fun im_428 H locs hw_427 hH hS => ?_)
              have hH : sj_H D A (hwc g ka im_428 r L d) H := hH
              obtain ⟨hO_430, hfr_429, he_431⟩ := hw_427
              refine lv_aload_n hx hb dX11_move_149 rfl (lv_at hl 3 rfl) ?_
              refine lv_iload_n hx hb dX11_move_150 rfl (lv_at hl 0 rfl) ?_
              refine lv_iconst (v := 1) hx hb dX11_move_151 (by decide) ?_
              refine lv_isub hx hb dX11_move_152 ?_
              obtain ⟨z_432, ez_432, hz_432⟩ := s_sub (rfl : r_371.toInt = _) (show (1 : Int32).toInt = 1 from rfl) (by omega) (by omega)
              refine sj_i ez_432 ?_
              have hO_433 := okp hO_430 (n := (25 + 1 * w)) (k := 3) (v := z_432) (by rw [bx_wk hw 3]; exact (show (-1 : Int) ≤ (z_432 : Int32).toInt ∧ (z_432 : Int32).toInt ≤ 127 from ⟨by omega, by omega⟩))
              refine h_puti (ty := .int) (ci := 10) (C := RX10) (F := TX10) (N := 8) hx hb hts in10 tyX10 tyX10_ok nmX10 hown hK hH hS (lt_nK (by omega)) (kd_wk hw) (by decide) rfl 3 (by decide) wd4 (fun _ h9 => h9) rfl (by decide +kernel) rfl rfl (by decide) rfl dX11_move_153 (fun H locs hH hS => ?_)
              have hw_434 : ((up2 im_428 (25 + 1 * w) 3 z_432) 23 1).toInt = ((im_428 23 1) : Int32).toInt := congrArg Int32.toInt ((congrFun (up2_n _ _ (by omega)) _))
              have hw_435 : ((up2 im_428 (25 + 1 * w) 3 z_432) 23 2).toInt = ((im_428 23 2) : Int32).toInt := congrArg Int32.toInt ((congrFun (up2_n _ _ (by omega)) _))
              have hw_436 : ((up2 im_428 (25 + 1 * w) 3 z_432) 23 4).toInt = ((im_428 23 4) : Int32).toInt := congrArg Int32.toInt ((congrFun (up2_n _ _ (by omega)) _))
              have hw_437 : ((up2 im_428 (25 + 1 * w) 3 z_432) 23 5).toInt = ((im_428 23 5) : Int32).toInt := congrArg Int32.toInt ((congrFun (up2_n _ _ (by omega)) _))
              have hw_438 : ((up2 im_428 (25 + 1 * w) 3 z_432) 23 6).toInt = ((im_428 23 6) : Int32).toInt := congrArg Int32.toInt ((congrFun (up2_n _ _ (by omega)) _))
              have hw_439 : ((up2 im_428 (25 + 1 * w) 3 z_432) 23 7).toInt = ((im_428 23 7) : Int32).toInt := congrArg Int32.toInt ((congrFun (up2_n _ _ (by omega)) _))
              have hw_440 : ((up2 im_428 (25 + 1 * w) 3 z_432) 23 8).toInt = ((im_428 23 8) : Int32).toInt := congrArg Int32.toInt ((congrFun (up2_n _ _ (by omega)) _))
              have hw_441 : ((up2 im_428 (25 + 1 * w) 3 z_432) 23 10).toInt = ((im_428 23 10) : Int32).toInt := congrArg Int32.toInt ((congrFun (up2_n _ _ (by omega)) _))
              have hw_442 : ((up2 im_428 (25 + 1 * w) 3 z_432) (25 + 1 * w) 1).toInt = ((im_428 (25 + 1 * w) 1) : Int32).toInt := congrArg Int32.toInt ((up2_k _ _ (by decide)))
              have hw_443 : ((up2 im_428 (25 + 1 * w) 3 z_432) (25 + 1 * w) 2).toInt = ((im_428 (25 + 1 * w) 2) : Int32).toInt := congrArg Int32.toInt ((up2_k _ _ (by decide)))
              have hw_444 : ((up2 im_428 (25 + 1 * w) 3 z_432) (25 + 1 * w) 3).toInt = (z_432 : Int32).toInt := congrArg Int32.toInt ((up2_at _ _ _ _))
              have hw_445 : ((up2 im_428 (25 + 1 * w) 3 z_432) (25 + 1 * w) 4).toInt = ((im_428 (25 + 1 * w) 4) : Int32).toInt := congrArg Int32.toInt ((up2_k _ _ (by decide)))
              have hw_446 : ((up2 im_428 (25 + 1 * w) 3 z_432) 13 4).toInt = ((i 13 4) : Int32).toInt := congrArg Int32.toInt (((congrFun (up2_n _ _ (by omega)) _).trans ((congrFun (hfr_429 13 (by omega)) _).trans ((congrFun (hfr_374 13 (by omega)) _).trans ((congrFun (hfr_355 13 (by omega)) _).trans ((congrFun (hfr_312 13 (by omega)) _).trans (congrFun (hfr_285 13 (by omega)) _)))))))
              have hw_447 : ((up2 im_428 (25 + 1 * w) 3 z_432) 0 7).toInt = ((i 0 7) : Int32).toInt := congrArg Int32.toInt (((congrFun (up2_n _ _ (by omega)) _).trans ((congrFun (hfr_429 0 (by omega)) _).trans ((congrFun (hfr_374 0 (by omega)) _).trans ((congrFun (hfr_355 0 (by omega)) _).trans ((congrFun (hfr_312 0 (by omega)) _).trans (congrFun (hfr_285 0 (by omega)) _)))))))
              have hw_448 : ((up2 im_428 (25 + 1 * w) 3 z_432) 0 11).toInt = ((i 0 11) : Int32).toInt := congrArg Int32.toInt (((congrFun (up2_n _ _ (by omega)) _).trans ((congrFun (hfr_429 0 (by omega)) _).trans ((congrFun (hfr_374 0 (by omega)) _).trans ((congrFun (hfr_355 0 (by omega)) _).trans ((congrFun (hfr_312 0 (by omega)) _).trans (congrFun (hfr_285 0 (by omega)) _)))))))
              have hw_449 : ((up2 im_428 (25 + 1 * w) 3 z_432) 23 1).toInt = ((im_428 23 1) : Int32).toInt := congrArg Int32.toInt ((congrFun (up2_n _ _ (by omega)) _))
              have hw_450 : ((up2 im_428 (25 + 1 * w) 3 z_432) 23 2).toInt = ((im_428 23 2) : Int32).toInt := congrArg Int32.toInt ((congrFun (up2_n _ _ (by omega)) _))
              have hw_451 : ((up2 im_428 (25 + 1 * w) 3 z_432) 23 4).toInt = ((im_428 23 4) : Int32).toInt := congrArg Int32.toInt ((congrFun (up2_n _ _ (by omega)) _))
              have hw_452 : ((up2 im_428 (25 + 1 * w) 3 z_432) 23 5).toInt = ((im_428 23 5) : Int32).toInt := congrArg Int32.toInt ((congrFun (up2_n _ _ (by omega)) _))
              have hw_453 : ((up2 im_428 (25 + 1 * w) 3 z_432) 23 6).toInt = ((im_428 23 6) : Int32).toInt := congrArg Int32.toInt ((congrFun (up2_n _ _ (by omega)) _))
              have hw_454 : ((up2 im_428 (25 + 1 * w) 3 z_432) 23 7).toInt = ((im_428 23 7) : Int32).toInt := congrArg Int32.toInt ((congrFun (up2_n _ _ (by omega)) _))
              have hw_455 : ((up2 im_428 (25 + 1 * w) 3 z_432) 23 8).toInt = ((im_428 23 8) : Int32).toInt := congrArg Int32.toInt ((congrFun (up2_n _ _ (by omega)) _))
              have hw_456 : ((up2 im_428 (25 + 1 * w) 3 z_432) 23 10).toInt = ((im_428 23 10) : Int32).toInt := congrArg Int32.toInt ((congrFun (up2_n _ _ (by omega)) _))
              have hw_457 : ((up2 im_428 (25 + 1 * w) 3 z_432) (25 + 1 * w) 1).toInt = ((im_428 (25 + 1 * w) 1) : Int32).toInt := congrArg Int32.toInt ((up2_k _ _ (by decide)))
              have hw_458 : ((up2 im_428 (25 + 1 * w) 3 z_432) (25 + 1 * w) 2).toInt = ((im_428 (25 + 1 * w) 2) : Int32).toInt := congrArg Int32.toInt ((up2_k _ _ (by decide)))
              have hw_459 : ((up2 im_428 (25 + 1 * w) 3 z_432) (25 + 1 * w) 3).toInt = (z_432 : Int32).toInt := congrArg Int32.toInt ((up2_at _ _ _ _))
              have hw_460 : ((up2 im_428 (25 + 1 * w) 3 z_432) (25 + 1 * w) 4).toInt = ((im_428 (25 + 1 * w) 4) : Int32).toInt := congrArg Int32.toInt ((up2_k _ _ (by decide)))
              have hw_461 : ((up2 im_428 (25 + 1 * w) 3 z_432) 13 4).toInt = ((i 13 4) : Int32).toInt := congrArg Int32.toInt (((congrFun (up2_n _ _ (by omega)) _).trans ((congrFun (hfr_429 13 (by omega)) _).trans ((congrFun (hfr_374 13 (by omega)) _).trans ((congrFun (hfr_355 13 (by omega)) _).trans ((congrFun (hfr_312 13 (by omega)) _).trans (congrFun (hfr_285 13 (by omega)) _)))))))
              have hw_462 : ((up2 im_428 (25 + 1 * w) 3 z_432) 0 7).toInt = ((i 0 7) : Int32).toInt := congrArg Int32.toInt (((congrFun (up2_n _ _ (by omega)) _).trans ((congrFun (hfr_429 0 (by omega)) _).trans ((congrFun (hfr_374 0 (by omega)) _).trans ((congrFun (hfr_355 0 (by omega)) _).trans ((congrFun (hfr_312 0 (by omega)) _).trans (congrFun (hfr_285 0 (by omega)) _)))))))
              have hw_463 : ((up2 im_428 (25 + 1 * w) 3 z_432) 0 11).toInt = ((i 0 11) : Int32).toInt := congrArg Int32.toInt (((congrFun (up2_n _ _ (by omega)) _).trans ((congrFun (hfr_429 0 (by omega)) _).trans ((congrFun (hfr_374 0 (by omega)) _).trans ((congrFun (hfr_355 0 (by omega)) _).trans ((congrFun (hfr_312 0 (by omega)) _).trans (congrFun (hfr_285 0 (by omega)) _)))))))
              have hSC : SC i (up2 im_428 (25 + 1 * w) 3 z_432) := ⟨((up2_n _ _ (by omega)).trans ((hfr_429 33 (by omega)).trans ((hfr_374 33 (by omega)).trans ((hfr_355 33 (by omega)).trans ((hfr_312 33 (by omega)).trans (hfr_285 33 (by omega))))))), congrArg Int32.toInt (((congrFun (up2_n _ _ (by omega)) _).trans ((congrFun (hfr_429 0 (by omega)) _).trans ((congrFun (hfr_374 0 (by omega)) _).trans ((congrFun (hfr_355 0 (by omega)) _).trans ((congrFun (hfr_312 0 (by omega)) _).trans (congrFun (hfr_285 0 (by omega)) _))))))), (((((tgE.refl i).trans hx2_289).trans (tgE.of (fun a ha => ((hfr_355 a (by omega)).trans (hfr_312 a (by omega)))))).trans hx2_378).trans (tgE.of (fun a ha => ((up2_n _ _ (by omega)).trans (hfr_429 a (by omega)))))), fun c9 hc9 => ((up2_o _ _ (by omega)).trans ((congrFun (hfr_429 (216 + 1 * c9) (by omega)) 3).trans ((congrFun (hfr_374 (216 + 1 * c9) (by omega)) 3).trans ((congrFun (hfr_355 (216 + 1 * c9) (by omega)) 3).trans ((congrFun (hfr_312 (216 + 1 * c9) (by omega)) 3).trans (congrFun (hfr_285 (216 + 1 * c9) (by omega)) 3)))))), fun a ha => ((up2_n _ _ (by omega)).trans ((hfr_429 a (by omega)).trans ((hfr_374 a (by omega)).trans ((hfr_355 a (by omega)).trans ((hfr_312 a (by omega)).trans (hfr_285 a (by omega)))))))⟩
              have e1 : qrem i r = qsum (caseM i r) (i 28) (i 23 4).toInt.toNat - qsum (caseM i r) (i 28) (i 23 5).toInt.toNat := rfl
              have e2 : qrem (up2 im_428 (25 + 1 * w) 3 z_432) r = _ := qrem_eq hO hPC hPQ hSC ((up2_n _ _ (by omega)).trans ((hfr_429 28 (by omega)).trans ((hfr_374 28 (by omega)).trans ((hfr_355 28 (by omega)).trans ((hfr_312 28 (by omega)).trans (hfr_285 28 (by omega))))))) (by omega) (rfl : ((up2 im_428 (25 + 1 * w) 3 z_432) 23 5).toInt = _) (by omega)
              rw [show ((up2 im_428 (25 + 1 * w) 3 z_432) 23 5).toInt.toNat = (i 23 5).toInt.toNat by omega] at e2
              have e3 : wrem i r w = wremF i r j_4 0 (i (25 + 1 * w) 3).toInt := wrem_eq hO (SC.refl i) (by omega) (by omega) (by omega) (by omega) (by omega) rfl
              rw [wremF0] at e3
              simp only [ctag, hcN] at e3
              have e4 : wrem (up2 im_428 (25 + 1 * w) 3 z_432) r w = wremF i r j_4 2 ((up2 im_428 (25 + 1 * w) 3 z_432) (25 + 1 * w) 3).toInt := wrem_eq hO hSC (by omega) (by omega) (by omega) (by omega) (by omega) rfl
              rw [wremF2] at e4
              simp only [ctag, hcN] at e4
              rw [show (((up2 im_428 (25 + 1 * w) 3 z_432) (25 + 1 * w) 3).toInt + 1).toNat = r_371.toInt.toNat by omega] at e4
              exact sj_vret hx hb hr hlocks hS ((up2 im_428 (25 + 1 * w) 3 z_432), L, d) ⟨hO_433, (fun a ha => ((up2_n _ _ (by omega)).trans ((hfr_429 a (by omega)).trans ((hfr_374 a (by omega)).trans ((hfr_355 a (by omega)).trans ((hfr_312 a (by omega)).trans (hfr_285 a (by omega)))))))), (fun a ha => rfl), (PD_fr hO hPD (fun a ha => ((up2_n _ _ (by omega)).trans ((hfr_429 a (by omega)).trans ((hfr_374 a (by omega)).trans ((hfr_355 a (by omega)).trans ((hfr_312 a (by omega)).trans (hfr_285 a (by omega))))))))), (PY_fr hPY (fun a ha => ((up2_n _ _ (by omega)).trans ((hfr_429 a (by omega)).trans ((hfr_374 a (by omega)).trans ((hfr_355 a (by omega)).trans ((hfr_312 a (by omega)).trans (hfr_285 a (by omega))))))))), (by dsimp only; refine ⟨?_, ?_, ?_, ?_, ?_, ?_⟩ <;> omega), (by dsimp only; omega), hSC, (Or.inr ⟨j_4, by dsimp only; omega, by dsimp only; omega, fun q => by dsimp only at q ⊢; omega, fun q => by dsimp only at q ⊢; rw [SC.sc hO hSC (by omega) (by omega)]; omega, fun q => by dsimp only at q ⊢; omega⟩), (fun _ q => hwf (by omega) (by dsimp only at q; omega))⟩ hH (sj_Knil hK) (Nat.le_of_ble_eq_true rfl) (Nat.le_of_ble_eq_true rfl) dX11_move_156
          · skip
            have h_464 := s_nle (rfl : r_331.toInt = _) (rfl : (im_311 (25 + 1 * w) 3).toInt = _) c_336
            refine lv_aload_n hx hb dX11_move_97 rfl (lv_at hl 2 rfl) ?_
            refine lv_aload_n hx hb dX11_move_98 rfl (lv_at hl 3 rfl) ?_
            refine lv_aload_n hx hb dX11_move_99 rfl (lv_at hl 1 rfl) ?_
            have hw_465 : (im_311 23 1).toInt = ((i 23 1) : Int32).toInt := congrArg Int32.toInt (((congrFun (hfr_312 23 (by omega)) _).trans (congrFun (hfr_285 23 (by omega)) _)))
            have hw_466 : (im_311 23 2).toInt = ((i 23 2) : Int32).toInt := congrArg Int32.toInt (((congrFun (hfr_312 23 (by omega)) _).trans (congrFun (hfr_285 23 (by omega)) _)))
            have hw_467 : (im_311 23 4).toInt = ((i 23 4) : Int32).toInt := congrArg Int32.toInt (((congrFun (hfr_312 23 (by omega)) _).trans (congrFun (hfr_285 23 (by omega)) _)))
            have hw_468 : (im_311 23 5).toInt = ((i 23 5) : Int32).toInt := congrArg Int32.toInt (((congrFun (hfr_312 23 (by omega)) _).trans (congrFun (hfr_285 23 (by omega)) _)))
            have hw_469 : (im_311 23 6).toInt = ((i 23 6) : Int32).toInt := congrArg Int32.toInt (((congrFun (hfr_312 23 (by omega)) _).trans (congrFun (hfr_285 23 (by omega)) _)))
            have hw_470 : (im_311 23 7).toInt = ((i 23 7) : Int32).toInt := congrArg Int32.toInt (((congrFun (hfr_312 23 (by omega)) _).trans (congrFun (hfr_285 23 (by omega)) _)))
            have hw_471 : (im_311 23 8).toInt = ((i 23 8) : Int32).toInt := congrArg Int32.toInt (((congrFun (hfr_312 23 (by omega)) _).trans (congrFun (hfr_285 23 (by omega)) _)))
            have hw_472 : (im_311 23 10).toInt = ((i 23 10) : Int32).toInt := congrArg Int32.toInt (((congrFun (hfr_312 23 (by omega)) _).trans (congrFun (hfr_285 23 (by omega)) _)))
            have hw_473 : (im_311 13 4).toInt = ((i 13 4) : Int32).toInt := congrArg Int32.toInt (((congrFun (hfr_312 13 (by omega)) _).trans (congrFun (hfr_285 13 (by omega)) _)))
            have hw_474 : (im_311 0 7).toInt = ((i 0 7) : Int32).toInt := congrArg Int32.toInt (((congrFun (hfr_312 0 (by omega)) _).trans (congrFun (hfr_285 0 (by omega)) _)))
            have hw_475 : (im_311 0 11).toInt = ((i 0 11) : Int32).toInt := congrArg Int32.toInt (((congrFun (hfr_312 0 (by omega)) _).trans (congrFun (hfr_285 0 (by omega)) _)))
            refine x_callv (va_runV (As := [.ref (g (25 + 1 * w)), .ref (g (216 + 1 * j_4))]) (rest := []) ⟨hx, hb, hml, hown, hts⟩ (k_doStepX l D g ka ad im_311 r L d w j_4 hO_313 hR H.size (by first | omega | decide) (PC_fr hPC (fun a ha => ((hfr_312 a (by omega)).trans (hfr_285 a (by omega)))) (fun _ _ _ => rfl)) (PO_fr hPO (fun a ha => ((hfr_312 a (by omega)).trans (hfr_285 a (by omega))))) (PW_fr hPW (fun a ha => ((hfr_312 a (by omega)).trans (hfr_285 a (by omega))))) (by first | omega | decide) (by first | omega | decide) (by first | omega | decide) (by rw [show (im_311 (25 + 1 * w) 1).toInt.toNat = j_4 by omega, hsn]; omega) (by first | omega | decide) (by first | omega | decide) (PD_fr hO hPD (fun a ha => ((hfr_312 a (by omega)).trans (hfr_285 a (by omega))))) (by first | omega | decide) (fun q => hwf (by omega) (by omega)) (PY_fr hPY (fun a ha => ((hfr_312 a (by omega)).trans (hfr_285 a (by omega)))))) (cwV 2 hts gX11_move_X11_doStep rfl rfl rfl (by decide +kernel) ⟨(Nat.le_of_ble_eq_true rfl), (Nat.le_of_ble_eq_true rfl)⟩) (x_preV (q := (RX11, TX11, 14)) hH hK (q_obj (by decide) (rfl : kd 0 = 11) (by decide)) rfl gxb (gxw hE hS (x_F hH hS hA))) rfl rfl hl.1 rfl (lv_room (Nat.le_of_ble_eq_true rfl)) dX11_move_100 ⟨(Nat.le_of_ble_eq_true rfl), (Nat.le_of_ble_eq_true rfl)⟩) hH hS hA rfl rfl (fun u_481 H locs hw_477 hH hS => ?_)
            obtain ⟨im_478, Lm_479, dm_480⟩ := u_481
            try dsimp only at hw_477
            have hH : sj_H D A (hwc g ka im_478 r Lm_479 dm_480) H := hH
            obtain ⟨hO_483, hfr_482, hfd_484, hk_485, hk_486, he_487, hx2_488⟩ := hw_477
            refine lv_aload_n hx hb dX11_move_103 rfl (lv_at hl 3 rfl) ?_
            refine lv_dup hx hb dX11_move_104 rfl ?_
            have bx_489 : (-1 : Int) ≤ (im_478 (25 + 1 * w) 3).toInt ∧ (im_478 (25 + 1 * w) 3).toInt ≤ 127 := by have h9 := hO_483 (25 + 1 * w) 3; rw [bx_wk hw 3] at h9; exact h9
            refine h_geti (ci := 10) (C := RX10) (F := TX10) (N := 8) hx hb hts in10 hown hK hH (lt_nK (by omega)) (kd_wk hw) (by decide) rfl 3 (by decide) wd4 (fun _ h9 => h9) (by decide) rfl dX11_move_105 ?_
            refine lv_iconst (v := 1) hx hb dX11_move_108 (by decide) ?_
            refine lv_iadd hx hb dX11_move_109 ?_
            obtain ⟨z_490, ez_490, hz_490⟩ := s_add (rfl : (im_478 (25 + 1 * w) 3).toInt = _) (show (1 : Int32).toInt = 1 from rfl) (by omega) (by omega)
            refine sj_i ez_490 ?_
            have hO_491 := okp hO_483 (n := (25 + 1 * w)) (k := 3) (v := z_490) (by rw [bx_wk hw 3]; exact (show (-1 : Int) ≤ (z_490 : Int32).toInt ∧ (z_490 : Int32).toInt ≤ 127 from ⟨by omega, by omega⟩))
            refine h_puti (ty := .int) (ci := 10) (C := RX10) (F := TX10) (N := 8) hx hb hts in10 tyX10 tyX10_ok nmX10 hown hK hH hS (lt_nK (by omega)) (kd_wk hw) (by decide) rfl 3 (by decide) wd4 (fun _ h9 => h9) rfl (by decide +kernel) rfl rfl (by decide) rfl dX11_move_110 (fun H locs hH hS => ?_)
            have hw_492 : ((up2 im_478 (25 + 1 * w) 3 z_490) 23 1).toInt = ((im_478 23 1) : Int32).toInt := congrArg Int32.toInt ((congrFun (up2_n _ _ (by omega)) _))
            have hw_493 : ((up2 im_478 (25 + 1 * w) 3 z_490) 23 2).toInt = ((im_478 23 2) : Int32).toInt := congrArg Int32.toInt ((congrFun (up2_n _ _ (by omega)) _))
            have hw_494 : ((up2 im_478 (25 + 1 * w) 3 z_490) 23 4).toInt = ((im_478 23 4) : Int32).toInt := congrArg Int32.toInt ((congrFun (up2_n _ _ (by omega)) _))
            have hw_495 : ((up2 im_478 (25 + 1 * w) 3 z_490) 23 5).toInt = ((im_478 23 5) : Int32).toInt := congrArg Int32.toInt ((congrFun (up2_n _ _ (by omega)) _))
            have hw_496 : ((up2 im_478 (25 + 1 * w) 3 z_490) 23 6).toInt = ((im_478 23 6) : Int32).toInt := congrArg Int32.toInt ((congrFun (up2_n _ _ (by omega)) _))
            have hw_497 : ((up2 im_478 (25 + 1 * w) 3 z_490) 23 7).toInt = ((im_478 23 7) : Int32).toInt := congrArg Int32.toInt ((congrFun (up2_n _ _ (by omega)) _))
            have hw_498 : ((up2 im_478 (25 + 1 * w) 3 z_490) 23 8).toInt = ((im_478 23 8) : Int32).toInt := congrArg Int32.toInt ((congrFun (up2_n _ _ (by omega)) _))
            have hw_499 : ((up2 im_478 (25 + 1 * w) 3 z_490) 23 10).toInt = ((im_478 23 10) : Int32).toInt := congrArg Int32.toInt ((congrFun (up2_n _ _ (by omega)) _))
            have hw_500 : ((up2 im_478 (25 + 1 * w) 3 z_490) (25 + 1 * w) 1).toInt = ((im_478 (25 + 1 * w) 1) : Int32).toInt := congrArg Int32.toInt ((up2_k _ _ (by decide)))
            have hw_501 : ((up2 im_478 (25 + 1 * w) 3 z_490) (25 + 1 * w) 2).toInt = ((im_478 (25 + 1 * w) 2) : Int32).toInt := congrArg Int32.toInt ((up2_k _ _ (by decide)))
            have hw_502 : ((up2 im_478 (25 + 1 * w) 3 z_490) (25 + 1 * w) 3).toInt = (z_490 : Int32).toInt := congrArg Int32.toInt ((up2_at _ _ _ _))
            have hw_503 : ((up2 im_478 (25 + 1 * w) 3 z_490) (25 + 1 * w) 4).toInt = ((im_478 (25 + 1 * w) 4) : Int32).toInt := congrArg Int32.toInt ((up2_k _ _ (by decide)))
            have hw_504 : ((up2 im_478 (25 + 1 * w) 3 z_490) 13 4).toInt = ((i 13 4) : Int32).toInt := congrArg Int32.toInt (((congrFun (up2_n _ _ (by omega)) _).trans ((congrFun (hfr_482 13 (by omega)) _).trans ((congrFun (hfr_312 13 (by omega)) _).trans (congrFun (hfr_285 13 (by omega)) _)))))
            have hw_505 : ((up2 im_478 (25 + 1 * w) 3 z_490) 0 7).toInt = ((i 0 7) : Int32).toInt := congrArg Int32.toInt (((congrFun (up2_n _ _ (by omega)) _).trans ((congrFun (hfr_482 0 (by omega)) _).trans ((congrFun (hfr_312 0 (by omega)) _).trans (congrFun (hfr_285 0 (by omega)) _)))))
            have hw_506 : ((up2 im_478 (25 + 1 * w) 3 z_490) 0 11).toInt = ((i 0 11) : Int32).toInt := congrArg Int32.toInt (((congrFun (up2_n _ _ (by omega)) _).trans ((congrFun (hfr_482 0 (by omega)) _).trans ((congrFun (hfr_312 0 (by omega)) _).trans (congrFun (hfr_285 0 (by omega)) _)))))
            have hw_507 : ((up2 im_478 (25 + 1 * w) 3 z_490) 23 1).toInt = ((im_478 23 1) : Int32).toInt := congrArg Int32.toInt ((congrFun (up2_n _ _ (by omega)) _))
            have hw_508 : ((up2 im_478 (25 + 1 * w) 3 z_490) 23 2).toInt = ((im_478 23 2) : Int32).toInt := congrArg Int32.toInt ((congrFun (up2_n _ _ (by omega)) _))
            have hw_509 : ((up2 im_478 (25 + 1 * w) 3 z_490) 23 4).toInt = ((im_478 23 4) : Int32).toInt := congrArg Int32.toInt ((congrFun (up2_n _ _ (by omega)) _))
            have hw_510 : ((up2 im_478 (25 + 1 * w) 3 z_490) 23 5).toInt = ((im_478 23 5) : Int32).toInt := congrArg Int32.toInt ((congrFun (up2_n _ _ (by omega)) _))
            have hw_511 : ((up2 im_478 (25 + 1 * w) 3 z_490) 23 6).toInt = ((im_478 23 6) : Int32).toInt := congrArg Int32.toInt ((congrFun (up2_n _ _ (by omega)) _))
            have hw_512 : ((up2 im_478 (25 + 1 * w) 3 z_490) 23 7).toInt = ((im_478 23 7) : Int32).toInt := congrArg Int32.toInt ((congrFun (up2_n _ _ (by omega)) _))
            have hw_513 : ((up2 im_478 (25 + 1 * w) 3 z_490) 23 8).toInt = ((im_478 23 8) : Int32).toInt := congrArg Int32.toInt ((congrFun (up2_n _ _ (by omega)) _))
            have hw_514 : ((up2 im_478 (25 + 1 * w) 3 z_490) 23 10).toInt = ((im_478 23 10) : Int32).toInt := congrArg Int32.toInt ((congrFun (up2_n _ _ (by omega)) _))
            have hw_515 : ((up2 im_478 (25 + 1 * w) 3 z_490) (25 + 1 * w) 1).toInt = ((im_478 (25 + 1 * w) 1) : Int32).toInt := congrArg Int32.toInt ((up2_k _ _ (by decide)))
            have hw_516 : ((up2 im_478 (25 + 1 * w) 3 z_490) (25 + 1 * w) 2).toInt = ((im_478 (25 + 1 * w) 2) : Int32).toInt := congrArg Int32.toInt ((up2_k _ _ (by decide)))
            have hw_517 : ((up2 im_478 (25 + 1 * w) 3 z_490) (25 + 1 * w) 3).toInt = (z_490 : Int32).toInt := congrArg Int32.toInt ((up2_at _ _ _ _))
            have hw_518 : ((up2 im_478 (25 + 1 * w) 3 z_490) (25 + 1 * w) 4).toInt = ((im_478 (25 + 1 * w) 4) : Int32).toInt := congrArg Int32.toInt ((up2_k _ _ (by decide)))
            have hw_519 : ((up2 im_478 (25 + 1 * w) 3 z_490) 13 4).toInt = ((i 13 4) : Int32).toInt := congrArg Int32.toInt (((congrFun (up2_n _ _ (by omega)) _).trans ((congrFun (hfr_482 13 (by omega)) _).trans ((congrFun (hfr_312 13 (by omega)) _).trans (congrFun (hfr_285 13 (by omega)) _)))))
            have hw_520 : ((up2 im_478 (25 + 1 * w) 3 z_490) 0 7).toInt = ((i 0 7) : Int32).toInt := congrArg Int32.toInt (((congrFun (up2_n _ _ (by omega)) _).trans ((congrFun (hfr_482 0 (by omega)) _).trans ((congrFun (hfr_312 0 (by omega)) _).trans (congrFun (hfr_285 0 (by omega)) _)))))
            have hw_521 : ((up2 im_478 (25 + 1 * w) 3 z_490) 0 11).toInt = ((i 0 11) : Int32).toInt := congrArg Int32.toInt (((congrFun (up2_n _ _ (by omega)) _).trans ((congrFun (hfr_482 0 (by omega)) _).trans ((congrFun (hfr_312 0 (by omega)) _).trans (congrFun (hfr_285 0 (by omega)) _)))))
            have hSC : SC i (up2 im_478 (25 + 1 * w) 3 z_490) := ⟨((up2_n _ _ (by omega)).trans ((hfr_482 33 (by omega)).trans ((hfr_312 33 (by omega)).trans (hfr_285 33 (by omega))))), congrArg Int32.toInt (((congrFun (up2_n _ _ (by omega)) _).trans ((congrFun (hfr_482 0 (by omega)) _).trans ((congrFun (hfr_312 0 (by omega)) _).trans (congrFun (hfr_285 0 (by omega)) _))))), (((tgE.refl i).trans hx2_289).trans (tgE.of (fun a ha => ((up2_n _ _ (by omega)).trans ((hfr_482 a (by omega)).trans (hfr_312 a (by omega))))))), fun c9 hc9 => ((up2_o _ _ (by omega)).trans ((congrFun (hfr_482 (216 + 1 * c9) (by omega)) 3).trans ((congrFun (hfr_312 (216 + 1 * c9) (by omega)) 3).trans (congrFun (hfr_285 (216 + 1 * c9) (by omega)) 3)))), fun a ha => ((up2_n _ _ (by omega)).trans ((hfr_482 a (by omega)).trans ((hfr_312 a (by omega)).trans (hfr_285 a (by omega)))))⟩
            have e1 : qrem i r = qsum (caseM i r) (i 28) (i 23 4).toInt.toNat - qsum (caseM i r) (i 28) (i 23 5).toInt.toNat := rfl
            have e2 : qrem (up2 im_478 (25 + 1 * w) 3 z_490) r = _ := qrem_eq hO hPC hPQ hSC ((up2_n _ _ (by omega)).trans ((hfr_482 28 (by omega)).trans ((hfr_312 28 (by omega)).trans (hfr_285 28 (by omega))))) (by omega) (rfl : ((up2 im_478 (25 + 1 * w) 3 z_490) 23 5).toInt = _) (by omega)
            rw [show ((up2 im_478 (25 + 1 * w) 3 z_490) 23 5).toInt.toNat = (i 23 5).toInt.toNat by omega] at e2
            have e3 : wrem i r w = wremF i r j_4 0 (i (25 + 1 * w) 3).toInt := wrem_eq hO (SC.refl i) (by omega) (by omega) (by omega) (by omega) (by omega) rfl
            rw [wremF0] at e3
            simp only [ctag, hcN] at e3
            have e4 : wrem (up2 im_478 (25 + 1 * w) 3 z_490) r w = wremF i r j_4 1 ((up2 im_478 (25 + 1 * w) 3 z_490) (25 + 1 * w) 3).toInt := wrem_eq hO hSC (by omega) (by omega) (by omega) (by omega) (by omega) rfl
            rw [wremF1] at e4
            simp only [ctag, hcN] at e4
            exact sj_vret hx hb hr hlocks hS ((up2 im_478 (25 + 1 * w) 3 z_490), Lm_479, dm_480) ⟨hO_491, (fun a ha => ((up2_n _ _ (by omega)).trans ((hfr_482 a (by omega)).trans ((hfr_312 a (by omega)).trans (hfr_285 a (by omega)))))), (fun a ha => (hfd_484 a (by omega))), (PD_fr hO_483 hk_485 (fun a ha => (up2_n _ _ (by omega)))), (PY_fr hk_486 (fun a ha => (up2_n _ _ (by omega)))), (by dsimp only; refine ⟨?_, ?_, ?_, ?_, ?_, ?_⟩ <;> omega), (by dsimp only; omega), hSC, (Or.inr ⟨j_4, by dsimp only; omega, by dsimp only; omega, fun q => by dsimp only at q ⊢; omega, fun q => by dsimp only at q ⊢; rw [SC.sc hO hSC (by omega) (by omega)]; omega, fun q => by dsimp only at q ⊢; omega⟩), (fun _ q => hx2_488 (by dsimp only at q; omega))⟩ hH (sj_Knil hK) (Nat.le_of_ble_eq_true rfl) (Nat.le_of_ble_eq_true rfl) dX11_move_113
      · skip
        have h_522 := s_nlt (rfl : r_282.toInt = _) (show (0 : Int32).toInt = 0 from rfl) c_290
        refine lv_aload_n hx hb dX11_move_54 rfl (lv_at hl 2 rfl) ?_
        refine lv_aload_n hx hb dX11_move_55 rfl (lv_at hl 3 rfl) ?_
        refine lv_iload_n hx hb dX11_move_56 rfl (lv_at hl 0 rfl) ?_
        have hw_523 : (im_284 23 1).toInt = ((i 23 1) : Int32).toInt := congrArg Int32.toInt ((congrFun (hfr_285 23 (by omega)) _))
        have hw_524 : (im_284 23 2).toInt = ((i 23 2) : Int32).toInt := congrArg Int32.toInt ((congrFun (hfr_285 23 (by omega)) _))
        have hw_525 : (im_284 23 4).toInt = ((i 23 4) : Int32).toInt := congrArg Int32.toInt ((congrFun (hfr_285 23 (by omega)) _))
        have hw_526 : (im_284 23 5).toInt = ((i 23 5) : Int32).toInt := congrArg Int32.toInt ((congrFun (hfr_285 23 (by omega)) _))
        have hw_527 : (im_284 23 6).toInt = ((i 23 6) : Int32).toInt := congrArg Int32.toInt ((congrFun (hfr_285 23 (by omega)) _))
        have hw_528 : (im_284 23 7).toInt = ((i 23 7) : Int32).toInt := congrArg Int32.toInt ((congrFun (hfr_285 23 (by omega)) _))
        have hw_529 : (im_284 23 8).toInt = ((i 23 8) : Int32).toInt := congrArg Int32.toInt ((congrFun (hfr_285 23 (by omega)) _))
        have hw_530 : (im_284 23 10).toInt = ((i 23 10) : Int32).toInt := congrArg Int32.toInt ((congrFun (hfr_285 23 (by omega)) _))
        have hw_531 : (im_284 (25 + 1 * w) 1).toInt = ((i (25 + 1 * w) 1) : Int32).toInt := congrArg Int32.toInt ((congrFun (hfr_285 (25 + 1 * w) (by omega)) _))
        have hw_532 : (im_284 (25 + 1 * w) 2).toInt = ((i (25 + 1 * w) 2) : Int32).toInt := congrArg Int32.toInt ((congrFun (hfr_285 (25 + 1 * w) (by omega)) _))
        have hw_533 : (im_284 (25 + 1 * w) 3).toInt = ((i (25 + 1 * w) 3) : Int32).toInt := congrArg Int32.toInt ((congrFun (hfr_285 (25 + 1 * w) (by omega)) _))
        have hw_534 : (im_284 (25 + 1 * w) 4).toInt = ((i (25 + 1 * w) 4) : Int32).toInt := congrArg Int32.toInt ((congrFun (hfr_285 (25 + 1 * w) (by omega)) _))
        have hw_535 : (im_284 13 4).toInt = ((i 13 4) : Int32).toInt := congrArg Int32.toInt ((congrFun (hfr_285 13 (by omega)) _))
        have hw_536 : (im_284 0 7).toInt = ((i 0 7) : Int32).toInt := congrArg Int32.toInt ((congrFun (hfr_285 0 (by omega)) _))
        have hw_537 : (im_284 0 11).toInt = ((i 0 11) : Int32).toInt := congrArg Int32.toInt ((congrFun (hfr_285 0 (by omega)) _))
        refine x_callv (va_runV (As := [.ref (g (25 + 1 * w)), .int r_282]) (rest := []) ⟨hx, hb, hml, hown, hts⟩ (k_doHook l D g ka ad im_284 r L d w r_282 hO_286 hR H.size (by first | omega | decide) (by first | omega | decide) (by first | omega | decide) (PC_fr hPC (fun a ha => (hfr_285 a (by omega))) (fun _ _ _ => rfl)) (PO_fr hPO (fun a ha => (hfr_285 a (by omega)))) (PW_fr hPW (fun a ha => (hfr_285 a (by omega)))) (by first | omega | decide) (by first | omega | decide) (by first | omega | decide)) (cwV 2 hts gX11_move_X11_doHook rfl rfl rfl (by decide +kernel) ⟨(Nat.le_of_ble_eq_true rfl), (Nat.le_of_ble_eq_true rfl)⟩) (x_preV (q := (RX11, TX11, 14)) hH hK (q_obj (by decide) (rfl : kd 0 = 11) (by decide)) rfl gxb (gxw hE hS (x_F hH hS hA))) rfl rfl hl.1 rfl (lv_room (Nat.le_of_ble_eq_true rfl)) dX11_move_57 ⟨(Nat.le_of_ble_eq_true rfl), (Nat.le_of_ble_eq_true rfl)⟩) hH hS hA rfl rfl (fun im_540 H locs hw_539 hH hS => ?_)
        have hH : sj_H D A (hwc g ka im_540 r L d) H := hH
        obtain ⟨hO_542, hfr_541, he_543⟩ := hw_539
        refine lv_aload_n hx hb dX11_move_60 rfl (lv_at hl 3 rfl) ?_
        refine lv_iload_n hx hb dX11_move_61 rfl (lv_at hl 0 rfl) ?_
        refine lv_iconst (v := 1) hx hb dX11_move_62 (by decide) ?_
        refine lv_iadd hx hb dX11_move_63 ?_
        obtain ⟨z_544, ez_544, hz_544⟩ := s_add (rfl : r_282.toInt = _) (show (1 : Int32).toInt = 1 from rfl) (by omega) (by omega)
        refine sj_i ez_544 ?_
        have hO_545 := okp hO_542 (n := (25 + 1 * w)) (k := 3) (v := z_544) (by rw [bx_wk hw 3]; exact (show (-1 : Int) ≤ (z_544 : Int32).toInt ∧ (z_544 : Int32).toInt ≤ 127 from ⟨by omega, by omega⟩))
        refine h_puti (ty := .int) (ci := 10) (C := RX10) (F := TX10) (N := 8) hx hb hts in10 tyX10 tyX10_ok nmX10 hown hK hH hS (lt_nK (by omega)) (kd_wk hw) (by decide) rfl 3 (by decide) wd4 (fun _ h9 => h9) rfl (by decide +kernel) rfl rfl (by decide) rfl dX11_move_64 (fun H locs hH hS => ?_)
        have hw_546 : ((up2 im_540 (25 + 1 * w) 3 z_544) 23 1).toInt = ((im_540 23 1) : Int32).toInt := congrArg Int32.toInt ((congrFun (up2_n _ _ (by omega)) _))
        have hw_547 : ((up2 im_540 (25 + 1 * w) 3 z_544) 23 2).toInt = ((im_540 23 2) : Int32).toInt := congrArg Int32.toInt ((congrFun (up2_n _ _ (by omega)) _))
        have hw_548 : ((up2 im_540 (25 + 1 * w) 3 z_544) 23 4).toInt = ((im_540 23 4) : Int32).toInt := congrArg Int32.toInt ((congrFun (up2_n _ _ (by omega)) _))
        have hw_549 : ((up2 im_540 (25 + 1 * w) 3 z_544) 23 5).toInt = ((im_540 23 5) : Int32).toInt := congrArg Int32.toInt ((congrFun (up2_n _ _ (by omega)) _))
        have hw_550 : ((up2 im_540 (25 + 1 * w) 3 z_544) 23 6).toInt = ((im_540 23 6) : Int32).toInt := congrArg Int32.toInt ((congrFun (up2_n _ _ (by omega)) _))
        have hw_551 : ((up2 im_540 (25 + 1 * w) 3 z_544) 23 7).toInt = ((im_540 23 7) : Int32).toInt := congrArg Int32.toInt ((congrFun (up2_n _ _ (by omega)) _))
        have hw_552 : ((up2 im_540 (25 + 1 * w) 3 z_544) 23 8).toInt = ((im_540 23 8) : Int32).toInt := congrArg Int32.toInt ((congrFun (up2_n _ _ (by omega)) _))
        have hw_553 : ((up2 im_540 (25 + 1 * w) 3 z_544) 23 10).toInt = ((im_540 23 10) : Int32).toInt := congrArg Int32.toInt ((congrFun (up2_n _ _ (by omega)) _))
        have hw_554 : ((up2 im_540 (25 + 1 * w) 3 z_544) (25 + 1 * w) 1).toInt = ((im_540 (25 + 1 * w) 1) : Int32).toInt := congrArg Int32.toInt ((up2_k _ _ (by decide)))
        have hw_555 : ((up2 im_540 (25 + 1 * w) 3 z_544) (25 + 1 * w) 2).toInt = ((im_540 (25 + 1 * w) 2) : Int32).toInt := congrArg Int32.toInt ((up2_k _ _ (by decide)))
        have hw_556 : ((up2 im_540 (25 + 1 * w) 3 z_544) (25 + 1 * w) 3).toInt = (z_544 : Int32).toInt := congrArg Int32.toInt ((up2_at _ _ _ _))
        have hw_557 : ((up2 im_540 (25 + 1 * w) 3 z_544) (25 + 1 * w) 4).toInt = ((im_540 (25 + 1 * w) 4) : Int32).toInt := congrArg Int32.toInt ((up2_k _ _ (by decide)))
        have hw_558 : ((up2 im_540 (25 + 1 * w) 3 z_544) 13 4).toInt = ((i 13 4) : Int32).toInt := congrArg Int32.toInt (((congrFun (up2_n _ _ (by omega)) _).trans ((congrFun (hfr_541 13 (by omega)) _).trans (congrFun (hfr_285 13 (by omega)) _))))
        have hw_559 : ((up2 im_540 (25 + 1 * w) 3 z_544) 0 7).toInt = ((i 0 7) : Int32).toInt := congrArg Int32.toInt (((congrFun (up2_n _ _ (by omega)) _).trans ((congrFun (hfr_541 0 (by omega)) _).trans (congrFun (hfr_285 0 (by omega)) _))))
        have hw_560 : ((up2 im_540 (25 + 1 * w) 3 z_544) 0 11).toInt = ((i 0 11) : Int32).toInt := congrArg Int32.toInt (((congrFun (up2_n _ _ (by omega)) _).trans ((congrFun (hfr_541 0 (by omega)) _).trans (congrFun (hfr_285 0 (by omega)) _))))
        have hw_561 : ((up2 im_540 (25 + 1 * w) 3 z_544) 23 1).toInt = ((im_540 23 1) : Int32).toInt := congrArg Int32.toInt ((congrFun (up2_n _ _ (by omega)) _))
        have hw_562 : ((up2 im_540 (25 + 1 * w) 3 z_544) 23 2).toInt = ((im_540 23 2) : Int32).toInt := congrArg Int32.toInt ((congrFun (up2_n _ _ (by omega)) _))
        have hw_563 : ((up2 im_540 (25 + 1 * w) 3 z_544) 23 4).toInt = ((im_540 23 4) : Int32).toInt := congrArg Int32.toInt ((congrFun (up2_n _ _ (by omega)) _))
        have hw_564 : ((up2 im_540 (25 + 1 * w) 3 z_544) 23 5).toInt = ((im_540 23 5) : Int32).toInt := congrArg Int32.toInt ((congrFun (up2_n _ _ (by omega)) _))
        have hw_565 : ((up2 im_540 (25 + 1 * w) 3 z_544) 23 6).toInt = ((im_540 23 6) : Int32).toInt := congrArg Int32.toInt ((congrFun (up2_n _ _ (by omega)) _))
        have hw_566 : ((up2 im_540 (25 + 1 * w) 3 z_544) 23 7).toInt = ((im_540 23 7) : Int32).toInt := congrArg Int32.toInt ((congrFun (up2_n _ _ (by omega)) _))
        have hw_567 : ((up2 im_540 (25 + 1 * w) 3 z_544) 23 8).toInt = ((im_540 23 8) : Int32).toInt := congrArg Int32.toInt ((congrFun (up2_n _ _ (by omega)) _))
        have hw_568 : ((up2 im_540 (25 + 1 * w) 3 z_544) 23 10).toInt = ((im_540 23 10) : Int32).toInt := congrArg Int32.toInt ((congrFun (up2_n _ _ (by omega)) _))
        have hw_569 : ((up2 im_540 (25 + 1 * w) 3 z_544) (25 + 1 * w) 1).toInt = ((im_540 (25 + 1 * w) 1) : Int32).toInt := congrArg Int32.toInt ((up2_k _ _ (by decide)))
        have hw_570 : ((up2 im_540 (25 + 1 * w) 3 z_544) (25 + 1 * w) 2).toInt = ((im_540 (25 + 1 * w) 2) : Int32).toInt := congrArg Int32.toInt ((up2_k _ _ (by decide)))
        have hw_571 : ((up2 im_540 (25 + 1 * w) 3 z_544) (25 + 1 * w) 3).toInt = (z_544 : Int32).toInt := congrArg Int32.toInt ((up2_at _ _ _ _))
        have hw_572 : ((up2 im_540 (25 + 1 * w) 3 z_544) (25 + 1 * w) 4).toInt = ((im_540 (25 + 1 * w) 4) : Int32).toInt := congrArg Int32.toInt ((up2_k _ _ (by decide)))
        have hw_573 : ((up2 im_540 (25 + 1 * w) 3 z_544) 13 4).toInt = ((i 13 4) : Int32).toInt := congrArg Int32.toInt (((congrFun (up2_n _ _ (by omega)) _).trans ((congrFun (hfr_541 13 (by omega)) _).trans (congrFun (hfr_285 13 (by omega)) _))))
        have hw_574 : ((up2 im_540 (25 + 1 * w) 3 z_544) 0 7).toInt = ((i 0 7) : Int32).toInt := congrArg Int32.toInt (((congrFun (up2_n _ _ (by omega)) _).trans ((congrFun (hfr_541 0 (by omega)) _).trans (congrFun (hfr_285 0 (by omega)) _))))
        have hw_575 : ((up2 im_540 (25 + 1 * w) 3 z_544) 0 11).toInt = ((i 0 11) : Int32).toInt := congrArg Int32.toInt (((congrFun (up2_n _ _ (by omega)) _).trans ((congrFun (hfr_541 0 (by omega)) _).trans (congrFun (hfr_285 0 (by omega)) _))))
        have hSC : SC i (up2 im_540 (25 + 1 * w) 3 z_544) := ⟨((up2_n _ _ (by omega)).trans ((hfr_541 33 (by omega)).trans (hfr_285 33 (by omega)))), congrArg Int32.toInt (((congrFun (up2_n _ _ (by omega)) _).trans ((congrFun (hfr_541 0 (by omega)) _).trans (congrFun (hfr_285 0 (by omega)) _)))), (((tgE.refl i).trans hx2_289).trans (tgE.of (fun a ha => ((up2_n _ _ (by omega)).trans (hfr_541 a (by omega)))))), fun c9 hc9 => ((up2_o _ _ (by omega)).trans ((congrFun (hfr_541 (216 + 1 * c9) (by omega)) 3).trans (congrFun (hfr_285 (216 + 1 * c9) (by omega)) 3))), fun a ha => ((up2_n _ _ (by omega)).trans ((hfr_541 a (by omega)).trans (hfr_285 a (by omega))))⟩
        have e1 : qrem i r = qsum (caseM i r) (i 28) (i 23 4).toInt.toNat - qsum (caseM i r) (i 28) (i 23 5).toInt.toNat := rfl
        have e2 : qrem (up2 im_540 (25 + 1 * w) 3 z_544) r = _ := qrem_eq hO hPC hPQ hSC ((up2_n _ _ (by omega)).trans ((hfr_541 28 (by omega)).trans (hfr_285 28 (by omega)))) (by omega) (rfl : ((up2 im_540 (25 + 1 * w) 3 z_544) 23 5).toInt = _) (by omega)
        rw [show ((up2 im_540 (25 + 1 * w) 3 z_544) 23 5).toInt.toNat = (i 23 5).toInt.toNat by omega] at e2
        have e3 : wrem i r w = wremF i r j_4 0 (i (25 + 1 * w) 3).toInt := wrem_eq hO (SC.refl i) (by omega) (by omega) (by omega) (by omega) (by omega) rfl
        rw [wremF0] at e3
        simp only [ctag, hcN] at e3
        have e4 : wrem (up2 im_540 (25 + 1 * w) 3 z_544) r w = wremF i r j_4 0 ((up2 im_540 (25 + 1 * w) 3 z_544) (25 + 1 * w) 3).toInt := wrem_eq hO hSC (by omega) (by omega) (by omega) (by omega) (by omega) rfl
        rw [wremF0] at e4
        simp only [ctag, hcN] at e4
        rw [show ((up2 im_540 (25 + 1 * w) 3 z_544) (25 + 1 * w) 3).toInt.toNat = r_282.toInt.toNat + 1 by omega] at e4
        exact sj_vret hx hb hr hlocks hS ((up2 im_540 (25 + 1 * w) 3 z_544), L, d) ⟨hO_545, (fun a ha => ((up2_n _ _ (by omega)).trans ((hfr_541 a (by omega)).trans (hfr_285 a (by omega))))), (fun a ha => rfl), (PD_fr hO hPD (fun a ha => ((up2_n _ _ (by omega)).trans ((hfr_541 a (by omega)).trans (hfr_285 a (by omega)))))), (PY_fr hPY (fun a ha => ((up2_n _ _ (by omega)).trans ((hfr_541 a (by omega)).trans (hfr_285 a (by omega)))))), (by dsimp only; refine ⟨?_, ?_, ?_, ?_, ?_, ?_⟩ <;> omega), (by dsimp only; omega), hSC, (Or.inr ⟨j_4, by dsimp only; omega, by dsimp only; omega, fun q => by dsimp only at q ⊢; omega, fun q => by dsimp only at q ⊢; rw [SC.sc hO hSC (by omega) (by omega)]; omega, fun q => by dsimp only at q ⊢; omega⟩), (fun _ q => hwf (by omega) (by dsimp only at q; omega))⟩ hH (sj_Knil hK) (Nat.le_of_ble_eq_true rfl) (Nat.le_of_ble_eq_true rfl) dX11_move_67
  · skip
    have h_576 := s_nle (show (0 : Int32).toInt = 0 from rfl) (rfl : (i (25 + 1 * w) 1).toInt = _) c_2
    refine lv_aload_n hx hb dX11_move_7 rfl (lv_at hl 0 rfl) ?_
    refine h_getr (ci := 11) (C := RX11) (F := TX11) (N := 14) hx hb hts in11 hown hK hH (by decide) (rfl : kd 0 = 11) (by decide) rfl 4 (by decide) wd8 (fun _ h9 => h9) (by decide) rfl (t := 23) (hR 0 4 rfl) (by decide) dX11_move_8 ?_
    refine lv_aload_n hx hb dX11_move_11 rfl (lv_at hl 1 rfl) ?_
    refine x_callv (va_runV (As := [.ref (g (25 + 1 * w))]) (rest := []) ⟨hx, hb, hml, hown, hts⟩ (k_takeCase l D g ka ad i r L d w hO hR s.heap.size (by first | omega | decide) (by first | omega | decide) (by first | omega | decide)) (cwV 1 hts gX11_move_X7_takeCase rfl rfl rfl (by decide +kernel) ⟨(Nat.le_of_ble_eq_true rfl), (Nat.le_of_ble_eq_true rfl)⟩) (x_preV (q := (RX7, TX7, 11)) hH hK (q_obj (by decide) (rfl : kd 23 = 7) (by decide)) rfl gxb (gxw hE hS (x_F hH hS hA))) rfl rfl hl.1 rfl (lv_room (Nat.le_of_ble_eq_true rfl)) dX11_move_12 ⟨(Nat.le_of_ble_eq_true rfl), (Nat.le_of_ble_eq_true rfl)⟩) hH hS hA rfl rfl (fun u_581 H locs hw_578 hH hS => ?_)
    obtain ⟨im_579, dm_580⟩ := u_581
    try dsimp only at hw_578
    have hH : sj_H D A (hwc g ka im_579 r L dm_580) H := hH
    obtain ⟨hO_583, hfr_582, hfd_584, he_585, hx2_586⟩ := hw_578
    have hw_587 : (im_579 13 4).toInt = ((i 13 4) : Int32).toInt := congrArg Int32.toInt ((congrFun (hfr_582 13 (by omega)) _))
    have hw_588 : (im_579 0 7).toInt = ((i 0 7) : Int32).toInt := congrArg Int32.toInt ((congrFun (hfr_582 0 (by omega)) _))
    have hw_589 : (im_579 0 11).toInt = ((i 0 11) : Int32).toInt := congrArg Int32.toInt ((congrFun (hfr_582 0 (by omega)) _))
    have hw_590 : (im_579 13 4).toInt = ((i 13 4) : Int32).toInt := congrArg Int32.toInt ((congrFun (hfr_582 13 (by omega)) _))
    have hw_591 : (im_579 0 7).toInt = ((i 0 7) : Int32).toInt := congrArg Int32.toInt ((congrFun (hfr_582 0 (by omega)) _))
    have hw_592 : (im_579 0 11).toInt = ((i 0 11) : Int32).toInt := congrArg Int32.toInt ((congrFun (hfr_582 0 (by omega)) _))
    have hSC : SC i im_579 := ⟨(hfr_582 33 (by omega)), congrArg Int32.toInt ((congrFun (hfr_582 0 (by omega)) _)), ((tgE.refl i).trans (tgE.of (fun a ha => (hfr_582 a (by omega))))), fun c9 hc9 => (congrFun (hfr_582 (216 + 1 * c9) (by omega)) 3), fun a ha => (hfr_582 a (by omega))⟩
    have e1 : qrem i r = qsum (caseM i r) (i 28) (i 23 4).toInt.toNat - qsum (caseM i r) (i 28) (i 23 5).toInt.toNat := rfl
    have e2 : qrem im_579 r = _ := qrem_eq hO hPC hPQ hSC (hfr_582 28 (by omega)) (by omega) (rfl : (im_579 23 5).toInt = _) (by omega)
    rw [show (im_579 23 5).toInt.toNat = (i 23 5).toInt.toNat + 1 by omega, qsum_s] at e2
    have hq9 := hPQ (i 23 5).toInt.toNat (by omega)
    have hb13 : (i 13 4).toInt ≤ 24 := (hO 13 4).2
    have hpq := (hPC (i 28 (i 23 5).toInt.toNat).toInt.toNat (by omega)).1 (by omega)
    have e3 : wrem i r w = 0 := wrem_no (by omega)
    have e4 : wrem im_579 r w = wremF i r (i 28 (i 23 5).toInt.toNat).toInt.toNat 0 0 := wrem_eq hO hSC (by omega) (by omega) (by omega) (by omega) (by omega) (by omega)
    rw [wremF0] at e4
    have e5 : caseM i r (i 28 (i 23 5).toInt.toNat).toInt.toNat = 2 + (cnl (hdue i 1 (ctag i (i 28 (i 23 5).toInt.toNat).toInt.toNat)) (hcN i) : Int) + scn i (r (216 + 1 * (i 28 (i 23 5).toInt.toNat).toInt.toNat) 0) + (cnl (hdue i 0 (ctag i (i 28 (i 23 5).toInt.toNat).toInt.toNat)) (hcN i) : Int) := rfl
    have e6 : cnl (hdue i 1 (ctag i (i 28 (i 23 5).toInt.toNat).toInt.toNat)) (0 : Int).toNat = 0 := rfl
    exact sj_vret hx hb hr hlocks hS (im_579, L, dm_580) ⟨hO_583, (fun a ha => (hfr_582 a (by omega))), (fun a ha => (hfd_584 a (by omega))), (PD_fr hO hPD (fun a ha => (hfr_582 a (by omega)))), (PY_fr hPY (fun a ha => (hfr_582 a (by omega)))), (by dsimp only; refine ⟨?_, ?_, ?_, ?_, ?_, ?_⟩ <;> omega), (by dsimp only; omega), hSC, (Or.inr ⟨(i 28 (i 23 5).toInt.toNat).toInt.toNat, by dsimp only; omega, by dsimp only; omega, fun _ => by dsimp only; omega, fun q => by dsimp only at q; omega, fun q => by dsimp only at q; omega⟩), (fun _ _ => hx2_586)⟩ hH (sj_Knil hK) (Nat.le_of_ble_eq_true rfl) (Nat.le_of_ble_eq_true rfl) dX11_move_15
set_option maxHeartbeats 2000000 in
set_option maxRecDepth 100000 in
theorem k_goX (l : Launch) (D : va_G) (g : Nat → Nat) (ka : Nat → ClassId) (ad : Nat → Nat) (i : Nat → Nat → Int32) (r : Nat → Nat → Nat) (L : Nat → Nat → Int64) (d : Nat → Nat → UInt64) (x : Int32) (hO : OkI i) (hR : RS r) (sz : Nat) (hPC : PC i r) (hPO : PO i) (hPW : PW i) (hPD : PD i) (hPK : PK i) (hev : (i 23 10).toInt ≤ 1900000000) (hRI : RI i r d) (hPY : PY i) : Met l yX11_go wsX11_go ({ frames := 126, cells := 0, slots := 0, locals := 4973 }) (va_Pc [.ref (g 0), .int x] (sj_B D (hwc g ka i r L d) (hT ka) sz (gx ad (va_A (hwc g ka i r L d) sz)))) (sj_Qi (S := (Nat → Nat → Int32) × (Nat → Nat → Int64) × (Nat → Nat → UInt64)) D (fun v u => OkI u.1 ∧ (∀ a, ¬ ((25 ≤ a ∧ a < 28) ∨ a = 14 ∨ a = 15 ∨ a = 16 ∨ a = 17 ∨ a = 23 ∨ a = 29 ∨ (216 ≤ a ∧ a < 240) ∨ (240 ≤ a ∧ a < 357) ∨ (357 ≤ a ∧ a < 379)) → u.1 a = i a) ∧ (∀ a, ¬ ((25 ≤ a ∧ a < 28)) → u.2.2 a = d a) ∧ PD u.1 ∧ PY u.1 ∧ ((u.1 23 10).toInt ≤ (i 23 10).toInt + 80 ∧ -1 ≤ v.toInt) ∧ (RI u.1 r u.2.2) ∧ (SC i u.1) ∧ ((((x.toInt < 1 ∨ 40 < x.toInt) ∧ v.toInt = -1 ∧ (u.1 23 8).toInt = (i 23 8).toInt ∧ rest u.1 r = rest i r) ∨ ((1 ≤ x.toInt ∧ x.toInt ≤ 40) ∧ (((i 23 8).toInt = 0 ∧ v.toInt = 0 ∧ (u.1 23 8).toInt = 0) ∨ ((i 23 8).toInt = 1 ∧ ((rest i r ≤ x.toInt ∧ v.toInt = rest i r ∧ (u.1 23 8).toInt = 0) ∨ (x.toInt < rest i r ∧ v.toInt = x.toInt ∧ (u.1 23 8).toInt = 1 ∧ rest u.1 r + x.toInt = rest i r)))))))) (fun u => hwc g ka u.1 r u.2.1 u.2.2) (fun _ => []) (va_A (hwc g ka i r L d) sz)) 0 0 (va_A (hwc g ka i r L d) sz) := by
  refine x_met (Ex := gx ad) (cc := cX11_go) (maxL := 3) (ret := (some .int)) (by decide) rfl (Nat.le_of_ble_eq_true rfl) ?_
  intro p e s m below meth c A ls hx hb hr hml hts hown hlocks hA hS hH hK hE hl
  have hown : s.vm.findClass RX11 = some m.cls := hown
  have in7 : ∀ w ∈ wsX70, w ∈ wsX11_go := (fun _ h => (List.mem_cons_of_mem _ (List.mem_append_left _ (List.mem_append_left _ (List.mem_append_left _ (List.mem_append_left _ (List.mem_append_left _ (List.mem_append_left _ (List.mem_append_left _ (List.mem_append_left _ (List.mem_append_left _ (List.mem_append_left _ (List.mem_append_right _ h)))))))))))))
  have in11 : ∀ w ∈ wsX110, w ∈ wsX11_go := (fun _ h => (List.mem_cons_of_mem _ (List.mem_append_left _ (List.mem_append_left _ (List.mem_append_left _ (List.mem_append_left _ (List.mem_append_left _ (List.mem_append_left _ (List.mem_append_left _ (List.mem_append_left _ (List.mem_append_left _ (List.mem_append_left _ (List.mem_append_left _ (List.mem_append_right _ h))))))))))))))
  have wd0 := hts (.fieldLink RX11 44 "StoryDesk" "run" "LStoryDesk$Run;") (List.mem_cons_of_mem _ (List.mem_append_left _ (List.mem_append_left _ (List.mem_append_left _ (List.mem_append_left _ (List.mem_append_left _ (List.mem_append_left _ (List.mem_append_left _ (List.mem_append_left _ (List.mem_append_left _ (List.mem_append_left _ (List.mem_append_left _ (List.mem_append_left _ (List.mem_append_left _ lm0))))))))))))))
  have wd1 := hts (.fieldLink RX11 88 "StoryDesk$Run" "underWay" "Z") (List.mem_cons_of_mem _ (List.mem_append_left _ (List.mem_append_left _ (List.mem_append_left _ (List.mem_append_left _ (List.mem_append_left _ (List.mem_append_left _ (List.mem_append_left _ (List.mem_append_left _ (List.mem_append_left _ (List.mem_append_left _ (List.mem_append_left _ (List.mem_append_left _ (List.mem_append_left _ lm1))))))))))))))
  have wd2 := hts (.fieldLink RX11 242 "StoryDesk$Run" "workers" "[LStoryDesk$Worker;") (List.mem_cons_of_mem _ (List.mem_append_left _ (List.mem_append_left _ (List.mem_append_left _ (List.mem_append_left _ (List.mem_append_left _ (List.mem_append_left _ (List.mem_append_left _ (List.mem_append_left _ (List.mem_append_left _ (List.mem_append_left _ (List.mem_append_left _ (List.mem_append_left _ (List.mem_append_left _ lm2))))))))))))))
  have hl : lv_has ls 3 [(0, .ref (g 0)), (1, .int x)] := hl
  have hK : va_K D vwCl (hT ka) s := hK
  have hg_1 := s_rng x
  have hzm0 : (0 : Int32).toInt = 0 := rfl
  have hzm1 : (1 : Int32).toInt = 1 := rfl
  have hzm2 : (2 : Int32).toInt = 2 := rfl
  have hzm3 : (3 : Int32).toInt = 3 := rfl
  have hzm4 : (4 : Int32).toInt = 4 := rfl
  have hzm5 : (5 : Int32).toInt = 5 := rfl
  refine lv_iload_n hx hb dX11_go_0 rfl (lv_at hl 1 rfl) ?_
  refine lv_iconst (v := 1) hx hb dX11_go_1 (by decide) ?_
  refine lv_icmp_lt (tgt := 11) hx hb dX11_go_2 (by decide) (fun c_2 => ?_) (fun c_2 => ?_)
  · skip
    have h_3 := s_lt (rfl : x.toInt = _) (show (1 : Int32).toInt = 1 from rfl) c_2
    refine lv_iconst (v := (-1)) hx hb dX11_go_11 (by decide) ?_
    have hlv_4 : ((-1) : Int32).toInt = -1 := rfl
    exact sj_zret hx hb hr hlocks rfl hS (i, L, d) ⟨hO, (fun a ha => rfl), (fun a ha => rfl), hPD, hPY, (by dsimp only; omega), hRI, (SC.refl i), (by dsimp only; omega)⟩ hH (sj_Knil hK) (Nat.le_of_ble_eq_true rfl) (Nat.le_of_ble_eq_true rfl) dX11_go_12
  · skip
    have h_5 := s_nlt (rfl : x.toInt = _) (show (1 : Int32).toInt = 1 from rfl) c_2
    refine lv_iload_n hx hb dX11_go_5 rfl (lv_at hl 1 rfl) ?_
    refine lv_bipush (v := 40) hx hb dX11_go_6 (by decide) ?_
    refine lv_icmp_le (tgt := 13) hx hb dX11_go_8 (by decide) (fun c_6 => ?_) (fun c_6 => ?_)
    · skip
      have h_7 := s_le (rfl : x.toInt = _) (show (40 : Int32).toInt = 40 from rfl) c_6
      refine lv_iconst (v := 0) hx hb dX11_go_13 (by decide) ?_
      refine lv_istore_n (lv' := [(2, .int 0), (0, .ref (g 0)), (1, .int x)]) hx hb dX11_go_14 rfl hl (by decide) rfl (fun ls hl => ?_)
      -- loop at 15
      have lp_8 : ∀ (fuel_lp_8 : Nat) (t : Int32) (j1 : Nat → Nat → Int32) (Lv_9 : Nat → Nat → Int64) (d1 : Nat → Nat → UInt64) (H : Heap) (locs : List Loc) (ls : Array Slot), (40 - t.toInt).toNat < fuel_lp_8 → (0 : Int) ≤ t.toInt ∧ t.toInt ≤ 40 → (j1 23 10).toInt ≤ (i 23 10).toInt + 2 * t.toInt ∧ t.toInt ≤ x.toInt → RI j1 r d1 → SC i j1 → PD j1 → ((((i 23 8).toInt = 0 ∧ t.toInt = 0 ∧ (j1 23 8).toInt = 0) ∨ ((i 23 8).toInt = 1 ∧ ((j1 23 8).toInt = 1 → (rest j1 r + t.toInt = rest i r ∧ 1 ≤ rest j1 r)) ∧ ((j1 23 8).toInt = 0 → t.toInt = rest i r)))) → PY j1 → (∀ a, ¬ ((25 ≤ a ∧ a < 28)) → d1 a = d a) → OkI j1 → (∀ a, ¬ ((25 ≤ a ∧ a < 28) ∨ a = 14 ∨ a = 15 ∨ a = 16 ∨ a = 17 ∨ a = 23 ∨ a = 29 ∨ (216 ≤ a ∧ a < 240) ∨ (240 ≤ a ∧ a < 357) ∨ (357 ≤ a ∧ a < 379)) → j1 a = i a) → lv_has ls 3 [(2, .int t), (0, .ref (g 0)), (1, .int x)] → sj_H D A (hwc g ka j1 r Lv_9 d1) H → va_S A s.heap H locs → W p l e (headSpec wsX11_go ({ frames := 126, cells := 0, slots := 0, locals := 4973 })).room s m ([.ref (g 0), .int x] : List Value).toArray below meth c H locs 0 0 (MQ below (sj_Qi (S := (Nat → Nat → Int32) × (Nat → Nat → Int64) × (Nat → Nat → UInt64)) D (fun v u => OkI u.1 ∧ (∀ a, ¬ ((25 ≤ a ∧ a < 28) ∨ a = 14 ∨ a = 15 ∨ a = 16 ∨ a = 17 ∨ a = 23 ∨ a = 29 ∨ (216 ≤ a ∧ a < 240) ∨ (240 ≤ a ∧ a < 357) ∨ (357 ≤ a ∧ a < 379)) → u.1 a = i a) ∧ (∀ a, ¬ ((25 ≤ a ∧ a < 28)) → u.2.2 a = d a) ∧ PD u.1 ∧ PY u.1 ∧ ((u.1 23 10).toInt ≤ (i 23 10).toInt + 80 ∧ -1 ≤ v.toInt) ∧ (RI u.1 r u.2.2) ∧ (SC i u.1) ∧ ((((x.toInt < 1 ∨ 40 < x.toInt) ∧ v.toInt = -1 ∧ (u.1 23 8).toInt = (i 23 8).toInt ∧ rest u.1 r = rest i r) ∨ ((1 ≤ x.toInt ∧ x.toInt ≤ 40) ∧ (((i 23 8).toInt = 0 ∧ v.toInt = 0 ∧ (u.1 23 8).toInt = 0) ∨ ((i 23 8).toInt = 1 ∧ ((rest i r ≤ x.toInt ∧ v.toInt = rest i r ∧ (u.1 23 8).toInt = 0) ∨ (x.toInt < rest i r ∧ v.toInt = x.toInt ∧ (u.1 23 8).toInt = 1 ∧ rest u.1 r + x.toInt = rest i r)))))))) (fun u => hwc g ka u.1 r u.2.1 u.2.2) (fun _ => []) A) ([.ref (g 0), .int x] : List Value).toArray s 0 0 A) (F0 m 15 ls []) := by
        intro fuel_lp_8
        induction fuel_lp_8 with
        | zero => intros; omega
        | succ fuel_lp_8 ih_lp_8 =>
          intro t j1 Lv_9 d1 H locs ls hm hr_t hi_lp_8_0 hi_lp_8_1 hi_lp_8_2 hi_lp_8_3 hi_lp_8_4 hi_lp_8_5 hfd_d1 hO_j1 hfr_j1 hl hH hS
          have hi_RI := hi_lp_8_1
          have hi_GI := hi_lp_8_4
          have hi_0 := hi_lp_8_0
          have hSC9 := hi_lp_8_2
          have hbu : (0 : Int) ≤ (j1 23 8).toInt ∧ (j1 23 8).toInt ≤ 1 := hO_j1 23 8
          refine lv_iload_n hx hb dX11_go_15 rfl (lv_at hl 0 rfl) ?_
          refine lv_iload_n hx hb dX11_go_16 rfl (lv_at hl 2 rfl) ?_
          refine lv_icmp_ge (tgt := 62) hx hb dX11_go_17 (by decide) (fun c_10 => ?_) (fun c_10 => ?_)
          · skip
            have h_11 := s_le (rfl : x.toInt = _) (rfl : t.toInt = _) c_10
            refine lv_iload_n hx hb dX11_go_62 rfl (lv_at hl 0 rfl) ?_
            have hw_12 : (j1 13 4).toInt = ((i 13 4) : Int32).toInt := congrArg Int32.toInt ((congrFun (hfr_j1 13 (by omega)) _))
            exact sj_zret hx hb hr hlocks rfl hS (j1, Lv_9, d1) ⟨hO_j1, (fun a ha => (hfr_j1 a (by omega))), (fun a ha => (hfd_d1 a (by omega))), hi_lp_8_3, hi_lp_8_5, (by dsimp only; omega), hi_lp_8_1, hi_lp_8_2, (go_out hi_GI (by omega) hi_0.2 (by omega) (by omega) rfl)⟩ hH (sj_Knil hK) (Nat.le_of_ble_eq_true rfl) (Nat.le_of_ble_eq_true rfl) dX11_go_63
          · skip
            have h_13 := s_nle (rfl : x.toInt = _) (rfl : t.toInt = _) c_10
            refine lv_aload_n hx hb dX11_go_20 rfl (lv_at hl 1 rfl) ?_
            refine h_getr (ci := 11) (C := RX11) (F := TX11) (N := 14) hx hb hts in11 hown hK hH (by decide) (rfl : kd 0 = 11) (by decide) rfl 4 (by decide) wd0 (fun _ h9 => h9) (by decide) rfl (t := 23) (hR 0 4 rfl) (by decide) dX11_go_21 ?_
            have bx_14 : (0 : Int) ≤ (j1 23 8).toInt ∧ (j1 23 8).toInt ≤ 1 := hO_j1 23 8
            refine h_geti (ci := 7) (C := RX7) (F := TX7) (N := 11) hx hb hts in7 hown hK hH (by decide) (rfl : kd 23 = 7) (by decide) rfl 8 (by decide) wd1 (fun _ h9 => h9) (by decide) rfl dX11_go_24 ?_
            refine lv_if_eq (tgt := 62) hx hb dX11_go_27 (by decide) (fun c_15 => ?_) (fun c_15 => ?_)
            · skip
              have h_16 := s_eq (rfl : (j1 23 8).toInt = _) (show (0 : Int32).toInt = 0 from rfl) c_15
              refine lv_iload_n hx hb dX11_go_62 rfl (lv_at hl 0 rfl) ?_
              have hw_17 : (j1 13 4).toInt = ((i 13 4) : Int32).toInt := congrArg Int32.toInt ((congrFun (hfr_j1 13 (by omega)) _))
              exact sj_zret hx hb hr hlocks rfl hS (j1, Lv_9, d1) ⟨hO_j1, (fun a ha => (hfr_j1 a (by omega))), (fun a ha => (hfd_d1 a (by omega))), hi_lp_8_3, hi_lp_8_5, (by dsimp only; omega), hi_lp_8_1, hi_lp_8_2, (go_out hi_GI (by omega) hi_0.2 (by omega) (by omega) rfl)⟩ hH (sj_Knil hK) (Nat.le_of_ble_eq_true rfl) (Nat.le_of_ble_eq_true rfl) dX11_go_63
            · skip
              have h_18 := s_ne (rfl : (j1 23 8).toInt = _) (show (0 : Int32).toInt = 0 from rfl) c_15
              refine lv_aload_n hx hb dX11_go_30 rfl (lv_at hl 1 rfl) ?_
              refine lv_aload_n hx hb dX11_go_31 rfl (lv_at hl 1 rfl) ?_
              refine h_getr (ci := 11) (C := RX11) (F := TX11) (N := 14) hx hb hts in11 hown hK hH (by decide) (rfl : kd 0 = 11) (by decide) rfl 4 (by decide) wd0 (fun _ h9 => h9) (by decide) rfl (t := 23) (hR 0 4 rfl) (by decide) dX11_go_32 ?_
              refine h_getr (ci := 7) (C := RX7) (F := TX7) (N := 11) hx hb hts in7 hown hK hH (by decide) (rfl : kd 23 = 7) (by decide) rfl 0 (by decide) wd2 (fun _ h9 => h9) (by decide) rfl (t := 24) (hR 23 0 rfl) (by decide) dX11_go_35 ?_
              refine lv_aload_n hx hb dX11_go_38 rfl (lv_at hl 1 rfl) ?_
              refine h_getr (ci := 11) (C := RX11) (F := TX11) (N := 14) hx hb hts in11 hown hK hH (by decide) (rfl : kd 0 = 11) (by decide) rfl 4 (by decide) wd0 (fun _ h9 => h9) (by decide) rfl (t := 23) (hR 0 4 rfl) (by decide) dX11_go_39 ?_
              have hw_19 : (j1 13 4).toInt = ((i 13 4) : Int32).toInt := congrArg Int32.toInt ((congrFun (hfr_j1 13 (by omega)) _))
              obtain ⟨hu8, hRU, hlt⟩ := hi_RI.resolve_left (fun q => by have := q.1; omega)
              have hms : (40 - (t.toInt + 1)).toNat < fuel_lp_8 := by omega
              have hr9 : (0 : Int) ≤ t.toInt + 1 ∧ t.toInt + 1 ≤ 40 := by omega
              have hr8 : t.toInt + 1 ≤ x.toInt := by omega
              have hR1 := hRU.1
              have hb4 : (0 : Int) ≤ (j1 23 4).toInt ∧ (j1 23 4).toInt ≤ 24 := hO_j1 23 4
              have ha0 := act1_or j1 0
              have hs0 : (j1 25 1).toInt = (j1 (25 + 1 * 0) 1).toInt := rfl
              have hz0 := hRU.2.2.2.2 0 (by omega)
              have ha1 := act1_or j1 1
              have hs1 : (j1 26 1).toInt = (j1 (25 + 1 * 1) 1).toInt := rfl
              have hz1 := hRU.2.2.2.2 1 (by omega)
              have ha2 := act1_or j1 2
              have hs2 : (j1 27 1).toInt = (j1 (25 + 1 * 2) 1).toInt := rfl
              have hz2 := hRU.2.2.2.2 2 (by omega)
              have hact : act j1 = act1 j1 0 + act1 j1 1 + act1 j1 2 := rfl
              refine x_calli (va_runV (As := []) (rest := [.ref (g 24), .ref (g 0)]) ⟨hx, hb, hml, hown, hts⟩ (k_takeTurn l D g ka ad j1 r Lv_9 d1  hO_j1 hR H.size (by first | omega | decide) (by first | omega | decide)) (cwV 0 hts gX11_go_X7_takeTurn rfl rfl rfl (by decide +kernel) ⟨(Nat.le_of_ble_eq_true rfl), (Nat.le_of_ble_eq_true rfl)⟩) (x_preV (q := (RX7, TX7, 11)) hH hK (q_obj (by decide) (rfl : kd 23 = 7) (by decide)) rfl gxb (gxw hE hS (x_F hH hS hA))) rfl rfl hl.1 rfl (lv_room (Nat.le_of_ble_eq_true rfl)) dX11_go_42 ⟨(Nat.le_of_ble_eq_true rfl), (Nat.le_of_ble_eq_true rfl)⟩) hH hS hA rfl rfl (fun r_20 im_22 H locs hw_21 hH hS => ?_)
              have hH : sj_H D A (hwc g ka im_22 r Lv_9 d1) H := hH
              obtain ⟨hO_24, hfr_23, hr_25, he_26⟩ := hw_21
              have hr_25 : (0 : Int) ≤ r_20.toInt ∧ r_20.toInt ≤ 2 := hr_25
              obtain ⟨j_27, ej_27, hj_27⟩ : ∃ j : Nat, (r_20).toNatClampNeg = j ∧ (j : Int) = r_20.toInt := ⟨_, rfl, by rw [s_cl (rfl : r_20.toInt = _)]; omega⟩
              have lj_27 : j_27 < 3 := by omega
              refine h_qald hx hb hK hH (by decide) (rfl : kd 24 = 28) (by decide) rfl (s_vin (N := 3) (rfl : r_20.toInt = _) (rfl : ln 24 = 3) (by omega) (by omega)) (t := (25 + 1 * j_27)) (by rw [ej_27]; exact (hR 24 j_27 rfl)) (lt_nK (by omega)) dX11_go_45 ?_
              have hw_28 : (im_22 13 4).toInt = ((i 13 4) : Int32).toInt := congrArg Int32.toInt (((congrFun (hfr_23 13 (by omega)) _).trans (congrFun (hfr_j1 13 (by omega)) _)))
              have hPCj : PC j1 r := (PC_fr hPC (fun a ha => (hfr_j1 a (by omega))) (fun _ _ _ => rfl))
              have hSC1 : SC j1 im_22 := ⟨(hfr_23 33 (by omega)), congrArg Int32.toInt (congrFun (hfr_23 0 (by omega)) 11), tgE.of (fun a ha => (hfr_23 a (by omega))), fun c9 hc9 => congrFun ((hfr_23 (216 + 1 * c9) (by omega))) 3, fun a ha => (hfr_23 a (by omega))⟩
              have hws : ∀ a : Nat, a < 3 → im_22 (25 + 1 * a) = j1 (25 + 1 * a) := fun a ha => (hfr_23 (25 + 1 * a) (by omega))
              have hRU1 : RU im_22 r d1 := RU_same hO_j1 hPCj hRU hSC1 (hfr_23 28 (by omega)) (by omega) (by omega) (by omega) (by omega) (by omega) (by omega) hws
              have hre1 : rest im_22 r = rest j1 r := rest_same hO_j1 hPCj hRU hSC1 (hfr_23 28 (by omega)) (by omega) (by omega) hws
              have hst : (im_22 (25 + 1 * j_27) 1).toInt < 0 → (im_22 23 5).toInt < (im_22 23 4).toInt := by
                  intro q
                  rw [hws j_27 (by omega)] at q
                  rcases (show j_27 = 0 ∨ j_27 = 1 ∨ j_27 = 2 by omega) with e9 | e9 | e9 <;> rw [e9] at q <;> omega
              refine x_callv (va_runV (As := [.ref (g (25 + 1 * j_27))]) (rest := []) ⟨hx, hb, hml, hown, hts⟩ (k_moveX l D g ka ad im_22 r Lv_9 d1 j_27 hO_24 hR H.size (by first | omega | decide) (PC_fr hPC (fun a ha => ((hfr_23 a (by omega)).trans (hfr_j1 a (by omega)))) (fun _ _ _ => rfl)) (PO_fr hPO (fun a ha => ((hfr_23 a (by omega)).trans (hfr_j1 a (by omega))))) (PW_fr hPW (fun a ha => ((hfr_23 a (by omega)).trans (hfr_j1 a (by omega))))) (PD_fr hO_j1 hi_lp_8_3 (fun a ha => (hfr_23 a (by omega)))) (PK.same hO hPK (hSC9.2.2.1.trans (tgE.of (fun a ha => (hfr_23 a (by omega))))) (congrArg Int32.toInt (((congrFun (hfr_23 0 (by omega)) _).trans (congrFun (hfr_j1 0 (by omega)) _))))) hRU1.2.1 (by first | omega | decide) (hRU1.2.2.1 j_27 (by omega)) (hRU1.2.2.2.1 j_27 (by omega)) (by first | omega | decide) hst (by first | omega | decide) (PY_fr hi_lp_8_5 (fun a ha => (hfr_23 a (by omega))))) (cwV 1 hts gX11_go_X11_move rfl rfl rfl (by decide +kernel) ⟨(Nat.le_of_ble_eq_true rfl), (Nat.le_of_ble_eq_true rfl)⟩) (x_preV (q := (RX11, TX11, 14)) hH hK (q_obj (by decide) (rfl : kd 0 = 11) (by decide)) rfl gxb (gxw hE hS (x_F hH hS hA))) rfl rfl hl.1 rfl (lv_room (Nat.le_of_ble_eq_true rfl)) dX11_go_46 ⟨(Nat.le_of_ble_eq_true rfl), (Nat.le_of_ble_eq_true rfl)⟩) hH hS hA rfl rfl (fun u_34 H locs hw_30 hH hS => ?_)
              obtain ⟨im_31, Lm_32, dm_33⟩ := u_34
              try dsimp only at hw_30
              have hH : sj_H D A (hwc g ka im_31 r Lm_32 dm_33) H := hH
              obtain ⟨hO_36, hfr_35, hfd_37, hk_38, hk_39, he_40, hx2_41, hx2_42, hx2_43, hx2_44⟩ := hw_30
              have hPC1 : PC im_22 r := (PC_fr hPC (fun a ha => ((hfr_23 a (by omega)).trans (hfr_j1 a (by omega)))) (fun _ _ _ => rfl))
              have hgs := go_step (d := d1) (d' := dm_33) hO_24 hPC1 hRU1 hx2_42 (w := j_27) (by omega) (by omega) (hfr_35 28 (by omega)) (by omega) (by omega) (by omega) (congrArg (fun f => (f 4).toInt) (hfr_35 13 (by omega))) (fun a ha hn => hfr_35 (25 + 1 * a) (by omega)) hfd_37 (by omega) hx2_43 hx2_44 hx2_41
              obtain ⟨hRU2, hre2⟩ := hgs
              have hPC2 : PC im_31 r := (PC_fr hPC (fun a ha => ((hfr_35 a (by omega)).trans ((hfr_23 a (by omega)).trans (hfr_j1 a (by omega))))) (fun _ _ _ => rfl))
              refine lv_aload_n hx hb dX11_go_49 rfl (lv_at hl 1 rfl) ?_
              refine h_getr (ci := 11) (C := RX11) (F := TX11) (N := 14) hx hb hts in11 hown hK hH (by decide) (rfl : kd 0 = 11) (by decide) rfl 4 (by decide) wd0 (fun _ h9 => h9) (by decide) rfl (t := 23) (hR 0 4 rfl) (by decide) dX11_go_50 ?_
              have hw_45 : (im_31 13 4).toInt = ((i 13 4) : Int32).toInt := congrArg Int32.toInt (((congrFun (hfr_35 13 (by omega)) _).trans ((congrFun (hfr_23 13 (by omega)) _).trans (congrFun (hfr_j1 13 (by omega)) _))))
              refine x_callv (va_runV (As := []) (rest := []) ⟨hx, hb, hml, hown, hts⟩ (k_endIf l D g ka ad im_31 r Lm_32 dm_33  hO_36 hR H.size (by first | omega | decide)) (cwV 0 hts gX11_go_X7_endIfNothingIsLeft rfl rfl rfl (by decide +kernel) ⟨(Nat.le_of_ble_eq_true rfl), (Nat.le_of_ble_eq_true rfl)⟩) (x_preV (q := (RX7, TX7, 11)) hH hK (q_obj (by decide) (rfl : kd 23 = 7) (by decide)) rfl gxb (gxw hE hS (x_F hH hS hA))) rfl rfl hl.1 rfl (lv_room (Nat.le_of_ble_eq_true rfl)) dX11_go_53 ⟨(Nat.le_of_ble_eq_true rfl), (Nat.le_of_ble_eq_true rfl)⟩) hH hS hA rfl rfl (fun im_48 H locs hw_47 hH hS => ?_)
              have hH : sj_H D A (hwc g ka im_48 r Lm_32 dm_33) H := hH
              obtain ⟨hO_50, hfr_49, he_51⟩ := hw_47
              have hw_52 : (im_48 13 4).toInt = ((i 13 4) : Int32).toInt := congrArg Int32.toInt (((congrFun (hfr_49 13 (by omega)) _).trans ((congrFun (hfr_35 13 (by omega)) _).trans ((congrFun (hfr_23 13 (by omega)) _).trans (congrFun (hfr_j1 13 (by omega)) _)))))
              have hRf := hRU2.1
              have hSC3 : SC im_31 im_48 := ⟨(hfr_49 33 (by omega)), congrArg Int32.toInt (congrFun (hfr_49 0 (by omega)) 11), tgE.of (fun a ha => (hfr_49 a (by omega))), fun c9 hc9 => congrFun ((hfr_49 (216 + 1 * c9) (by omega))) 3, fun a ha => (hfr_49 a (by omega))⟩
              have hws3 : ∀ a : Nat, a < 3 → im_48 (25 + 1 * a) = im_31 (25 + 1 * a) := fun a ha => (hfr_49 (25 + 1 * a) (by omega))
              have hRU3 : RU im_48 r dm_33 := RU_same hO_36 hPC2 hRU2 hSC3 (hfr_49 28 (by omega)) (by omega) (by omega) (by omega) (by omega) (by omega) (by omega) hws3
              have hre3 : rest im_48 r = rest im_31 r := rest_same hO_36 hPC2 hRU2 hSC3 (hfr_49 28 (by omega)) (by omega) (by omega) hws3
              have hPC3 : PC im_48 r := (PC_fr hPC (fun a ha => ((hfr_49 a (by omega)).trans ((hfr_35 a (by omega)).trans ((hfr_23 a (by omega)).trans (hfr_j1 a (by omega)))))) (fun _ _ _ => rfl))
              have hge := go_end hO_50 hPC3 hRU3
              have hg0 : (im_48 23 4).toInt ≤ (im_48 23 6).toInt → rest im_48 r = 0 := fun q => (hge.1 q).2
              have hg1 := hge.2
              have hRI3 : RI im_48 r dm_33 := by
                  by_cases q : (im_48 23 6).toInt < (im_48 23 4).toInt
                  · exact Or.inr ⟨by omega, hRU3, q⟩
                  · exact Or.inl ⟨by omega, (hge.1 (by omega)).1⟩
              have hk8 : ((im_48 23 6).toInt < (im_48 23 4).toInt ∧ (im_48 23 8).toInt = 1) ∨ ((im_48 23 4).toInt ≤ (im_48 23 6).toInt ∧ (im_48 23 8).toInt = 0) := he_51.1.elim (fun q => Or.inl ⟨by omega, by omega⟩) (fun q => Or.inr ⟨by omega, by omega⟩)
              have hev9 : (im_48 23 10).toInt ≤ (im_31 23 10).toInt + 1 := he_51.1.elim (fun q => by omega) (fun q => by omega)
              have hre9 : rest im_48 r + 1 = rest j1 r := by omega
              have hGI := go_inv hi_GI hu8 hre9 hk8 hg0 hg1
              have hSC9b := hSC9.trans (hSC1.trans (hx2_42.trans hSC3))
              obtain ⟨z_53, ez_53, hz_53⟩ := s_add (rfl : t.toInt = _) (show (1 : Int32).toInt = 1 from rfl) (by omega) (by omega)
              refine lv_iinc (v := z_53) (lv' := [(2, .int z_53), (0, .ref (g 0)), (1, .int x)]) hx hb dX11_go_56 hl (k := 0) rfl ez_53 (by decide) rfl (fun ls hl => ?_)
              refine lv_goto (tgt := 15) hx hb dX11_go_59 (by decide) ?_
              exact ih_lp_8 z_53 _ _ _ _ _ ls (by rw [hz_53]; exact hms) (by rw [hz_53]; exact hr9) ⟨by omega, by rw [hz_53]; exact hr8⟩ hRI3 hSC9b (PD_fr hO_36 hk_38 (fun a ha => (hfr_49 a (by omega)))) (by rw [hz_53]; exact hGI) (PY_fr hk_39 (fun a ha => (hfr_49 a (by omega)))) (fun a ha => ((hfd_37 a (by omega)).trans (hfd_d1 a (by omega)))) hO_50 (fun a ha => ((hfr_49 a (by omega)).trans ((hfr_35 a (by omega)).trans ((hfr_23 a (by omega)).trans (hfr_j1 a (by omega)))))) (lv_sub hl [0, 1, 2] rfl) hH hS
      have hl_54 : (0 : Int32).toInt = 0 := rfl
      exact lp_8 _ 0 _ _ _ _ _ ls (Nat.lt_succ_self _) (by omega) (by omega) hRI (SC.refl i) hPD (hRI.elim (fun q => Or.inl ⟨q.1, rfl, q.1⟩) (fun q => Or.inr ⟨q.1, fun _ => ⟨Int.add_zero _, (go_end hO hPC q.2.1).2 q.2.2⟩, fun h9 => by have := q.1; omega⟩)) hPY (fun a ha => rfl) hO (fun a ha => rfl) (lv_sub hl [0, 1, 2] rfl) hH hS
    · skip
      have h_55 := s_nle (rfl : x.toInt = _) (show (40 : Int32).toInt = 40 from rfl) c_6
      refine lv_iconst (v := (-1)) hx hb dX11_go_11 (by decide) ?_
      have hlv_56 : ((-1) : Int32).toInt = -1 := rfl
      exact sj_zret hx hb hr hlocks rfl hS (i, L, d) ⟨hO, (fun a ha => rfl), (fun a ha => rfl), hPD, hPY, (by dsimp only; omega), hRI, (SC.refl i), (by dsimp only; omega)⟩ hH (sj_Knil hK) (Nat.le_of_ble_eq_true rfl) (Nat.le_of_ble_eq_true rfl) dX11_go_12
