
set_option maxHeartbeats 2000000 in
set_option maxRecDepth 100000 in
theorem mv_read1 (l : Launch) (D : va_G) (g : Nat → Nat) (ka : Nat → ClassId) (ad : Nat → Nat) (i : Nat → Nat → Int32) (r : Nat → Nat → Nat) (L : Nat → Nat → Int64) (d : Nat → Nat → UInt64) (qs : Nat → rdS) (T : Nat → Int32) (c2 : Nat → Nat → Int32) (hO : OkI i) (hR : RS r) (sz : Nat) (hb76 : (i 36 76).toInt = 0) (hqO : ∀ j : Nat, j ≤ (i 36 2).toInt.toNat + 1 → OkI (qs j).1 ∧ QI (qs j).1 (qs j).2.1 (qs j).2.2) (hq0 : beQ (qs 0).1) (hqs : ∀ j : Nat, j < (i 36 2).toInt.toNat + 1 → stepR T (i 36 2).toInt.toNat j (qs j) (qs (j + 1))) (hTT : ∀ k : Nat, k < (i 36 2).toInt.toNat → (T k).toInt = (i 379 k).toInt) (hen : enQ (qs ((i 36 2).toInt.toNat + 1)).1 c2 (lnF T (i 36 2).toInt.toNat ((i 36 2).toInt.toNat + 1) : Int)) (hc2 : OkI c2) (hnr : NR i) : Met l yX12_read wsX12_read ({ frames := 4, cells := 0, slots := 0, locals := 97 }) (va_Pc [.ref (g 36)] (sj_B D (hwc g ka i r L d) (hT ka) sz (gx ad (va_A (hwc g ka i r L d) sz)))) (sj_Qi (S := (Nat → Nat → Int32)) D (fun v u => OkI u ∧ (∀ a b, ¬ ((a = 36 ∧ (b = 0 ∨ b = 2 ∨ b = 4 ∨ b = 6 ∨ b = 7 ∨ b = 8 ∨ b = 9 ∨ b = 10 ∨ b = 11 ∨ b = 13 ∨ b = 17 ∨ b = 18 ∨ b = 23 ∨ b = 26 ∨ b = 27 ∨ b = 33)) ∨ a = 380 ∨ a = 381 ∨ a = 382 ∨ a = 383 ∨ a = 384 ∨ a = 385 ∨ a = 386 ∨ a = 387 ∨ a = 388 ∨ a = 389 ∨ a = 390 ∨ a = 391 ∨ a = 392 ∨ a = 393 ∨ a = 394 ∨ a = 395 ∨ a = 396 ∨ a = 397 ∨ a = 398 ∨ a = 399 ∨ a = 400 ∨ a = 401) → u a b = i a b) ∧ ((0 : Int) ≤ v.toInt ∧ v.toInt ≤ 20) ∧ ((u 36 2).toInt = 0) ∧ (MRQ u c2 (qs ((i 36 2).toInt.toNat + 1)).2.2 ∧ mcP u (if 0 < (c2 3 4).toInt then [] else (csA c2 (c2 3 8).toInt.toNat).take 24)) ∧ (NR u) ∧ ((u 36 7).toInt = (c2 3 1).toInt) ∧ ((u 36 0).toInt = 0 ∧ v.toInt = (u 36 6).toInt)) (fun u => hwc g ka u r L d) (fun _ => []) (va_A (hwc g ka i r L d) sz)) 0 0 (va_A (hwc g ka i r L d) sz) := by
  refine x_met (Ex := gx ad) (cc := cX12_read) (maxL := 5) (ret := (some .int)) (by decide) rfl (Nat.le_of_ble_eq_true rfl) ?_
  intro p e s m below meth c A ls hx hb hr hml hts hown hlocks hA hS hH hK hE hl
  have hown : s.vm.findClass RX12 = some m.cls := hown
  have in12 : ∀ w ∈ wsX120, w ∈ wsX12_read := (fun _ h => (List.mem_cons_of_mem _ (List.mem_append_right _ h)))
  have wd0 := hts (.fieldLink RX12 7 "StoryDeskModel" "size" "I") (List.mem_cons_of_mem _ (List.mem_append_left _ (List.mem_append_left _ lm0)))
  have wd1 := hts (.fieldLink RX12 117 "StoryDeskModel" "groups" "I") (List.mem_cons_of_mem _ (List.mem_append_left _ (List.mem_append_left _ lm5)))
  have wd2 := hts (.fieldLink RX12 46 "StoryDeskModel" "tagged" "Z") (List.mem_cons_of_mem _ (List.mem_append_left _ (List.mem_append_left _ lm6)))
  have wd3 := hts (.fieldLink RX12 57 "StoryDeskModel" "wrongs" "I") (List.mem_cons_of_mem _ (List.mem_append_left _ (List.mem_append_left _ lm7)))
  have wd4 := hts (.fieldLink RX12 16 "StoryDeskModel" "width" "I") (List.mem_cons_of_mem _ (List.mem_append_left _ (List.mem_append_left _ lm2)))
  have wd5 := hts (.fieldLink RX12 33 "StoryDeskModel" "dialect" "I") (List.mem_cons_of_mem _ (List.mem_append_left _ (List.mem_append_left _ lm4)))
  have wd6 := hts (.fieldLink RX12 19 "StoryDeskModel" "line" "[C") (List.mem_cons_of_mem _ (List.mem_append_left _ (List.mem_append_left _ lm3)))
  have wd7 := hts (.fieldLink RX12 12 "StoryDeskModel" "text" "[C") (List.mem_cons_of_mem _ (List.mem_append_left _ (List.mem_append_left _ lm1)))
  have hl : lv_has ls 5 [(0, .ref (g 36))] := hl
  have hK : va_K D vwCl (hT ka) s := hK
  have hb2 : (0 : Int) ≤ (i 36 2).toInt ∧ (i 36 2).toInt ≤ 480 := hO 36 2
  refine lv_aload_n hx hb dX12_read_0 rfl (lv_at hl 0 rfl) ?_
  refine x_calli (va_runV (As := []) (rest := []) ⟨hx, hb, hml, hown, hts⟩ (mv_busy l D g ka ad i r L d  hO hR s.heap.size ) (cwV 0 hts gX12_read_X12_busy rfl rfl rfl (by decide +kernel) ⟨(Nat.le_of_ble_eq_true rfl), (Nat.le_of_ble_eq_true rfl)⟩) (x_preV (q := (RX12, TX12, 86)) hH hK (q_obj (by decide) (rfl : kd 36 = 12) (by decide)) rfl gxb (gxw hE hS (x_F hH hS hA))) rfl rfl hl.1 rfl (lv_room (Nat.le_of_ble_eq_true rfl)) dX12_read_1 ⟨(Nat.le_of_ble_eq_true rfl), (Nat.le_of_ble_eq_true rfl)⟩) hH hS hA rfl rfl (fun r_1 im_3 H locs hw_2 hH hS => ?_)
  have hH : sj_H D A (hwc g ka im_3 r L d) H := hH
  obtain ⟨hO_5, hfr_4, hr_6, he_7⟩ := hw_2
  have hr_6 : (0 : Int) ≤ r_1.toInt ∧ r_1.toInt ≤ 1 := hr_6
  refine lv_if_eq (tgt := 9) hx hb dX12_read_4 (by decide) (fun _ => ?_) (fun h => absurd (p_eq (rfl : r_1.toInt = _) (show (0 : Int32).toInt = 0 from rfl) (by omega)) h)
  refine lv_aload_n hx hb dX12_read_9 rfl (lv_at hl 0 rfl) ?_
  refine x_callv (va_runV (As := []) (rest := []) ⟨hx, hb, hml, hown, hts⟩ (m_forget l D g ka ad im_3 r L d  hO_5 hR H.size ) (cwV 0 hts gX12_read_X12_forget rfl rfl rfl (by decide +kernel) ⟨(Nat.le_of_ble_eq_true rfl), (Nat.le_of_ble_eq_true rfl)⟩) (x_preV (q := (RX12, TX12, 86)) hH hK (q_obj (by decide) (rfl : kd 36 = 12) (by decide)) rfl gxb (gxw hE hS (x_F hH hS hA))) rfl rfl hl.1 rfl (lv_room (Nat.le_of_ble_eq_true rfl)) dX12_read_10 ⟨(Nat.le_of_ble_eq_true rfl), (Nat.le_of_ble_eq_true rfl)⟩) hH hS hA rfl rfl (fun im_10 H locs hw_9 hH hS => ?_)
  have hH : sj_H D A (hwc g ka im_10 r L d) H := hH
  obtain ⟨hO_12, hfr_11, hx2_13⟩ := hw_9
  refine lv_iconst (v := 0) hx hb dX12_read_13 (by decide) ?_
  refine lv_istore_n (lv' := [(1, .int 0), (0, .ref (g 36))]) hx hb dX12_read_14 rfl hl (by decide) rfl (fun ls hl => ?_)
  refine lv_iconst (v := 0) hx hb dX12_read_15 (by decide) ?_
  refine lv_istore_n (lv' := [(2, .int 0), (1, .int 0), (0, .ref (g 36))]) hx hb dX12_read_16 rfl hl (by decide) rfl (fun ls hl => ?_)
  refine lv_iconst (v := 0) hx hb dX12_read_17 (by decide) ?_
  refine lv_istore_n (lv' := [(3, .int 0), (2, .int 0), (1, .int 0), (0, .ref (g 36))]) hx hb dX12_read_18 rfl hl (by decide) rfl (fun ls hl => ?_)
  -- loop at 19
  have lp_14 : ∀ (fuel_lp_14 : Nat) (u : Int32) (v9 : Int32) (f : Int32) (j1 : Nat → Nat → Int32) (H : Heap) (locs : List Loc) (ls : Array Slot), (481 - f.toInt).toNat < fuel_lp_14 → (0 : Int) ≤ u.toInt ∧ u.toInt ≤ 481 → (0 : Int) ≤ v9.toInt ∧ v9.toInt ≤ 481 → (0 : Int) ≤ f.toInt ∧ f.toInt ≤ 481 → f.toInt ≤ (i 36 2).toInt + 1 → u.toInt + 1 = (lnF T (i 36 2).toInt.toNat f.toInt.toNat : Int) → v9.toInt = (frF T (i 36 2).toInt.toNat f.toInt.toNat : Int) → MRQ j1 (qs f.toInt.toNat).1 (qs f.toInt.toNat).2.2 → (u.toInt = 0 ∧ ((qs f.toInt.toNat).1 3 1).toInt = 0) ∨ (1 ≤ u.toInt ∧ (j1 36 7).toInt = ((qs f.toInt.toNat).1 3 1).toInt) → OkI j1 → (∀ a b, ¬ ((a = 36 ∧ (b = 4 ∨ b = 6 ∨ b = 7 ∨ b = 8 ∨ b = 9 ∨ b = 10 ∨ b = 11 ∨ b = 13 ∨ b = 17 ∨ b = 18 ∨ b = 23 ∨ b = 26 ∨ b = 27)) ∨ a = 380 ∨ a = 381 ∨ a = 382 ∨ a = 383 ∨ a = 384 ∨ a = 385 ∨ a = 386 ∨ a = 387 ∨ a = 388 ∨ a = 389 ∨ a = 390 ∨ a = 391 ∨ a = 392 ∨ a = 393 ∨ a = 394 ∨ a = 395 ∨ a = 396) → j1 a b = im_10 a b) → lv_has ls 5 [(3, .int f), (2, .int v9), (1, .int u), (0, .ref (g 36))] → sj_H D A (hwc g ka j1 r L d) H → va_S A s.heap H locs → W p l e (headSpec wsX12_read ({ frames := 4, cells := 0, slots := 0, locals := 97 })).room s m ([.ref (g 36)] : List Value).toArray below meth c H locs 0 0 (MQ below (sj_Qi (S := (Nat → Nat → Int32)) D (fun v u => OkI u ∧ (∀ a b, ¬ ((a = 36 ∧ (b = 0 ∨ b = 2 ∨ b = 4 ∨ b = 6 ∨ b = 7 ∨ b = 8 ∨ b = 9 ∨ b = 10 ∨ b = 11 ∨ b = 13 ∨ b = 17 ∨ b = 18 ∨ b = 23 ∨ b = 26 ∨ b = 27 ∨ b = 33)) ∨ a = 380 ∨ a = 381 ∨ a = 382 ∨ a = 383 ∨ a = 384 ∨ a = 385 ∨ a = 386 ∨ a = 387 ∨ a = 388 ∨ a = 389 ∨ a = 390 ∨ a = 391 ∨ a = 392 ∨ a = 393 ∨ a = 394 ∨ a = 395 ∨ a = 396 ∨ a = 397 ∨ a = 398 ∨ a = 399 ∨ a = 400 ∨ a = 401) → u a b = i a b) ∧ ((0 : Int) ≤ v.toInt ∧ v.toInt ≤ 20) ∧ ((u 36 2).toInt = 0) ∧ (MRQ u c2 (qs ((i 36 2).toInt.toNat + 1)).2.2 ∧ mcP u (if 0 < (c2 3 4).toInt then [] else (csA c2 (c2 3 8).toInt.toNat).take 24)) ∧ (NR u) ∧ ((u 36 7).toInt = (c2 3 1).toInt) ∧ ((u 36 0).toInt = 0 ∧ v.toInt = (u 36 6).toInt)) (fun u => hwc g ka u r L d) (fun _ => []) A) ([.ref (g 36)] : List Value).toArray s 0 0 A) (F0 m 19 ls []) := by
    intro fuel_lp_14
    induction fuel_lp_14 with
    | zero => intros; omega
    | succ fuel_lp_14 ih_lp_14 =>
      intro u v9 f j1 H locs ls hm hr_u hr_v9 hr_f hi_lp_14_0 hi_lp_14_1 hi_lp_14_2 hi_lp_14_3 hi_lp_14_4 hO_j1 hfr_j1 hl hH hS
      have hI2 := hi_lp_14_2
      have hI1 := hi_lp_14_1
      have hI4 := hi_lp_14_4
      have hfk : f.toInt = ((f.toInt.toNat : Nat) : Int) := by omega
      have hfle := frF_le T (i 36 2).toInt.toNat f.toInt.toNat
      have hlle := lnF_le T (i 36 2).toInt.toNat f.toInt.toNat
      refine lv_iload_n hx hb dX12_read_19 rfl (lv_at hl 0 rfl) ?_
      refine lv_aload_n hx hb dX12_read_20 rfl (lv_at hl 3 rfl) ?_
      have bx_15 : (0 : Int) ≤ (i 36 2).toInt ∧ (i 36 2).toInt ≤ 480 := hO 36 2
      refine h_geti (ci := 12) (C := RX12) (F := TX12) (N := 86) hx hb hts in12 hown hK hH (by decide) (rfl : kd 36 = 12) (by decide) rfl 2 (by decide) wd0 (fun _ h9 => h9) (by decide) rfl dX12_read_21 ?_
      refine sj_i (y := (i 36 2)) ((hfr_j1 36 2 (by omega)).trans ((hfr_11 36 2 (by omega)).trans (hfr_4 36 2 (by omega)))) ?_
      refine lv_icmp_gt (tgt := 128) hx hb dX12_read_24 (by decide) (fun c_16 => ?_) (fun c_16 => ?_)
      · skip
        have h_17 := s_lt (rfl : (i 36 2).toInt = _) (rfl : f.toInt = _) c_16
        have hke : f.toInt.toNat = (i 36 2).toInt.toNat + 1 := by omega
        have hM0 := hi_lp_14_3
        rw [hke] at hM0
        have hu9 := hi_lp_14_1
        rw [hke] at hu9
        obtain ⟨i2, h6, h7⟩ := hen
        have hb04 := (rd_bx (hqO _ (Nat.le_refl _)).1).2.2.2.2.2.2.2.1
        have hc04 : 0 ≤ ((qs ((i 36 2).toInt.toNat + 1)).1 3 4).toInt := hb04.1
        have hb06 := (rd_bx (hqO _ (Nat.le_refl _)).1).1
        have hN0 := hM0.2.2.1
        have hW0 := hM0.2.1
        refine lv_aload_n hx hb dX12_read_128 rfl (lv_at hl 3 rfl) ?_
        refine lv_iconst (v := 0) hx hb dX12_read_129 (by decide) ?_
        have hO_18 := okp hO_j1 (n := 36) (k := 2) (v := 0) (show (0 : Int) ≤ (0 : Int32).toInt ∧ (0 : Int32).toInt ≤ 480 from ⟨by decide, by decide⟩)
        refine h_puti (ty := .int) (ci := 12) (C := RX12) (F := TX12) (N := 86) hx hb hts in12 tyX12 tyX12_ok nmX12 hown hK hH hS (by decide) (rfl : kd 36 = 12) (by decide) rfl 2 (by decide) wd0 (fun _ h9 => h9) rfl (by decide +kernel) rfl rfl (by decide) rfl dX12_read_130 (fun H locs hH hS => ?_)
        refine lv_aload_n hx hb dX12_read_133 rfl (lv_at hl 3 rfl) ?_
        have bx_19 : (0 : Int) ≤ (j1 36 11).toInt ∧ (j1 36 11).toInt ≤ 5 := hO_j1 36 11
        refine h_geti (ci := 12) (C := RX12) (F := TX12) (N := 86) hx hb hts in12 hown hK hH (by decide) (rfl : kd 36 = 12) (by decide) rfl 11 (by decide) wd1 (fun _ h9 => h9) (by decide) rfl dX12_read_134 ?_
        refine sj_i (y := (j1 36 11)) (up2_k _ _ (by decide)) ?_
        refine lv_if_ne (tgt := 149) hx hb dX12_read_137 (by decide) (fun c_20 => ?_) (fun c_20 => ?_)
        · skip
          have h_21 := s_ne (rfl : (j1 36 11).toInt = _) (show (0 : Int32).toInt = 0 from rfl) c_20
          have hM1 : MRQ (up2 j1 36 2 0) (qs ((i 36 2).toInt.toNat + 1)).1 (qs ((i 36 2).toInt.toNat + 1)).2.2 := (MRQ_fr hM0 (fun b h1 h2 h3 => (up2_o _ _ (by omega))) (fun a h1 h2 => funext fun b => (up2_o _ _ (by omega))))
          unfold mqN at hN0
          have h6b := (h6.resolve_left (fun q => by have := q.1; omega)).2
          have hM2 : MRQ (up2 j1 36 2 0) i2 (qs ((i 36 2).toInt.toNat + 1)).2.2 := by rw [h6b]; exact hM1
          have hc04b : 0 ≤ (i2 3 4).toInt := by rw [h6b]; exact hc04
          refine lv_aload_n hx hb dX12_read_149 rfl (lv_at hl 3 rfl) ?_
          have bx_22 : (0 : Int) ≤ (j1 36 10).toInt ∧ (j1 36 10).toInt ≤ 1 := hO_j1 36 10
          refine h_geti (ci := 12) (C := RX12) (F := TX12) (N := 86) hx hb hts in12 hown hK hH (by decide) (rfl : kd 36 = 12) (by decide) rfl 10 (by decide) wd2 (fun _ h9 => h9) (by decide) rfl dX12_read_150 ?_
          refine sj_i (y := (j1 36 10)) (up2_k _ _ (by decide)) ?_
          refine lv_if_eq (tgt := 165) hx hb dX12_read_153 (by decide) (fun c_23 => ?_) (fun c_23 => ?_)
          · skip
            have h_24 := s_eq (rfl : (j1 36 10).toInt = _) (show (0 : Int32).toInt = 0 from rfl) c_23
            have hW2 := hM2.2.1
            unfold mqW at hW2
            have hp_25 : ((up2 j1 36 2 0) 36 10).toInt = ((j1 36 10) : Int32).toInt := congrArg Int32.toInt ((up2_k _ _ (by decide)))
            have h7b := (h7.resolve_left (fun q => by have := q.1; omega)).2
            have hM3 : MRQ (up2 j1 36 2 0) c2 (qs ((i 36 2).toInt.toNat + 1)).2.2 := by rw [h7b]; exact hM2
            refine lv_aload_n hx hb dX12_read_165 rfl (lv_at hl 3 rfl) ?_
            have bx_26 : (0 : Int) ≤ (j1 36 6).toInt ∧ (j1 36 6).toInt ≤ 20 := hO_j1 36 6
            refine h_geti (ci := 12) (C := RX12) (F := TX12) (N := 86) hx hb hts in12 hown hK hH (by decide) (rfl : kd 36 = 12) (by decide) rfl 6 (by decide) wd3 (fun _ h9 => h9) (by decide) rfl dX12_read_166 ?_
            refine sj_i (y := (j1 36 6)) (up2_k _ _ (by decide)) ?_
            refine lv_if_ne (tgt := 176) hx hb dX12_read_169 (by decide) (fun c_27 => ?_) (fun c_27 => ?_)
            · skip
              have h_28 := s_ne (rfl : (j1 36 6).toInt = _) (show (0 : Int32).toInt = 0 from rfl) c_27
              refine lv_aload_n hx hb dX12_read_176 rfl (lv_at hl 3 rfl) ?_
              refine h_geti (ci := 12) (C := RX12) (F := TX12) (N := 86) hx hb hts in12 hown hK hH (by decide) (rfl : kd 36 = 12) (by decide) rfl 6 (by decide) wd3 (fun _ h9 => h9) (by decide) rfl dX12_read_177 ?_
              refine sj_i (y := (j1 36 6)) (up2_k _ _ (by decide)) ?_
              have hp_29 : ((up2 j1 36 2 0) 36 2).toInt = (0 : Int32).toInt := congrArg Int32.toInt ((up2_at _ _ _ _))
              have hl_30 : (0 : Int32).toInt = 0 := rfl
              have hV_31 : ((up2 j1 36 2 0) 36 2).toInt = 0 := (by omega)
              have hwr := hM3.1.1
              have hp_32 : ((up2 j1 36 2 0) 36 33).toInt = ((im_10 36 33) : Int32).toInt := congrArg Int32.toInt (((up2_k _ _ (by decide)).trans (hfr_j1 36 33 (by omega))))
              have hp_33 : ((up2 j1 36 2 0) 36 6).toInt = ((j1 36 6) : Int32).toInt := congrArg Int32.toInt ((up2_k _ _ (by decide)))
              have hV_34 : MRQ (up2 j1 36 2 0) c2 (qs ((i 36 2).toInt.toNat + 1)).2.2 ∧ mcP (up2 j1 36 2 0) (if 0 < (c2 3 4).toInt then [] else (csA c2 (c2 3 8).toInt.toNat).take 24) := ⟨hM3, (by rw [if_pos (by omega)]; exact ⟨by rw [List.length_nil]; omega, fun c s t h => by simp at h⟩)⟩
              have hV_35 : NR (up2 j1 36 2 0) := (NR_fr hnr (funext fun b9 => ((up2_o _ _ (by omega)).trans ((hfr_j1 399 b9 (by omega)).trans ((hfr_11 399 b9 (by omega)).trans (hfr_4 399 b9 (by omega)))))) (funext fun b9 => ((up2_o _ _ (by omega)).trans ((hfr_j1 398 b9 (by omega)).trans ((hfr_11 398 b9 (by omega)).trans (hfr_4 398 b9 (by omega)))))))
              have hL1 := lnF_le T (i 36 2).toInt.toNat (i 36 2).toInt.toNat
              have hL2 := (frF_y (T := T) (n := (i 36 2).toInt.toNat) (k := (i 36 2).toInt.toNat) (Or.inl rfl)).2
              have hd4 := hi_lp_14_4
              rw [hke] at hd4
              have hd5 := (hd4.resolve_left (fun q => by have := q.1; omega)).2
              have hd6 : (c2 3 1).toInt = ((qs ((i 36 2).toInt.toNat + 1)).1 3 1).toInt := congrArg Int32.toInt (en_d ⟨i2, h6, h7⟩)
              have hV_36 : ((up2 j1 36 2 0) 36 7).toInt = (c2 3 1).toInt := ((congrArg Int32.toInt (show (up2 j1 36 2 0) 36 7 = j1 36 7 from (up2_o _ _ (by omega)))).trans (hd5.trans hd6.symm))
              have hp_37 : ((up2 j1 36 2 0) 36 0).toInt = ((im_3 36 0) : Int32).toInt := congrArg Int32.toInt (((up2_k _ _ (by decide)).trans ((hfr_j1 36 0 (by omega)).trans (hfr_11 36 0 (by omega)))))
              have hp_38 : ((up2 j1 36 2 0) 36 6).toInt = ((j1 36 6) : Int32).toInt := congrArg Int32.toInt ((up2_k _ _ (by decide)))
              have hV_39 : ((up2 j1 36 2 0) 36 0).toInt = 0 ∧ ((j1 36 6) : Int32).toInt = ((up2 j1 36 2 0) 36 6).toInt := ⟨by omega, by omega⟩
              exact sj_zret hx hb hr hlocks rfl hS (up2 j1 36 2 0) ⟨hO_18, (fun a b ha => ((up2_o _ _ (by omega)).trans ((hfr_j1 a b (by omega)).trans ((hfr_11 a b (by omega)).trans (hfr_4 a b (by omega)))))), ⟨by omega, by omega⟩, hV_31, hV_34, hV_35, hV_36, hV_39⟩ hH (sj_Knil hK) (Nat.le_of_ble_eq_true rfl) (Nat.le_of_ble_eq_true rfl) dX12_read_180
            · skip
              have h_40 := s_eq (rfl : (j1 36 6).toInt = _) (show (0 : Int32).toInt = 0 from rfl) c_27
              refine lv_aload_n hx hb dX12_read_172 rfl (lv_at hl 3 rfl) ?_
              have hwt_41 : ((up2 j1 36 2 0) 36 33).toInt = ((im_10 36 33) : Int32).toInt := congrArg Int32.toInt ((up2_k _ _ (by decide)).trans (hfr_j1 36 33 (by omega)))
              refine x_callv (va_runV (As := []) (rest := []) ⟨hx, hb, hml, hown, hts⟩ (m_findCases l D g ka ad (up2 j1 36 2 0) r L d c2 ((qs ((i 36 2).toInt.toNat + 1)).2.1) ((qs ((i 36 2).toInt.toNat + 1)).2.2) hO_18 hR H.size hc2 hM3 (by omega) (NR_fr hnr (funext fun b9 => ((up2_o _ _ (by omega)).trans ((hfr_j1 399 b9 (by omega)).trans ((hfr_11 399 b9 (by omega)).trans (hfr_4 399 b9 (by omega)))))) (funext fun b9 => ((up2_o _ _ (by omega)).trans ((hfr_j1 398 b9 (by omega)).trans ((hfr_11 398 b9 (by omega)).trans (hfr_4 398 b9 (by omega)))))))) (cwV 0 hts gX12_read_X12_findCases rfl rfl rfl (by decide +kernel) ⟨(Nat.le_of_ble_eq_true rfl), (Nat.le_of_ble_eq_true rfl)⟩) (x_preV (q := (RX12, TX12, 86)) hH hK (q_obj (by decide) (rfl : kd 36 = 12) (by decide)) rfl gxb (gxw hE hS (x_F hH hS hA))) rfl rfl hl.1 rfl (lv_room (Nat.le_of_ble_eq_true rfl)) dX12_read_173 ⟨(Nat.le_of_ble_eq_true rfl), (Nat.le_of_ble_eq_true rfl)⟩) hH hS hA rfl rfl (fun im_44 H locs hw_43 hH hS => ?_)
              have hH : sj_H D A (hwc g ka im_44 r L d) H := hH
              obtain ⟨hO_46, hfr_45, hx2_47, hx2_48⟩ := hw_43
              have hmc := hx2_47
              have hnr2 := hx2_48
              refine lv_aload_n hx hb dX12_read_176 rfl (lv_at hl 3 rfl) ?_
              refine h_geti (ci := 12) (C := RX12) (F := TX12) (N := 86) hx hb hts in12 hown hK hH (by decide) (rfl : kd 36 = 12) (by decide) rfl 6 (by decide) wd3 (fun _ h9 => h9) (by decide) rfl dX12_read_177 ?_
              refine sj_i (y := (j1 36 6)) ((hfr_45 36 6 (by omega)).trans (up2_k _ _ (by decide))) ?_
              have hp_49 : (im_44 36 2).toInt = (0 : Int32).toInt := congrArg Int32.toInt (((hfr_45 36 2 (by omega)).trans (up2_at _ _ _ _)))
              have hl_50 : (0 : Int32).toInt = 0 := rfl
              have hV_51 : (im_44 36 2).toInt = 0 := (by omega)
              have hwr := hM3.1.1
              have hwr2 : ((up2 j1 36 2 0) 36 6).toInt = ((j1 36 6) : Int32).toInt := congrArg Int32.toInt ((up2_k _ _ (by decide)))
              have hV_52 : MRQ im_44 c2 (qs ((i 36 2).toInt.toNat + 1)).2.2 ∧ mcP im_44 (if 0 < (c2 3 4).toInt then [] else (csA c2 (c2 3 8).toInt.toNat).take 24) := ⟨(MRQ_fr hM3 (fun b h1 h2 h3 => (hfr_45 36 b (by omega))) (fun a h1 h2 => funext fun b => (hfr_45 a b (by omega)))), (by rw [if_neg (by omega)]; exact hmc)⟩
              have hV_53 : NR im_44 := hnr2
              have hL1 := lnF_le T (i 36 2).toInt.toNat (i 36 2).toInt.toNat
              have hL2 := (frF_y (T := T) (n := (i 36 2).toInt.toNat) (k := (i 36 2).toInt.toNat) (Or.inl rfl)).2
              have hd4 := hi_lp_14_4
              rw [hke] at hd4
              have hd5 := (hd4.resolve_left (fun q => by have := q.1; omega)).2
              have hd6 : (c2 3 1).toInt = ((qs ((i 36 2).toInt.toNat + 1)).1 3 1).toInt := congrArg Int32.toInt (en_d ⟨i2, h6, h7⟩)
              have hV_54 : (im_44 36 7).toInt = (c2 3 1).toInt := ((congrArg Int32.toInt (show im_44 36 7 = j1 36 7 from ((hfr_45 36 7 (by omega)).trans (up2_o _ _ (by omega))))).trans (hd5.trans hd6.symm))
              have hp_55 : (im_44 36 0).toInt = ((im_3 36 0) : Int32).toInt := congrArg Int32.toInt (((hfr_45 36 0 (by omega)).trans ((up2_k _ _ (by decide)).trans ((hfr_j1 36 0 (by omega)).trans (hfr_11 36 0 (by omega))))))
              have hp_56 : (im_44 36 6).toInt = ((j1 36 6) : Int32).toInt := congrArg Int32.toInt (((hfr_45 36 6 (by omega)).trans (up2_k _ _ (by decide))))
              have hV_57 : (im_44 36 0).toInt = 0 ∧ ((j1 36 6) : Int32).toInt = (im_44 36 6).toInt := ⟨by omega, by omega⟩
              exact sj_zret hx hb hr hlocks rfl hS im_44 ⟨hO_46, (fun a b ha => ((hfr_45 a b (by omega)).trans ((up2_o _ _ (by omega)).trans ((hfr_j1 a b (by omega)).trans ((hfr_11 a b (by omega)).trans (hfr_4 a b (by omega))))))), ⟨by omega, by omega⟩, hV_51, hV_52, hV_53, hV_54, hV_57⟩ hH (sj_Knil hK) (Nat.le_of_ble_eq_true rfl) (Nat.le_of_ble_eq_true rfl) dX12_read_180
          · skip
            have h_58 := s_ne (rfl : (j1 36 10).toInt = _) (show (0 : Int32).toInt = 0 from rfl) c_23
            have hW2 := hM2.2.1
            unfold mqW at hW2
            have hp_59 : ((up2 j1 36 2 0) 36 10).toInt = ((j1 36 10) : Int32).toInt := congrArg Int32.toInt ((up2_k _ _ (by decide)))
            have h7a := h7.resolve_right (fun q => by have := q.1; omega)
            refine lv_aload_n hx hb dX12_read_156 rfl (lv_at hl 3 rfl) ?_
            refine lv_iload_n hx hb dX12_read_157 rfl (lv_at hl 2 rfl) ?_
            refine lv_iconst (v := 1) hx hb dX12_read_158 (by decide) ?_
            refine lv_iadd hx hb dX12_read_159 ?_
            obtain ⟨z_60, ez_60, hz_60⟩ := s_add (rfl : u.toInt = _) (show (1 : Int32).toInt = 1 from rfl) (by omega) (by omega)
            refine sj_i ez_60 ?_
            refine lv_bipush (v := 7) hx hb dX12_read_160 (by decide) ?_
            have hl_61 : (7 : Int32).toInt = 7 := rfl
            refine x_callv (va_runV (As := [.int z_60, .int 7]) (rest := []) ⟨hx, hb, hml, hown, hts⟩ (m_note l D g ka ad (up2 j1 36 2 0) r L d z_60 7 hO_18 hR H.size ) (cwV 2 hts gX12_read_X12_note rfl rfl rfl (by decide +kernel) ⟨(Nat.le_of_ble_eq_true rfl), (Nat.le_of_ble_eq_true rfl)⟩) (x_preV (q := (RX12, TX12, 86)) hH hK (q_obj (by decide) (rfl : kd 36 = 12) (by decide)) rfl gxb (gxw hE hS (x_F hH hS hA))) rfl rfl hl.1 rfl (lv_room (Nat.le_of_ble_eq_true rfl)) dX12_read_162 ⟨(Nat.le_of_ble_eq_true rfl), (Nat.le_of_ble_eq_true rfl)⟩) hH hS hA rfl rfl (fun im_64 H locs hw_63 hH hS => ?_)
            have hH : sj_H D A (hwc g ka im_64 r L d) H := hH
            obtain ⟨hO_66, hfr_65, hx2_67⟩ := hw_63
            have hno7 := hx2_67
            have hM3 : MRQ im_64 c2 (qs ((i 36 2).toInt.toNat + 1)).2.2 := MRQ_er hM2 h7a.2 (by rw [show (((lnF T (i 36 2).toInt.toNat ((i 36 2).toInt.toNat + 1)) : Nat) : Int) = z_60.toInt by omega]; exact hno7) hc04b (hqO _ (Nat.le_refl _)).2.1.2.2.1
            refine lv_aload_n hx hb dX12_read_165 rfl (lv_at hl 3 rfl) ?_
            have bx_68 : (0 : Int) ≤ (im_64 36 6).toInt ∧ (im_64 36 6).toInt ≤ 20 := hO_66 36 6
            refine h_geti (ci := 12) (C := RX12) (F := TX12) (N := 86) hx hb hts in12 hown hK hH (by decide) (rfl : kd 36 = 12) (by decide) rfl 6 (by decide) wd3 (fun _ h9 => h9) (by decide) rfl dX12_read_166 ?_
            refine lv_if_ne (tgt := 176) hx hb dX12_read_169 (by decide) (fun c_69 => ?_) (fun c_69 => ?_)
            · skip
              have h_70 := s_ne (rfl : (im_64 36 6).toInt = _) (show (0 : Int32).toInt = 0 from rfl) c_69
              refine lv_aload_n hx hb dX12_read_176 rfl (lv_at hl 3 rfl) ?_
              refine h_geti (ci := 12) (C := RX12) (F := TX12) (N := 86) hx hb hts in12 hown hK hH (by decide) (rfl : kd 36 = 12) (by decide) rfl 6 (by decide) wd3 (fun _ h9 => h9) (by decide) rfl dX12_read_177 ?_
              have hp_71 : (im_64 36 2).toInt = (0 : Int32).toInt := congrArg Int32.toInt (((hfr_65 36 2 (by omega)).trans (up2_at _ _ _ _)))
              have hl_72 : (0 : Int32).toInt = 0 := rfl
              have hV_73 : (im_64 36 2).toInt = 0 := (by omega)
              have hwr := hM3.1.1
              have hp_74 : (im_64 36 33).toInt = ((im_10 36 33) : Int32).toInt := congrArg Int32.toInt (((hfr_65 36 33 (by omega)).trans ((up2_k _ _ (by decide)).trans (hfr_j1 36 33 (by omega)))))
              have hp_75 : (im_64 36 6).toInt = ((im_64 36 6) : Int32).toInt := rfl
              have hV_76 : MRQ im_64 c2 (qs ((i 36 2).toInt.toNat + 1)).2.2 ∧ mcP im_64 (if 0 < (c2 3 4).toInt then [] else (csA c2 (c2 3 8).toInt.toNat).take 24) := ⟨hM3, (by rw [if_pos (by omega)]; exact ⟨by rw [List.length_nil]; omega, fun c s t h => by simp at h⟩)⟩
              have hV_77 : NR im_64 := (NR_fr hnr (funext fun b9 => ((hfr_65 399 b9 (by omega)).trans ((up2_o _ _ (by omega)).trans ((hfr_j1 399 b9 (by omega)).trans ((hfr_11 399 b9 (by omega)).trans (hfr_4 399 b9 (by omega))))))) (funext fun b9 => ((hfr_65 398 b9 (by omega)).trans ((up2_o _ _ (by omega)).trans ((hfr_j1 398 b9 (by omega)).trans ((hfr_11 398 b9 (by omega)).trans (hfr_4 398 b9 (by omega))))))))
              have hL1 := lnF_le T (i 36 2).toInt.toNat (i 36 2).toInt.toNat
              have hL2 := (frF_y (T := T) (n := (i 36 2).toInt.toNat) (k := (i 36 2).toInt.toNat) (Or.inl rfl)).2
              have hd4 := hi_lp_14_4
              rw [hke] at hd4
              have hd5 := (hd4.resolve_left (fun q => by have := q.1; omega)).2
              have hd6 : (c2 3 1).toInt = ((qs ((i 36 2).toInt.toNat + 1)).1 3 1).toInt := congrArg Int32.toInt (en_d ⟨i2, h6, h7⟩)
              have hV_78 : (im_64 36 7).toInt = (c2 3 1).toInt := ((congrArg Int32.toInt (show im_64 36 7 = j1 36 7 from ((hfr_65 36 7 (by omega)).trans (up2_o _ _ (by omega))))).trans (hd5.trans hd6.symm))
              have hp_79 : (im_64 36 0).toInt = ((im_3 36 0) : Int32).toInt := congrArg Int32.toInt (((hfr_65 36 0 (by omega)).trans ((up2_k _ _ (by decide)).trans ((hfr_j1 36 0 (by omega)).trans (hfr_11 36 0 (by omega))))))
              have hp_80 : (im_64 36 6).toInt = ((im_64 36 6) : Int32).toInt := rfl
              have hV_81 : (im_64 36 0).toInt = 0 ∧ ((im_64 36 6) : Int32).toInt = (im_64 36 6).toInt := ⟨by omega, by omega⟩
              exact sj_zret hx hb hr hlocks rfl hS im_64 ⟨hO_66, (fun a b ha => ((hfr_65 a b (by omega)).trans ((up2_o _ _ (by omega)).trans ((hfr_j1 a b (by omega)).trans ((hfr_11 a b (by omega)).trans (hfr_4 a b (by omega))))))), ⟨by omega, by omega⟩, hV_73, hV_76, hV_77, hV_78, hV_81⟩ hH (sj_Knil hK) (Nat.le_of_ble_eq_true rfl) (Nat.le_of_ble_eq_true rfl) dX12_read_180
            · skip
              have h_82 := s_eq (rfl : (im_64 36 6).toInt = _) (show (0 : Int32).toInt = 0 from rfl) c_69
              refine lv_aload_n hx hb dX12_read_172 rfl (lv_at hl 3 rfl) ?_
              have hwt_83 : (im_64 36 33).toInt = ((im_10 36 33) : Int32).toInt := congrArg Int32.toInt ((hfr_65 36 33 (by omega)).trans ((up2_k _ _ (by decide)).trans (hfr_j1 36 33 (by omega))))
              refine x_callv (va_runV (As := []) (rest := []) ⟨hx, hb, hml, hown, hts⟩ (m_findCases l D g ka ad im_64 r L d c2 ((qs ((i 36 2).toInt.toNat + 1)).2.1) ((qs ((i 36 2).toInt.toNat + 1)).2.2) hO_66 hR H.size hc2 hM3 (by omega) (NR_fr hnr (funext fun b9 => ((hfr_65 399 b9 (by omega)).trans ((up2_o _ _ (by omega)).trans ((hfr_j1 399 b9 (by omega)).trans ((hfr_11 399 b9 (by omega)).trans (hfr_4 399 b9 (by omega))))))) (funext fun b9 => ((hfr_65 398 b9 (by omega)).trans ((up2_o _ _ (by omega)).trans ((hfr_j1 398 b9 (by omega)).trans ((hfr_11 398 b9 (by omega)).trans (hfr_4 398 b9 (by omega))))))))) (cwV 0 hts gX12_read_X12_findCases rfl rfl rfl (by decide +kernel) ⟨(Nat.le_of_ble_eq_true rfl), (Nat.le_of_ble_eq_true rfl)⟩) (x_preV (q := (RX12, TX12, 86)) hH hK (q_obj (by decide) (rfl : kd 36 = 12) (by decide)) rfl gxb (gxw hE hS (x_F hH hS hA))) rfl rfl hl.1 rfl (lv_room (Nat.le_of_ble_eq_true rfl)) dX12_read_173 ⟨(Nat.le_of_ble_eq_true rfl), (Nat.le_of_ble_eq_true rfl)⟩) hH hS hA rfl rfl (fun im_86 H locs hw_85 hH hS => ?_)
              have hH : sj_H D A (hwc g ka im_86 r L d) H := hH
              obtain ⟨hO_88, hfr_87, hx2_89, hx2_90⟩ := hw_85
              have hmc := hx2_89
              have hnr2 := hx2_90
              refine lv_aload_n hx hb dX12_read_176 rfl (lv_at hl 3 rfl) ?_
              refine h_geti (ci := 12) (C := RX12) (F := TX12) (N := 86) hx hb hts in12 hown hK hH (by decide) (rfl : kd 36 = 12) (by decide) rfl 6 (by decide) wd3 (fun _ h9 => h9) (by decide) rfl dX12_read_177 ?_
              refine sj_i (y := (im_64 36 6)) (hfr_87 36 6 (by omega)) ?_
              have hp_91 : (im_86 36 2).toInt = (0 : Int32).toInt := congrArg Int32.toInt (((hfr_87 36 2 (by omega)).trans ((hfr_65 36 2 (by omega)).trans (up2_at _ _ _ _))))
              have hl_92 : (0 : Int32).toInt = 0 := rfl
              have hV_93 : (im_86 36 2).toInt = 0 := (by omega)
              have hwr := hM3.1.1
              have hwr2 : (im_64 36 6).toInt = ((im_64 36 6) : Int32).toInt := rfl
              have hV_94 : MRQ im_86 c2 (qs ((i 36 2).toInt.toNat + 1)).2.2 ∧ mcP im_86 (if 0 < (c2 3 4).toInt then [] else (csA c2 (c2 3 8).toInt.toNat).take 24) := ⟨(MRQ_fr hM3 (fun b h1 h2 h3 => (hfr_87 36 b (by omega))) (fun a h1 h2 => funext fun b => (hfr_87 a b (by omega)))), (by rw [if_neg (by omega)]; exact hmc)⟩
              have hV_95 : NR im_86 := hnr2
              have hL1 := lnF_le T (i 36 2).toInt.toNat (i 36 2).toInt.toNat
              have hL2 := (frF_y (T := T) (n := (i 36 2).toInt.toNat) (k := (i 36 2).toInt.toNat) (Or.inl rfl)).2
              have hd4 := hi_lp_14_4
              rw [hke] at hd4
              have hd5 := (hd4.resolve_left (fun q => by have := q.1; omega)).2
              have hd6 : (c2 3 1).toInt = ((qs ((i 36 2).toInt.toNat + 1)).1 3 1).toInt := congrArg Int32.toInt (en_d ⟨i2, h6, h7⟩)
              have hV_96 : (im_86 36 7).toInt = (c2 3 1).toInt := ((congrArg Int32.toInt (show im_86 36 7 = j1 36 7 from ((hfr_87 36 7 (by omega)).trans ((hfr_65 36 7 (by omega)).trans (up2_o _ _ (by omega)))))).trans (hd5.trans hd6.symm))
              have hp_97 : (im_86 36 0).toInt = ((im_3 36 0) : Int32).toInt := congrArg Int32.toInt (((hfr_87 36 0 (by omega)).trans ((hfr_65 36 0 (by omega)).trans ((up2_k _ _ (by decide)).trans ((hfr_j1 36 0 (by omega)).trans (hfr_11 36 0 (by omega)))))))
              have hp_98 : (im_86 36 6).toInt = ((im_64 36 6) : Int32).toInt := congrArg Int32.toInt ((hfr_87 36 6 (by omega)))
              have hV_99 : (im_86 36 0).toInt = 0 ∧ ((im_64 36 6) : Int32).toInt = (im_86 36 6).toInt := ⟨by omega, by omega⟩
              exact sj_zret hx hb hr hlocks rfl hS im_86 ⟨hO_88, (fun a b ha => ((hfr_87 a b (by omega)).trans ((hfr_65 a b (by omega)).trans ((up2_o _ _ (by omega)).trans ((hfr_j1 a b (by omega)).trans ((hfr_11 a b (by omega)).trans (hfr_4 a b (by omega)))))))), ⟨by omega, by omega⟩, hV_93, hV_94, hV_95, hV_96, hV_99⟩ hH (sj_Knil hK) (Nat.le_of_ble_eq_true rfl) (Nat.le_of_ble_eq_true rfl) dX12_read_180
        · skip
          have h_100 := s_eq (rfl : (j1 36 11).toInt = _) (show (0 : Int32).toInt = 0 from rfl) c_20
          have hM1 : MRQ (up2 j1 36 2 0) (qs ((i 36 2).toInt.toNat + 1)).1 (qs ((i 36 2).toInt.toNat + 1)).2.2 := (MRQ_fr hM0 (fun b h1 h2 h3 => (up2_o _ _ (by omega))) (fun a h1 h2 => funext fun b => (up2_o _ _ (by omega))))
          unfold mqN at hN0
          have h6a := h6.resolve_right (fun q => by have := q.1; omega)
          refine lv_aload_n hx hb dX12_read_140 rfl (lv_at hl 3 rfl) ?_
          refine lv_iload_n hx hb dX12_read_141 rfl (lv_at hl 2 rfl) ?_
          refine lv_iconst (v := 1) hx hb dX12_read_142 (by decide) ?_
          refine lv_iadd hx hb dX12_read_143 ?_
          obtain ⟨z_101, ez_101, hz_101⟩ := s_add (rfl : u.toInt = _) (show (1 : Int32).toInt = 1 from rfl) (by omega) (by omega)
          refine sj_i ez_101 ?_
          refine lv_bipush (v := 6) hx hb dX12_read_144 (by decide) ?_
          have hl_102 : (6 : Int32).toInt = 6 := rfl
          refine x_callv (va_runV (As := [.int z_101, .int 6]) (rest := []) ⟨hx, hb, hml, hown, hts⟩ (m_note l D g ka ad (up2 j1 36 2 0) r L d z_101 6 hO_18 hR H.size ) (cwV 2 hts gX12_read_X12_note rfl rfl rfl (by decide +kernel) ⟨(Nat.le_of_ble_eq_true rfl), (Nat.le_of_ble_eq_true rfl)⟩) (x_preV (q := (RX12, TX12, 86)) hH hK (q_obj (by decide) (rfl : kd 36 = 12) (by decide)) rfl gxb (gxw hE hS (x_F hH hS hA))) rfl rfl hl.1 rfl (lv_room (Nat.le_of_ble_eq_true rfl)) dX12_read_146 ⟨(Nat.le_of_ble_eq_true rfl), (Nat.le_of_ble_eq_true rfl)⟩) hH hS hA rfl rfl (fun im_105 H locs hw_104 hH hS => ?_)
          have hH : sj_H D A (hwc g ka im_105 r L d) H := hH
          obtain ⟨hO_107, hfr_106, hx2_108⟩ := hw_104
          have hno6 := hx2_108
          have hM2 : MRQ im_105 i2 (qs ((i 36 2).toInt.toNat + 1)).2.2 := MRQ_er hM1 h6a.2 (by rw [show (((lnF T (i 36 2).toInt.toNat ((i 36 2).toInt.toNat + 1)) : Nat) : Int) = z_101.toInt by omega]; exact hno6) hc04 (hqO _ (Nat.le_refl _)).2.1.2.2.1
          refine lv_aload_n hx hb dX12_read_149 rfl (lv_at hl 3 rfl) ?_
          have bx_109 : (0 : Int) ≤ (j1 36 10).toInt ∧ (j1 36 10).toInt ≤ 1 := hO_j1 36 10
          refine h_geti (ci := 12) (C := RX12) (F := TX12) (N := 86) hx hb hts in12 hown hK hH (by decide) (rfl : kd 36 = 12) (by decide) rfl 10 (by decide) wd2 (fun _ h9 => h9) (by decide) rfl dX12_read_150 ?_
          refine sj_i (y := (j1 36 10)) ((hfr_106 36 10 (by omega)).trans (up2_k _ _ (by decide))) ?_
          refine lv_if_eq (tgt := 165) hx hb dX12_read_153 (by decide) (fun c_110 => ?_) (fun c_110 => ?_)
          · skip
            have h_111 := s_eq (rfl : (j1 36 10).toInt = _) (show (0 : Int32).toInt = 0 from rfl) c_110
            have hc04b : 0 ≤ (i2 3 4).toInt := addE_0 hc04 h6a.2
            have hW2 := hM2.2.1
            unfold mqW at hW2
            have hp_112 : (im_105 36 10).toInt = ((j1 36 10) : Int32).toInt := congrArg Int32.toInt (((hfr_106 36 10 (by omega)).trans (up2_k _ _ (by decide))))
            have h7b := (h7.resolve_left (fun q => by have := q.1; omega)).2
            have hM3 : MRQ im_105 c2 (qs ((i 36 2).toInt.toNat + 1)).2.2 := by rw [h7b]; exact hM2
            refine lv_aload_n hx hb dX12_read_165 rfl (lv_at hl 3 rfl) ?_
            have bx_113 : (0 : Int) ≤ (im_105 36 6).toInt ∧ (im_105 36 6).toInt ≤ 20 := hO_107 36 6
            refine h_geti (ci := 12) (C := RX12) (F := TX12) (N := 86) hx hb hts in12 hown hK hH (by decide) (rfl : kd 36 = 12) (by decide) rfl 6 (by decide) wd3 (fun _ h9 => h9) (by decide) rfl dX12_read_166 ?_
            refine lv_if_ne (tgt := 176) hx hb dX12_read_169 (by decide) (fun c_114 => ?_) (fun c_114 => ?_)
            · skip
              have h_115 := s_ne (rfl : (im_105 36 6).toInt = _) (show (0 : Int32).toInt = 0 from rfl) c_114
              refine lv_aload_n hx hb dX12_read_176 rfl (lv_at hl 3 rfl) ?_
              refine h_geti (ci := 12) (C := RX12) (F := TX12) (N := 86) hx hb hts in12 hown hK hH (by decide) (rfl : kd 36 = 12) (by decide) rfl 6 (by decide) wd3 (fun _ h9 => h9) (by decide) rfl dX12_read_177 ?_
              have hp_116 : (im_105 36 2).toInt = (0 : Int32).toInt := congrArg Int32.toInt (((hfr_106 36 2 (by omega)).trans (up2_at _ _ _ _)))
              have hl_117 : (0 : Int32).toInt = 0 := rfl
              have hV_118 : (im_105 36 2).toInt = 0 := (by omega)
              have hwr := hM3.1.1
              have hp_119 : (im_105 36 33).toInt = ((im_10 36 33) : Int32).toInt := congrArg Int32.toInt (((hfr_106 36 33 (by omega)).trans ((up2_k _ _ (by decide)).trans (hfr_j1 36 33 (by omega)))))
              have hp_120 : (im_105 36 6).toInt = ((im_105 36 6) : Int32).toInt := rfl
              have hV_121 : MRQ im_105 c2 (qs ((i 36 2).toInt.toNat + 1)).2.2 ∧ mcP im_105 (if 0 < (c2 3 4).toInt then [] else (csA c2 (c2 3 8).toInt.toNat).take 24) := ⟨hM3, (by rw [if_pos (by omega)]; exact ⟨by rw [List.length_nil]; omega, fun c s t h => by simp at h⟩)⟩
              have hV_122 : NR im_105 := (NR_fr hnr (funext fun b9 => ((hfr_106 399 b9 (by omega)).trans ((up2_o _ _ (by omega)).trans ((hfr_j1 399 b9 (by omega)).trans ((hfr_11 399 b9 (by omega)).trans (hfr_4 399 b9 (by omega))))))) (funext fun b9 => ((hfr_106 398 b9 (by omega)).trans ((up2_o _ _ (by omega)).trans ((hfr_j1 398 b9 (by omega)).trans ((hfr_11 398 b9 (by omega)).trans (hfr_4 398 b9 (by omega))))))))
              have hL1 := lnF_le T (i 36 2).toInt.toNat (i 36 2).toInt.toNat
              have hL2 := (frF_y (T := T) (n := (i 36 2).toInt.toNat) (k := (i 36 2).toInt.toNat) (Or.inl rfl)).2
              have hd4 := hi_lp_14_4
              rw [hke] at hd4
              have hd5 := (hd4.resolve_left (fun q => by have := q.1; omega)).2
              have hd6 : (c2 3 1).toInt = ((qs ((i 36 2).toInt.toNat + 1)).1 3 1).toInt := congrArg Int32.toInt (en_d ⟨i2, h6, h7⟩)
              have hV_123 : (im_105 36 7).toInt = (c2 3 1).toInt := ((congrArg Int32.toInt (show im_105 36 7 = j1 36 7 from ((hfr_106 36 7 (by omega)).trans (up2_o _ _ (by omega))))).trans (hd5.trans hd6.symm))
              have hp_124 : (im_105 36 0).toInt = ((im_3 36 0) : Int32).toInt := congrArg Int32.toInt (((hfr_106 36 0 (by omega)).trans ((up2_k _ _ (by decide)).trans ((hfr_j1 36 0 (by omega)).trans (hfr_11 36 0 (by omega))))))
              have hp_125 : (im_105 36 6).toInt = ((im_105 36 6) : Int32).toInt := rfl
              have hV_126 : (im_105 36 0).toInt = 0 ∧ ((im_105 36 6) : Int32).toInt = (im_105 36 6).toInt := ⟨by omega, by omega⟩
              exact sj_zret hx hb hr hlocks rfl hS im_105 ⟨hO_107, (fun a b ha => ((hfr_106 a b (by omega)).trans ((up2_o _ _ (by omega)).trans ((hfr_j1 a b (by omega)).trans ((hfr_11 a b (by omega)).trans (hfr_4 a b (by omega))))))), ⟨by omega, by omega⟩, hV_118, hV_121, hV_122, hV_123, hV_126⟩ hH (sj_Knil hK) (Nat.le_of_ble_eq_true rfl) (Nat.le_of_ble_eq_true rfl) dX12_read_180
            · skip
              have h_127 := s_eq (rfl : (im_105 36 6).toInt = _) (show (0 : Int32).toInt = 0 from rfl) c_114
              refine lv_aload_n hx hb dX12_read_172 rfl (lv_at hl 3 rfl) ?_
              have hwt_128 : (im_105 36 33).toInt = ((im_10 36 33) : Int32).toInt := congrArg Int32.toInt ((hfr_106 36 33 (by omega)).trans ((up2_k _ _ (by decide)).trans (hfr_j1 36 33 (by omega))))
              refine x_callv (va_runV (As := []) (rest := []) ⟨hx, hb, hml, hown, hts⟩ (m_findCases l D g ka ad im_105 r L d c2 ((qs ((i 36 2).toInt.toNat + 1)).2.1) ((qs ((i 36 2).toInt.toNat + 1)).2.2) hO_107 hR H.size hc2 hM3 (by omega) (NR_fr hnr (funext fun b9 => ((hfr_106 399 b9 (by omega)).trans ((up2_o _ _ (by omega)).trans ((hfr_j1 399 b9 (by omega)).trans ((hfr_11 399 b9 (by omega)).trans (hfr_4 399 b9 (by omega))))))) (funext fun b9 => ((hfr_106 398 b9 (by omega)).trans ((up2_o _ _ (by omega)).trans ((hfr_j1 398 b9 (by omega)).trans ((hfr_11 398 b9 (by omega)).trans (hfr_4 398 b9 (by omega))))))))) (cwV 0 hts gX12_read_X12_findCases rfl rfl rfl (by decide +kernel) ⟨(Nat.le_of_ble_eq_true rfl), (Nat.le_of_ble_eq_true rfl)⟩) (x_preV (q := (RX12, TX12, 86)) hH hK (q_obj (by decide) (rfl : kd 36 = 12) (by decide)) rfl gxb (gxw hE hS (x_F hH hS hA))) rfl rfl hl.1 rfl (lv_room (Nat.le_of_ble_eq_true rfl)) dX12_read_173 ⟨(Nat.le_of_ble_eq_true rfl), (Nat.le_of_ble_eq_true rfl)⟩) hH hS hA rfl rfl (fun im_131 H locs hw_130 hH hS => ?_)
              have hH : sj_H D A (hwc g ka im_131 r L d) H := hH
              obtain ⟨hO_133, hfr_132, hx2_134, hx2_135⟩ := hw_130
              have hmc := hx2_134
              have hnr2 := hx2_135
              refine lv_aload_n hx hb dX12_read_176 rfl (lv_at hl 3 rfl) ?_
              refine h_geti (ci := 12) (C := RX12) (F := TX12) (N := 86) hx hb hts in12 hown hK hH (by decide) (rfl : kd 36 = 12) (by decide) rfl 6 (by decide) wd3 (fun _ h9 => h9) (by decide) rfl dX12_read_177 ?_
              refine sj_i (y := (im_105 36 6)) (hfr_132 36 6 (by omega)) ?_
              have hp_136 : (im_131 36 2).toInt = (0 : Int32).toInt := congrArg Int32.toInt (((hfr_132 36 2 (by omega)).trans ((hfr_106 36 2 (by omega)).trans (up2_at _ _ _ _))))
              have hl_137 : (0 : Int32).toInt = 0 := rfl
              have hV_138 : (im_131 36 2).toInt = 0 := (by omega)
              have hwr := hM3.1.1
              have hwr2 : (im_105 36 6).toInt = ((im_105 36 6) : Int32).toInt := rfl
              have hV_139 : MRQ im_131 c2 (qs ((i 36 2).toInt.toNat + 1)).2.2 ∧ mcP im_131 (if 0 < (c2 3 4).toInt then [] else (csA c2 (c2 3 8).toInt.toNat).take 24) := ⟨(MRQ_fr hM3 (fun b h1 h2 h3 => (hfr_132 36 b (by omega))) (fun a h1 h2 => funext fun b => (hfr_132 a b (by omega)))), (by rw [if_neg (by omega)]; exact hmc)⟩
              have hV_140 : NR im_131 := hnr2
              have hL1 := lnF_le T (i 36 2).toInt.toNat (i 36 2).toInt.toNat
              have hL2 := (frF_y (T := T) (n := (i 36 2).toInt.toNat) (k := (i 36 2).toInt.toNat) (Or.inl rfl)).2
              have hd4 := hi_lp_14_4
              rw [hke] at hd4
              have hd5 := (hd4.resolve_left (fun q => by have := q.1; omega)).2
              have hd6 : (c2 3 1).toInt = ((qs ((i 36 2).toInt.toNat + 1)).1 3 1).toInt := congrArg Int32.toInt (en_d ⟨i2, h6, h7⟩)
              have hV_141 : (im_131 36 7).toInt = (c2 3 1).toInt := ((congrArg Int32.toInt (show im_131 36 7 = j1 36 7 from ((hfr_132 36 7 (by omega)).trans ((hfr_106 36 7 (by omega)).trans (up2_o _ _ (by omega)))))).trans (hd5.trans hd6.symm))
              have hp_142 : (im_131 36 0).toInt = ((im_3 36 0) : Int32).toInt := congrArg Int32.toInt (((hfr_132 36 0 (by omega)).trans ((hfr_106 36 0 (by omega)).trans ((up2_k _ _ (by decide)).trans ((hfr_j1 36 0 (by omega)).trans (hfr_11 36 0 (by omega)))))))
              have hp_143 : (im_131 36 6).toInt = ((im_105 36 6) : Int32).toInt := congrArg Int32.toInt ((hfr_132 36 6 (by omega)))
              have hV_144 : (im_131 36 0).toInt = 0 ∧ ((im_105 36 6) : Int32).toInt = (im_131 36 6).toInt := ⟨by omega, by omega⟩
              exact sj_zret hx hb hr hlocks rfl hS im_131 ⟨hO_133, (fun a b ha => ((hfr_132 a b (by omega)).trans ((hfr_106 a b (by omega)).trans ((up2_o _ _ (by omega)).trans ((hfr_j1 a b (by omega)).trans ((hfr_11 a b (by omega)).trans (hfr_4 a b (by omega)))))))), ⟨by omega, by omega⟩, hV_138, hV_139, hV_140, hV_141, hV_144⟩ hH (sj_Knil hK) (Nat.le_of_ble_eq_true rfl) (Nat.le_of_ble_eq_true rfl) dX12_read_180
          · skip
            have h_145 := s_ne (rfl : (j1 36 10).toInt = _) (show (0 : Int32).toInt = 0 from rfl) c_110
            have hc04b : 0 ≤ (i2 3 4).toInt := addE_0 hc04 h6a.2
            have hW2 := hM2.2.1
            unfold mqW at hW2
            have hp_146 : (im_105 36 10).toInt = ((j1 36 10) : Int32).toInt := congrArg Int32.toInt (((hfr_106 36 10 (by omega)).trans (up2_k _ _ (by decide))))
            have h7a := h7.resolve_right (fun q => by have := q.1; omega)
            refine lv_aload_n hx hb dX12_read_156 rfl (lv_at hl 3 rfl) ?_
            refine lv_iload_n hx hb dX12_read_157 rfl (lv_at hl 2 rfl) ?_
            refine lv_iconst (v := 1) hx hb dX12_read_158 (by decide) ?_
            refine lv_iadd hx hb dX12_read_159 ?_
            obtain ⟨z_147, ez_147, hz_147⟩ := s_add (rfl : u.toInt = _) (show (1 : Int32).toInt = 1 from rfl) (by omega) (by omega)
            refine sj_i ez_147 ?_
            refine lv_bipush (v := 7) hx hb dX12_read_160 (by decide) ?_
            have hl_148 : (7 : Int32).toInt = 7 := rfl
            refine x_callv (va_runV (As := [.int z_147, .int 7]) (rest := []) ⟨hx, hb, hml, hown, hts⟩ (m_note l D g ka ad im_105 r L d z_147 7 hO_107 hR H.size ) (cwV 2 hts gX12_read_X12_note rfl rfl rfl (by decide +kernel) ⟨(Nat.le_of_ble_eq_true rfl), (Nat.le_of_ble_eq_true rfl)⟩) (x_preV (q := (RX12, TX12, 86)) hH hK (q_obj (by decide) (rfl : kd 36 = 12) (by decide)) rfl gxb (gxw hE hS (x_F hH hS hA))) rfl rfl hl.1 rfl (lv_room (Nat.le_of_ble_eq_true rfl)) dX12_read_162 ⟨(Nat.le_of_ble_eq_true rfl), (Nat.le_of_ble_eq_true rfl)⟩) hH hS hA rfl rfl (fun im_151 H locs hw_150 hH hS => ?_)
            have hH : sj_H D A (hwc g ka im_151 r L d) H := hH
            obtain ⟨hO_153, hfr_152, hx2_154⟩ := hw_150
            have hno7 := hx2_154
            have hM3 : MRQ im_151 c2 (qs ((i 36 2).toInt.toNat + 1)).2.2 := MRQ_er hM2 h7a.2 (by rw [show (((lnF T (i 36 2).toInt.toNat ((i 36 2).toInt.toNat + 1)) : Nat) : Int) = z_147.toInt by omega]; exact hno7) hc04b (hqO _ (Nat.le_refl _)).2.1.2.2.1
            refine lv_aload_n hx hb dX12_read_165 rfl (lv_at hl 3 rfl) ?_
            have bx_155 : (0 : Int) ≤ (im_151 36 6).toInt ∧ (im_151 36 6).toInt ≤ 20 := hO_153 36 6
            refine h_geti (ci := 12) (C := RX12) (F := TX12) (N := 86) hx hb hts in12 hown hK hH (by decide) (rfl : kd 36 = 12) (by decide) rfl 6 (by decide) wd3 (fun _ h9 => h9) (by decide) rfl dX12_read_166 ?_
            refine lv_if_ne (tgt := 176) hx hb dX12_read_169 (by decide) (fun c_156 => ?_) (fun c_156 => ?_)
            · skip
              have h_157 := s_ne (rfl : (im_151 36 6).toInt = _) (show (0 : Int32).toInt = 0 from rfl) c_156
              refine lv_aload_n hx hb dX12_read_176 rfl (lv_at hl 3 rfl) ?_
              refine h_geti (ci := 12) (C := RX12) (F := TX12) (N := 86) hx hb hts in12 hown hK hH (by decide) (rfl : kd 36 = 12) (by decide) rfl 6 (by decide) wd3 (fun _ h9 => h9) (by decide) rfl dX12_read_177 ?_
              have hp_158 : (im_151 36 2).toInt = (0 : Int32).toInt := congrArg Int32.toInt (((hfr_152 36 2 (by omega)).trans ((hfr_106 36 2 (by omega)).trans (up2_at _ _ _ _))))
              have hl_159 : (0 : Int32).toInt = 0 := rfl
              have hV_160 : (im_151 36 2).toInt = 0 := (by omega)
              have hwr := hM3.1.1
              have hp_161 : (im_151 36 33).toInt = ((im_10 36 33) : Int32).toInt := congrArg Int32.toInt (((hfr_152 36 33 (by omega)).trans ((hfr_106 36 33 (by omega)).trans ((up2_k _ _ (by decide)).trans (hfr_j1 36 33 (by omega))))))
              have hp_162 : (im_151 36 6).toInt = ((im_151 36 6) : Int32).toInt := rfl
              have hV_163 : MRQ im_151 c2 (qs ((i 36 2).toInt.toNat + 1)).2.2 ∧ mcP im_151 (if 0 < (c2 3 4).toInt then [] else (csA c2 (c2 3 8).toInt.toNat).take 24) := ⟨hM3, (by rw [if_pos (by omega)]; exact ⟨by rw [List.length_nil]; omega, fun c s t h => by simp at h⟩)⟩
              have hV_164 : NR im_151 := (NR_fr hnr (funext fun b9 => ((hfr_152 399 b9 (by omega)).trans ((hfr_106 399 b9 (by omega)).trans ((up2_o _ _ (by omega)).trans ((hfr_j1 399 b9 (by omega)).trans ((hfr_11 399 b9 (by omega)).trans (hfr_4 399 b9 (by omega)))))))) (funext fun b9 => ((hfr_152 398 b9 (by omega)).trans ((hfr_106 398 b9 (by omega)).trans ((up2_o _ _ (by omega)).trans ((hfr_j1 398 b9 (by omega)).trans ((hfr_11 398 b9 (by omega)).trans (hfr_4 398 b9 (by omega)))))))))
              have hL1 := lnF_le T (i 36 2).toInt.toNat (i 36 2).toInt.toNat
              have hL2 := (frF_y (T := T) (n := (i 36 2).toInt.toNat) (k := (i 36 2).toInt.toNat) (Or.inl rfl)).2
              have hd4 := hi_lp_14_4
              rw [hke] at hd4
              have hd5 := (hd4.resolve_left (fun q => by have := q.1; omega)).2
              have hd6 : (c2 3 1).toInt = ((qs ((i 36 2).toInt.toNat + 1)).1 3 1).toInt := congrArg Int32.toInt (en_d ⟨i2, h6, h7⟩)
              have hV_165 : (im_151 36 7).toInt = (c2 3 1).toInt := ((congrArg Int32.toInt (show im_151 36 7 = j1 36 7 from ((hfr_152 36 7 (by omega)).trans ((hfr_106 36 7 (by omega)).trans (up2_o _ _ (by omega)))))).trans (hd5.trans hd6.symm))
              have hp_166 : (im_151 36 0).toInt = ((im_3 36 0) : Int32).toInt := congrArg Int32.toInt (((hfr_152 36 0 (by omega)).trans ((hfr_106 36 0 (by omega)).trans ((up2_k _ _ (by decide)).trans ((hfr_j1 36 0 (by omega)).trans (hfr_11 36 0 (by omega)))))))
              have hp_167 : (im_151 36 6).toInt = ((im_151 36 6) : Int32).toInt := rfl
              have hV_168 : (im_151 36 0).toInt = 0 ∧ ((im_151 36 6) : Int32).toInt = (im_151 36 6).toInt := ⟨by omega, by omega⟩
              exact sj_zret hx hb hr hlocks rfl hS im_151 ⟨hO_153, (fun a b ha => ((hfr_152 a b (by omega)).trans ((hfr_106 a b (by omega)).trans ((up2_o _ _ (by omega)).trans ((hfr_j1 a b (by omega)).trans ((hfr_11 a b (by omega)).trans (hfr_4 a b (by omega)))))))), ⟨by omega, by omega⟩, hV_160, hV_163, hV_164, hV_165, hV_168⟩ hH (sj_Knil hK) (Nat.le_of_ble_eq_true rfl) (Nat.le_of_ble_eq_true rfl) dX12_read_180
            · skip
              have h_169 := s_eq (rfl : (im_151 36 6).toInt = _) (show (0 : Int32).toInt = 0 from rfl) c_156
              refine lv_aload_n hx hb dX12_read_172 rfl (lv_at hl 3 rfl) ?_
              have hwt_170 : (im_151 36 33).toInt = ((im_10 36 33) : Int32).toInt := congrArg Int32.toInt ((hfr_152 36 33 (by omega)).trans ((hfr_106 36 33 (by omega)).trans ((up2_k _ _ (by decide)).trans (hfr_j1 36 33 (by omega)))))
              refine x_callv (va_runV (As := []) (rest := []) ⟨hx, hb, hml, hown, hts⟩ (m_findCases l D g ka ad im_151 r L d c2 ((qs ((i 36 2).toInt.toNat + 1)).2.1) ((qs ((i 36 2).toInt.toNat + 1)).2.2) hO_153 hR H.size hc2 hM3 (by omega) (NR_fr hnr (funext fun b9 => ((hfr_152 399 b9 (by omega)).trans ((hfr_106 399 b9 (by omega)).trans ((up2_o _ _ (by omega)).trans ((hfr_j1 399 b9 (by omega)).trans ((hfr_11 399 b9 (by omega)).trans (hfr_4 399 b9 (by omega)))))))) (funext fun b9 => ((hfr_152 398 b9 (by omega)).trans ((hfr_106 398 b9 (by omega)).trans ((up2_o _ _ (by omega)).trans ((hfr_j1 398 b9 (by omega)).trans ((hfr_11 398 b9 (by omega)).trans (hfr_4 398 b9 (by omega)))))))))) (cwV 0 hts gX12_read_X12_findCases rfl rfl rfl (by decide +kernel) ⟨(Nat.le_of_ble_eq_true rfl), (Nat.le_of_ble_eq_true rfl)⟩) (x_preV (q := (RX12, TX12, 86)) hH hK (q_obj (by decide) (rfl : kd 36 = 12) (by decide)) rfl gxb (gxw hE hS (x_F hH hS hA))) rfl rfl hl.1 rfl (lv_room (Nat.le_of_ble_eq_true rfl)) dX12_read_173 ⟨(Nat.le_of_ble_eq_true rfl), (Nat.le_of_ble_eq_true rfl)⟩) hH hS hA rfl rfl (fun im_173 H locs hw_172 hH hS => ?_)
              have hH : sj_H D A (hwc g ka im_173 r L d) H := hH
              obtain ⟨hO_175, hfr_174, hx2_176, hx2_177⟩ := hw_172
              have hmc := hx2_176
              have hnr2 := hx2_177
              refine lv_aload_n hx hb dX12_read_176 rfl (lv_at hl 3 rfl) ?_
              refine h_geti (ci := 12) (C := RX12) (F := TX12) (N := 86) hx hb hts in12 hown hK hH (by decide) (rfl : kd 36 = 12) (by decide) rfl 6 (by decide) wd3 (fun _ h9 => h9) (by decide) rfl dX12_read_177 ?_
              refine sj_i (y := (im_151 36 6)) (hfr_174 36 6 (by omega)) ?_
              have hp_178 : (im_173 36 2).toInt = (0 : Int32).toInt := congrArg Int32.toInt (((hfr_174 36 2 (by omega)).trans ((hfr_152 36 2 (by omega)).trans ((hfr_106 36 2 (by omega)).trans (up2_at _ _ _ _)))))
              have hl_179 : (0 : Int32).toInt = 0 := rfl
              have hV_180 : (im_173 36 2).toInt = 0 := (by omega)
              have hwr := hM3.1.1
              have hwr2 : (im_151 36 6).toInt = ((im_151 36 6) : Int32).toInt := rfl
              have hV_181 : MRQ im_173 c2 (qs ((i 36 2).toInt.toNat + 1)).2.2 ∧ mcP im_173 (if 0 < (c2 3 4).toInt then [] else (csA c2 (c2 3 8).toInt.toNat).take 24) := ⟨(MRQ_fr hM3 (fun b h1 h2 h3 => (hfr_174 36 b (by omega))) (fun a h1 h2 => funext fun b => (hfr_174 a b (by omega)))), (by rw [if_neg (by omega)]; exact hmc)⟩
              have hV_182 : NR im_173 := hnr2
              have hL1 := lnF_le T (i 36 2).toInt.toNat (i 36 2).toInt.toNat
              have hL2 := (frF_y (T := T) (n := (i 36 2).toInt.toNat) (k := (i 36 2).toInt.toNat) (Or.inl rfl)).2
              have hd4 := hi_lp_14_4
              rw [hke] at hd4
              have hd5 := (hd4.resolve_left (fun q => by have := q.1; omega)).2
              have hd6 : (c2 3 1).toInt = ((qs ((i 36 2).toInt.toNat + 1)).1 3 1).toInt := congrArg Int32.toInt (en_d ⟨i2, h6, h7⟩)
              have hV_183 : (im_173 36 7).toInt = (c2 3 1).toInt := ((congrArg Int32.toInt (show im_173 36 7 = j1 36 7 from ((hfr_174 36 7 (by omega)).trans ((hfr_152 36 7 (by omega)).trans ((hfr_106 36 7 (by omega)).trans (up2_o _ _ (by omega))))))).trans (hd5.trans hd6.symm))
              have hp_184 : (im_173 36 0).toInt = ((im_3 36 0) : Int32).toInt := congrArg Int32.toInt (((hfr_174 36 0 (by omega)).trans ((hfr_152 36 0 (by omega)).trans ((hfr_106 36 0 (by omega)).trans ((up2_k _ _ (by decide)).trans ((hfr_j1 36 0 (by omega)).trans (hfr_11 36 0 (by omega))))))))
              have hp_185 : (im_173 36 6).toInt = ((im_151 36 6) : Int32).toInt := congrArg Int32.toInt ((hfr_174 36 6 (by omega)))
              have hV_186 : (im_173 36 0).toInt = 0 ∧ ((im_151 36 6) : Int32).toInt = (im_173 36 6).toInt := ⟨by omega, by omega⟩
              exact sj_zret hx hb hr hlocks rfl hS im_173 ⟨hO_175, (fun a b ha => ((hfr_174 a b (by omega)).trans ((hfr_152 a b (by omega)).trans ((hfr_106 a b (by omega)).trans ((up2_o _ _ (by omega)).trans ((hfr_j1 a b (by omega)).trans ((hfr_11 a b (by omega)).trans (hfr_4 a b (by omega))))))))), ⟨by omega, by omega⟩, hV_180, hV_181, hV_182, hV_183, hV_186⟩ hH (sj_Knil hK) (Nat.le_of_ble_eq_true rfl) (Nat.le_of_ble_eq_true rfl) dX12_read_180
      · skip
        have h_187 := s_nlt (rfl : (i 36 2).toInt = _) (rfl : f.toInt = _) c_16
        have hst := hqs f.toInt.toNat (by omega)
        refine lv_iload_n hx hb dX12_read_27 rfl (lv_at hl 0 rfl) ?_
        refine lv_aload_n hx hb dX12_read_28 rfl (lv_at hl 3 rfl) ?_
        refine h_geti (ci := 12) (C := RX12) (F := TX12) (N := 86) hx hb hts in12 hown hK hH (by decide) (rfl : kd 36 = 12) (by decide) rfl 2 (by decide) wd0 (fun _ h9 => h9) (by decide) rfl dX12_read_29 ?_
        refine sj_i (y := (i 36 2)) ((hfr_j1 36 2 (by omega)).trans ((hfr_11 36 2 (by omega)).trans (hfr_4 36 2 (by omega)))) ?_
        refine lv_icmp_eq (tgt := 46) hx hb dX12_read_32 (by decide) (fun c_188 => ?_) (fun c_188 => ?_)
        · skip
          have h_189 := s_eq (rfl : f.toInt = _) (rfl : (i 36 2).toInt = _) c_188
          have hly : f.toInt.toNat = (i 36 2).toInt.toNat ∨ (T f.toInt.toNat).toInt = 10 := Or.inl (by omega)
          have hfy := frF_y hly
          have hfy1 := hfy.1
          have hfy2 := hfy.2
          obtain ⟨a9, b9, hsk9, hdr9, i9, hO9, hdl9, hli9⟩ := hst.2.2.1 hly
          rw [← hI2, ← hfk] at hsk9
          rw [← hfk] at hdr9
          have hsk91 := hsk9.1
          have hsk92 := hsk9.2.1
          refine lv_aload_n hx hb dX12_read_46 rfl (lv_at hl 3 rfl) ?_
          refine lv_iload_n hx hb dX12_read_47 rfl (lv_at hl 1 rfl) ?_
          refine lv_iload_n hx hb dX12_read_48 rfl (lv_at hl 0 rfl) ?_
          refine x_callv (va_runV (As := [.int v9, .int f]) (rest := []) ⟨hx, hb, hml, hown, hts⟩ (m_takeLine l D g ka ad j1 r L d v9 f hO_j1 hR H.size (by first | omega | decide) (by first | omega | decide) (by first | omega | decide)) (cwV 2 hts gX12_read_X12_takeLine rfl rfl rfl (by decide +kernel) ⟨(Nat.le_of_ble_eq_true rfl), (Nat.le_of_ble_eq_true rfl)⟩) (x_preV (q := (RX12, TX12, 86)) hH hK (q_obj (by decide) (rfl : kd 36 = 12) (by decide)) rfl gxb (gxw hE hS (x_F hH hS hA))) rfl rfl hl.1 rfl (lv_room (Nat.le_of_ble_eq_true rfl)) dX12_read_49 ⟨(Nat.le_of_ble_eq_true rfl), (Nat.le_of_ble_eq_true rfl)⟩) hH hS hA rfl rfl (fun im_192 H locs hw_191 hH hS => ?_)
          have hH : sj_H D A (hwc g ka im_192 r L d) H := hH
          obtain ⟨hO_194, hfr_193, hx2_195⟩ := hw_191
          obtain ⟨a8, b8, hs8, hd8, hw8, hl8⟩ := hx2_195
          rw [show j1 379 = i 379 from funext fun b9 => ((hfr_j1 379 b9 (by omega)).trans ((hfr_11 379 b9 (by omega)).trans (hfr_4 379 b9 (by omega))))] at hs8 hd8 hl8
          have ea : a9 = a8 := skp_u (f := T) (h := i 379) (by omega) (fun k h1 h2 => hTT k (by omega)) hsk9 hs8
          subst ea
          have eb : b9 = b8 := drp_u (f := T) (h := i 379) (by omega) (fun k h1 h2 => hTT k (by omega)) hdr9 hd8
          subst eb
          have hdr91 := hdr9.1
          have hdr92 := hdr9.2.1
          have hLL : lnL (im_192 380) 0 (im_192 36 4).toInt = lnL T a9 b9 := by
            rw [hw8, hl8]
            exact lnL_ext (by omega) (by omega) rfl (fun j hj => (hTT _ (by omega)).symm)
          have hMt : MRQ im_192 (qs f.toInt.toNat).1 (qs f.toInt.toNat).2.2 := (MRQ_fr hi_lp_14_3 (fun b h1 h2 h3 => (hfr_193 36 b (by omega))) (fun a h1 h2 => funext fun b => (hfr_193 a b (by omega))))
          refine lv_iload_n hx hb dX12_read_52 rfl (lv_at hl 0 rfl) ?_
          refine lv_iconst (v := 1) hx hb dX12_read_53 (by decide) ?_
          refine lv_iadd hx hb dX12_read_54 ?_
          obtain ⟨z_196, ez_196, hz_196⟩ := s_add (rfl : f.toInt = _) (show (1 : Int32).toInt = 1 from rfl) (by omega) (by omega)
          refine sj_i ez_196 ?_
          refine lv_istore_n (lv' := [(2, .int z_196), (3, .int f), (1, .int u), (0, .ref (g 36))]) hx hb dX12_read_55 rfl hl (by decide) rfl (fun ls hl => ?_)
          obtain ⟨z_197, ez_197, hz_197⟩ := s_add (rfl : u.toInt = _) (show (1 : Int32).toInt = 1 from rfl) (by omega) (by omega)
          refine lv_iinc (v := z_197) (lv' := [(1, .int z_197), (2, .int z_196), (3, .int f), (0, .ref (g 36))]) hx hb dX12_read_56 hl (k := 2) rfl ez_197 (by decide) rfl (fun ls hl => ?_)
          -- cut at 103
          have ct_198 : ∀  (j4 : Nat → Nat → Int32) (H : Heap) (locs : List Loc) (ls : Array Slot), (j4 36 7).toInt = (i9 3 1).toInt → lnL (j4 380) 0 (j4 36 4).toInt = lnL T a9 b9 → MRQ j4 (qs f.toInt.toNat).1 (qs f.toInt.toNat).2.2 → OkI j4 → (∀ a b, ¬ ((a = 36 ∧ (b = 7))) → j4 a b = im_192 a b) → lv_has ls 5 [(1, .int z_197), (2, .int z_196), (3, .int f), (0, .ref (g 36))] → sj_H D A (hwc g ka j4 r L d) H → va_S A s.heap H locs → W p l e (headSpec wsX12_read ({ frames := 4, cells := 0, slots := 0, locals := 97 })).room s m ([.ref (g 36)] : List Value).toArray below meth c H locs 0 0 (MQ below (sj_Qi (S := (Nat → Nat → Int32)) D (fun v u => OkI u ∧ (∀ a b, ¬ ((a = 36 ∧ (b = 0 ∨ b = 2 ∨ b = 4 ∨ b = 6 ∨ b = 7 ∨ b = 8 ∨ b = 9 ∨ b = 10 ∨ b = 11 ∨ b = 13 ∨ b = 17 ∨ b = 18 ∨ b = 23 ∨ b = 26 ∨ b = 27 ∨ b = 33)) ∨ a = 380 ∨ a = 381 ∨ a = 382 ∨ a = 383 ∨ a = 384 ∨ a = 385 ∨ a = 386 ∨ a = 387 ∨ a = 388 ∨ a = 389 ∨ a = 390 ∨ a = 391 ∨ a = 392 ∨ a = 393 ∨ a = 394 ∨ a = 395 ∨ a = 396 ∨ a = 397 ∨ a = 398 ∨ a = 399 ∨ a = 400 ∨ a = 401) → u a b = i a b) ∧ ((0 : Int) ≤ v.toInt ∧ v.toInt ≤ 20) ∧ ((u 36 2).toInt = 0) ∧ (MRQ u c2 (qs ((i 36 2).toInt.toNat + 1)).2.2 ∧ mcP u (if 0 < (c2 3 4).toInt then [] else (csA c2 (c2 3 8).toInt.toNat).take 24)) ∧ (NR u) ∧ ((u 36 7).toInt = (c2 3 1).toInt) ∧ ((u 36 0).toInt = 0 ∧ v.toInt = (u 36 6).toInt)) (fun u => hwc g ka u r L d) (fun _ => []) A) ([.ref (g 36)] : List Value).toArray s 0 0 A) (F0 m 103 ls []) := by
            intro j4 H locs ls hi_ct_198_0 hi_ct_198_1 hi_ct_198_2 hO_j4 hfr_j4 hl hH hS
            refine lv_aload_n hx hb dX12_read_103 rfl (lv_at hl 3 rfl) ?_
            refine lv_iload_n hx hb dX12_read_104 rfl (lv_at hl 0 rfl) ?_
            rw [show ((lnF T (i 36 2).toInt.toNat f.toInt.toNat : Nat) : Int) = z_197.toInt by omega] at hli9
            refine x_calli (va_runV (As := [.int z_197]) (rest := []) ⟨hx, hb, hml, hown, hts⟩ (m_lineError l D g ka ad j4 r L d z_197 i9 ((qs f.toInt.toNat).2.1) ((qs f.toInt.toNat).2.2) ((qs (f.toInt.toNat + 1)).1) ((qs (f.toInt.toNat + 1)).2.1) ((qs (f.toInt.toNat + 1)).2.2) hO_j4 hR H.size hO9 (hqO (f.toInt.toNat + 1) (by omega)).1 (QI_dl hst.2.1 hdl9) (MRQ_dl hi_ct_198_2 hdl9 hst.2.1.1.2.2.1) hi_ct_198_0 (by rw [hi_ct_198_1]; exact hli9)) (cwV 1 hts gX12_read_X12_lineError rfl rfl rfl (by decide +kernel) ⟨(Nat.le_of_ble_eq_true rfl), (Nat.le_of_ble_eq_true rfl)⟩) (x_preV (q := (RX12, TX12, 86)) hH hK (q_obj (by decide) (rfl : kd 36 = 12) (by decide)) rfl gxb (gxw hE hS (x_F hH hS hA))) rfl rfl hl.1 rfl (lv_room (Nat.le_of_ble_eq_true rfl)) dX12_read_105 ⟨(Nat.le_of_ble_eq_true rfl), (Nat.le_of_ble_eq_true rfl)⟩) hH hS hA rfl rfl (fun r_199 im_201 H locs hw_200 hH hS => ?_)
            have hH : sj_H D A (hwc g ka im_201 r L d) H := hH
            obtain ⟨hO_203, hfr_202, hr_204, hx2_205⟩ := hw_200
            have hr_204 : (0 : Int) ≤ r_199.toInt ∧ r_199.toInt ≤ 5 := hr_204
            have hle := hx2_205
            refine lv_istore (lv' := [(4, .int r_199), (1, .int z_197), (2, .int z_196), (3, .int f), (0, .ref (g 36))]) hx hb dX12_read_108 hl (by decide) rfl (fun ls hl => ?_)
            refine lv_iload hx hb dX12_read_110 (lv_at hl 0 rfl) ?_
            refine lv_if_le (tgt := 122) hx hb dX12_read_112 (by decide) (fun c_206 => ?_) (fun c_206 => ?_)
            · skip
              have h_207 := s_le (rfl : r_199.toInt = _) (show (0 : Int32).toInt = 0 from rfl) c_206
              obtain ⟨z_208, ez_208, hz_208⟩ := s_add (rfl : f.toInt = _) (show (1 : Int32).toInt = 1 from rfl) (by omega) (by omega)
              refine lv_iinc (v := z_208) (lv' := [(3, .int z_208), (4, .int r_199), (1, .int z_197), (2, .int z_196), (0, .ref (g 36))]) hx hb dX12_read_122 hl (k := 3) rfl ez_208 (by decide) rfl (fun ls hl => ?_)
              refine lv_goto (tgt := 19) hx hb dX12_read_125 (by decide) ?_
              have hk9 : (z_208).toInt.toNat = f.toInt.toNat + 1 := by omega
              exact ih_lp_14 z_197 z_196 z_208 _ _ _ ls (by omega) (by omega) (by omega) (by omega) (by omega) (by rw [hk9]; omega) (by rw [hk9]; omega) (by rw [hk9]; exact (hle.resolve_right (fun q => by have := q.1; omega)).2) (by
                        rw [hk9]
                        have h9 : im_201 36 7 = j4 36 7 := (hfr_202 36 7 (by omega))
                        have h8 : (qs (f.toInt.toNat + 1)).1 3 1 = i9 3 1 := li_d hli9
                        exact Or.inr ⟨by omega, by rw [h9, h8]; exact hi_ct_198_0⟩) hO_203 (fun a b ha => ((hfr_202 a b (by omega)).trans ((hfr_j4 a b (by omega)).trans ((hfr_193 a b (by omega)).trans (hfr_j1 a b (by omega)))))) (lv_sub hl [0, 3, 2, 4] rfl) hH hS
            · skip
              have h_209 := s_nle (rfl : r_199.toInt = _) (show (0 : Int32).toInt = 0 from rfl) c_206
              refine lv_aload_n hx hb dX12_read_115 rfl (lv_at hl 4 rfl) ?_
              refine lv_iload_n hx hb dX12_read_116 rfl (lv_at hl 1 rfl) ?_
              refine lv_iload hx hb dX12_read_117 (lv_at hl 0 rfl) ?_
              refine x_callv (va_runV (As := [.int z_197, .int r_199]) (rest := []) ⟨hx, hb, hml, hown, hts⟩ (m_note l D g ka ad im_201 r L d z_197 r_199 hO_203 hR H.size ) (cwV 2 hts gX12_read_X12_note rfl rfl rfl (by decide +kernel) ⟨(Nat.le_of_ble_eq_true rfl), (Nat.le_of_ble_eq_true rfl)⟩) (x_preV (q := (RX12, TX12, 86)) hH hK (q_obj (by decide) (rfl : kd 36 = 12) (by decide)) rfl gxb (gxw hE hS (x_F hH hS hA))) rfl rfl hl.1 rfl (lv_room (Nat.le_of_ble_eq_true rfl)) dX12_read_119 ⟨(Nat.le_of_ble_eq_true rfl), (Nat.le_of_ble_eq_true rfl)⟩) hH hS hA rfl rfl (fun im_212 H locs hw_211 hH hS => ?_)
              have hH : sj_H D A (hwc g ka im_212 r L d) H := hH
              obtain ⟨hO_214, hfr_213, hx2_215⟩ := hw_211
              have hno := hx2_215
              obtain ⟨z_216, ez_216, hz_216⟩ := s_add (rfl : f.toInt = _) (show (1 : Int32).toInt = 1 from rfl) (by omega) (by omega)
              refine lv_iinc (v := z_216) (lv' := [(3, .int z_216), (4, .int r_199), (1, .int z_197), (2, .int z_196), (0, .ref (g 36))]) hx hb dX12_read_122 hl (k := 3) rfl ez_216 (by decide) rfl (fun ls hl => ?_)
              refine lv_goto (tgt := 19) hx hb dX12_read_125 (by decide) ?_
              have hk9 : (z_216).toInt.toNat = f.toInt.toNat + 1 := by omega
              exact ih_lp_14 z_197 z_196 z_216 _ _ _ ls (by omega) (by omega) (by omega) (by omega) (by omega) (by rw [hk9]; omega) (by rw [hk9]; omega) (by rw [hk9]; exact (hle.resolve_left (fun q => by have := q.1; omega)).elim (fun _ q => by rw [q.2.2]; exact MRQ_er q.1 q.2.1 hno (rd_bx hO9).2.2.2.2.2.2.2.1.1 (hst.2.1).1.2.2.1)) (by
                        rw [hk9]
                        have h9 : im_212 36 7 = j4 36 7 := ((hfr_213 36 7 (by omega)).trans (hfr_202 36 7 (by omega)))
                        have h8 : (qs (f.toInt.toNat + 1)).1 3 1 = i9 3 1 := li_d hli9
                        exact Or.inr ⟨by omega, by rw [h9, h8]; exact hi_ct_198_0⟩) hO_214 (fun a b ha => ((hfr_213 a b (by omega)).trans ((hfr_202 a b (by omega)).trans ((hfr_j4 a b (by omega)).trans ((hfr_193 a b (by omega)).trans (hfr_j1 a b (by omega))))))) (lv_sub hl [0, 3, 2, 4] rfl) hH hS
          refine lv_iload_n hx hb dX12_read_59 rfl (lv_at hl 0 rfl) ?_
          refine lv_iconst (v := 1) hx hb dX12_read_60 (by decide) ?_
          refine lv_icmp_ne (tgt := 103) hx hb dX12_read_61 (by decide) (fun c_217 => ?_) (fun c_217 => ?_)
          · skip
            have h_218 := s_ne (rfl : z_197.toInt = _) (show (1 : Int32).toInt = 1 from rfl) c_217
            exact ct_198  _ _ _ ls (by
                      have h9 : (im_192 36 7).toInt = ((j1 36 7) : Int32).toInt := congrArg Int32.toInt ((hfr_193 36 7 (by omega)))
                      have h8 : i9 3 1 = (qs f.toInt.toNat).1 3 1 := dl_no hdl9 (by omega)
                      rw [h9, h8]; omega) (by rw [show im_192 380 = im_192 380 from funext fun b9 => rfl, show im_192 36 4 = im_192 36 4 from rfl]; exact hLL) (MRQ_fr hMt (fun b h1 h2 h3 => rfl) (fun a h1 h2 => funext fun b => rfl)) hO_194 (fun a b ha => rfl) (lv_sub hl [0, 1, 2, 3] rfl) hH hS
          · skip
            have h_219 := s_eq (rfl : z_197.toInt = _) (show (1 : Int32).toInt = 1 from rfl) c_217
            refine lv_aload_n hx hb dX12_read_64 rfl (lv_at hl 3 rfl) ?_
            refine lv_aload_n hx hb dX12_read_65 rfl (lv_at hl 3 rfl) ?_
            have bx_220 : (0 : Int) ≤ (im_192 36 4).toInt ∧ (im_192 36 4).toInt ≤ 480 := hO_194 36 4
            refine h_geti (ci := 12) (C := RX12) (F := TX12) (N := 86) hx hb hts in12 hown hK hH (by decide) (rfl : kd 36 = 12) (by decide) rfl 4 (by decide) wd4 (fun _ h9 => h9) (by decide) rfl dX12_read_66 ?_
            refine lv_iconst (v := 2) hx hb dX12_read_69 (by decide) ?_
            refine lv_icmp_ne (tgt := 99) hx hb dX12_read_70 (by decide) (fun c_221 => ?_) (fun c_221 => ?_)
            · skip
              have h_222 := s_ne (rfl : (im_192 36 4).toInt = _) (show (2 : Int32).toInt = 2 from rfl) c_221
              refine lv_iconst (v := 0) hx hb dX12_read_99 (by decide) ?_
              have hO_223 := okp hO_194 (n := 36) (k := 7) (v := 0) (show (0 : Int) ≤ (0 : Int32).toInt ∧ (0 : Int32).toInt ≤ 1 from ⟨by decide, by decide⟩)
              refine h_puti (ty := .int) (ci := 12) (C := RX12) (F := TX12) (N := 86) hx hb hts in12 tyX12 tyX12_ok nmX12 hown hK hH hS (by decide) (rfl : kd 36 = 12) (by decide) rfl 7 (by decide) wd5 (fun _ h9 => h9) rfl (by decide +kernel) rfl rfl (by decide) rfl dX12_read_100 (fun H locs hH hS => ?_)
              have hp_224 : ((up2 im_192 36 7 0) 36 7).toInt = (0 : Int32).toInt := congrArg Int32.toInt ((up2_at _ _ _ _))
              have hl_225 : (0 : Int32).toInt = 0 := rfl
              exact ct_198  _ _ _ ls (by
                        have h8 : i9 3 1 = (qs f.toInt.toNat).1 3 1 := dl_nl hdl9 (fun q => by
                          rw [← hLL] at q
                          have q9 := (lnL_35 (Int.le_refl 0) (by omega)).mp q
                          have q8 := q9.1
                          have q7 := q9.2.1
                          have q6 := q9.2.2
                          rw [show (0 : Int).toNat = 0 from rfl] at q7
                          rw [show ((0 : Int) + 1).toNat = 1 from rfl] at q6
                          omega)
                        have h7 := congrArg Int32.toInt h8
                        omega) (by rw [show (up2 im_192 36 7 0) 380 = im_192 380 from funext fun b9 => (up2_o _ _ (by omega)), show (up2 im_192 36 7 0) 36 4 = im_192 36 4 from (up2_o _ _ (by omega))]; exact hLL) (MRQ_fr hMt (fun b h1 h2 h3 => (up2_o _ _ (by omega))) (fun a h1 h2 => funext fun b => (up2_o _ _ (by omega)))) hO_223 (fun a b ha => (up2_o _ _ (by omega))) (lv_sub hl [0, 1, 2, 3] rfl) hH hS
            · skip
              have h_226 := s_eq (rfl : (im_192 36 4).toInt = _) (show (2 : Int32).toInt = 2 from rfl) c_221
              refine lv_aload_n hx hb dX12_read_73 rfl (lv_at hl 3 rfl) ?_
              refine h_getr (ci := 12) (C := RX12) (F := TX12) (N := 86) hx hb hts in12 hown hK hH (by decide) (rfl : kd 36 = 12) (by decide) rfl 3 (by decide) wd6 (fun _ h9 => h9) (by decide) rfl (t := 380) (hR 36 3 rfl) (by decide) dX12_read_74 ?_
              refine lv_iconst (v := 0) hx hb dX12_read_77 (by decide) ?_
              have bx_227 : (0 : Int) ≤ (im_192 380 0).toInt ∧ (im_192 380 0).toInt ≤ 65535 := hO_194 380 0
              refine h_cald hx hb hK hH (by decide) (rfl : kd 380 = 14) (s_vin (N := 480) (show (0 : Int32).toInt = 0 from rfl) (rfl : ln 380 = 480) (by omega) (by omega)) dX12_read_78 ?_
              refine sj_i (y := (im_192 380 0)) rfl ?_
              refine lv_bipush (v := 35) hx hb dX12_read_79 (by decide) ?_
              refine lv_icmp_ne (tgt := 99) hx hb dX12_read_81 (by decide) (fun c_228 => ?_) (fun c_228 => ?_)
              · skip
                have h_229 := s_ne (rfl : (im_192 380 0).toInt = _) (show (35 : Int32).toInt = 35 from rfl) c_228
                refine lv_iconst (v := 0) hx hb dX12_read_99 (by decide) ?_
                have hO_230 := okp hO_194 (n := 36) (k := 7) (v := 0) (show (0 : Int) ≤ (0 : Int32).toInt ∧ (0 : Int32).toInt ≤ 1 from ⟨by decide, by decide⟩)
                refine h_puti (ty := .int) (ci := 12) (C := RX12) (F := TX12) (N := 86) hx hb hts in12 tyX12 tyX12_ok nmX12 hown hK hH hS (by decide) (rfl : kd 36 = 12) (by decide) rfl 7 (by decide) wd5 (fun _ h9 => h9) rfl (by decide +kernel) rfl rfl (by decide) rfl dX12_read_100 (fun H locs hH hS => ?_)
                have hp_231 : ((up2 im_192 36 7 0) 36 7).toInt = (0 : Int32).toInt := congrArg Int32.toInt ((up2_at _ _ _ _))
                have hl_232 : (0 : Int32).toInt = 0 := rfl
                exact ct_198  _ _ _ ls (by
                          have h8 : i9 3 1 = (qs f.toInt.toNat).1 3 1 := dl_nl hdl9 (fun q => by
                            rw [← hLL] at q
                            have q9 := (lnL_35 (Int.le_refl 0) (by omega)).mp q
                            have q8 := q9.1
                            have q7 := q9.2.1
                            have q6 := q9.2.2
                            rw [show (0 : Int).toNat = 0 from rfl] at q7
                            rw [show ((0 : Int) + 1).toNat = 1 from rfl] at q6
                            omega)
                          have h7 := congrArg Int32.toInt h8
                          omega) (by rw [show (up2 im_192 36 7 0) 380 = im_192 380 from funext fun b9 => (up2_o _ _ (by omega)), show (up2 im_192 36 7 0) 36 4 = im_192 36 4 from (up2_o _ _ (by omega))]; exact hLL) (MRQ_fr hMt (fun b h1 h2 h3 => (up2_o _ _ (by omega))) (fun a h1 h2 => funext fun b => (up2_o _ _ (by omega)))) hO_230 (fun a b ha => (up2_o _ _ (by omega))) (lv_sub hl [0, 1, 2, 3] rfl) hH hS
              · skip
                have h_233 := s_eq (rfl : (im_192 380 0).toInt = _) (show (35 : Int32).toInt = 35 from rfl) c_228
                refine lv_aload_n hx hb dX12_read_84 rfl (lv_at hl 3 rfl) ?_
                refine h_getr (ci := 12) (C := RX12) (F := TX12) (N := 86) hx hb hts in12 hown hK hH (by decide) (rfl : kd 36 = 12) (by decide) rfl 3 (by decide) wd6 (fun _ h9 => h9) (by decide) rfl (t := 380) (hR 36 3 rfl) (by decide) dX12_read_85 ?_
                refine lv_iconst (v := 1) hx hb dX12_read_88 (by decide) ?_
                have bx_234 : (0 : Int) ≤ (im_192 380 1).toInt ∧ (im_192 380 1).toInt ≤ 65535 := hO_194 380 1
                refine h_cald hx hb hK hH (by decide) (rfl : kd 380 = 14) (s_vin (N := 480) (show (1 : Int32).toInt = 1 from rfl) (rfl : ln 380 = 480) (by omega) (by omega)) dX12_read_89 ?_
                refine sj_i (y := (im_192 380 1)) rfl ?_
                refine lv_bipush (v := 49) hx hb dX12_read_90 (by decide) ?_
                refine lv_icmp_ne (tgt := 99) hx hb dX12_read_92 (by decide) (fun c_235 => ?_) (fun c_235 => ?_)
                · skip
                  have h_236 := s_ne (rfl : (im_192 380 1).toInt = _) (show (49 : Int32).toInt = 49 from rfl) c_235
                  refine lv_iconst (v := 0) hx hb dX12_read_99 (by decide) ?_
                  have hO_237 := okp hO_194 (n := 36) (k := 7) (v := 0) (show (0 : Int) ≤ (0 : Int32).toInt ∧ (0 : Int32).toInt ≤ 1 from ⟨by decide, by decide⟩)
                  refine h_puti (ty := .int) (ci := 12) (C := RX12) (F := TX12) (N := 86) hx hb hts in12 tyX12 tyX12_ok nmX12 hown hK hH hS (by decide) (rfl : kd 36 = 12) (by decide) rfl 7 (by decide) wd5 (fun _ h9 => h9) rfl (by decide +kernel) rfl rfl (by decide) rfl dX12_read_100 (fun H locs hH hS => ?_)
                  have hp_238 : ((up2 im_192 36 7 0) 36 7).toInt = (0 : Int32).toInt := congrArg Int32.toInt ((up2_at _ _ _ _))
                  have hl_239 : (0 : Int32).toInt = 0 := rfl
                  exact ct_198  _ _ _ ls (by
                            have h8 : i9 3 1 = (qs f.toInt.toNat).1 3 1 := dl_nl hdl9 (fun q => by
                              rw [← hLL] at q
                              have q9 := (lnL_35 (Int.le_refl 0) (by omega)).mp q
                              have q8 := q9.1
                              have q7 := q9.2.1
                              have q6 := q9.2.2
                              rw [show (0 : Int).toNat = 0 from rfl] at q7
                              rw [show ((0 : Int) + 1).toNat = 1 from rfl] at q6
                              omega)
                            have h7 := congrArg Int32.toInt h8
                            omega) (by rw [show (up2 im_192 36 7 0) 380 = im_192 380 from funext fun b9 => (up2_o _ _ (by omega)), show (up2 im_192 36 7 0) 36 4 = im_192 36 4 from (up2_o _ _ (by omega))]; exact hLL) (MRQ_fr hMt (fun b h1 h2 h3 => (up2_o _ _ (by omega))) (fun a h1 h2 => funext fun b => (up2_o _ _ (by omega)))) hO_237 (fun a b ha => (up2_o _ _ (by omega))) (lv_sub hl [0, 1, 2, 3] rfl) hH hS
                · skip
                  have h_240 := s_eq (rfl : (im_192 380 1).toInt = _) (show (49 : Int32).toInt = 49 from rfl) c_235
                  refine lv_iconst (v := 1) hx hb dX12_read_95 (by decide) ?_
                  refine lv_goto (tgt := 100) hx hb dX12_read_96 (by decide) ?_
                  have hO_241 := okp hO_194 (n := 36) (k := 7) (v := 1) (show (0 : Int) ≤ (1 : Int32).toInt ∧ (1 : Int32).toInt ≤ 1 from ⟨by decide, by decide⟩)
                  refine h_puti (ty := .int) (ci := 12) (C := RX12) (F := TX12) (N := 86) hx hb hts in12 tyX12 tyX12_ok nmX12 hown hK hH hS (by decide) (rfl : kd 36 = 12) (by decide) rfl 7 (by decide) wd5 (fun _ h9 => h9) rfl (by decide +kernel) rfl rfl (by decide) rfl dX12_read_100 (fun H locs hH hS => ?_)
                  have hp_242 : ((up2 im_192 36 7 1) 36 7).toInt = (1 : Int32).toInt := congrArg Int32.toInt ((up2_at _ _ _ _))
                  have hl_243 : (1 : Int32).toInt = 1 := rfl
                  exact ct_198  _ _ _ ls (by
                            have h8 := dl_yes hdl9 (by omega) (by rw [← hLL]; exact (lnL_35 (Int.le_refl 0) (by omega)).mpr ⟨by omega, by rw [show (0 : Int).toNat = 0 from rfl]; omega, by rw [show ((0 : Int) + 1).toNat = 1 from rfl]; omega⟩)
                            omega) (by rw [show (up2 im_192 36 7 1) 380 = im_192 380 from funext fun b9 => (up2_o _ _ (by omega)), show (up2 im_192 36 7 1) 36 4 = im_192 36 4 from (up2_o _ _ (by omega))]; exact hLL) (MRQ_fr hMt (fun b h1 h2 h3 => (up2_o _ _ (by omega))) (fun a h1 h2 => funext fun b => (up2_o _ _ (by omega)))) hO_241 (fun a b ha => (up2_o _ _ (by omega))) (lv_sub hl [0, 1, 2, 3] rfl) hH hS
        · skip
          have h_244 := s_ne (rfl : f.toInt = _) (rfl : (i 36 2).toInt = _) c_188
          have hTf := hTT f.toInt.toNat (by omega)
          refine lv_aload_n hx hb dX12_read_35 rfl (lv_at hl 3 rfl) ?_
          refine h_getr (ci := 12) (C := RX12) (F := TX12) (N := 86) hx hb hts in12 hown hK hH (by decide) (rfl : kd 36 = 12) (by decide) rfl 1 (by decide) wd7 (fun _ h9 => h9) (by decide) rfl (t := 379) (hR 36 1 rfl) (by decide) dX12_read_36 ?_
          refine lv_iload_n hx hb dX12_read_39 rfl (lv_at hl 0 rfl) ?_
          have bx_245 : (0 : Int) ≤ (i 379 (f.toInt).toNat).toInt ∧ (i 379 (f.toInt).toNat).toInt ≤ 65535 := hO 379 (f.toInt).toNat
          refine h_cald hx hb hK hH (by decide) (rfl : kd 379 = 14) (s_vin (N := 480) (rfl : f.toInt = _) (rfl : ln 379 = 480) (by omega) (by omega)) dX12_read_40 ?_
          have ek_246 : f.toNatClampNeg = (f.toInt).toNat := (s_cl (show f.toInt = f.toInt by omega))
          refine sj_i (y := (i 379 (f.toInt).toNat)) (by rw [ek_246]; exact ((hfr_j1 379 (f.toInt).toNat (by omega)).trans ((hfr_11 379 (f.toInt).toNat (by omega)).trans (hfr_4 379 (f.toInt).toNat (by omega))))) ?_
          refine lv_bipush (v := 10) hx hb dX12_read_41 (by decide) ?_
          refine lv_icmp_ne (tgt := 122) hx hb dX12_read_43 (by decide) (fun c_247 => ?_) (fun c_247 => ?_)
          · skip
            have h_248 := s_ne (rfl : (i 379 (f.toInt).toNat).toInt = _) (show (10 : Int32).toInt = 10 from rfl) c_247
            have hln : ¬ (f.toInt.toNat = (i 36 2).toInt.toNat ∨ (T f.toInt.toNat).toInt = 10) := by omega
            have hsame := hst.2.2.2 hln
            have hfn := frF_n hln
            have hfn1 := hfn.1
            have hfn2 := hfn.2
            obtain ⟨z_249, ez_249, hz_249⟩ := s_add (rfl : f.toInt = _) (show (1 : Int32).toInt = 1 from rfl) (by omega) (by omega)
            refine lv_iinc (v := z_249) (lv' := [(3, .int z_249), (2, .int v9), (1, .int u), (0, .ref (g 36))]) hx hb dX12_read_122 hl (k := 0) rfl ez_249 (by decide) rfl (fun ls hl => ?_)
            refine lv_goto (tgt := 19) hx hb dX12_read_125 (by decide) ?_
            have hk9 : (z_249).toInt.toNat = f.toInt.toNat + 1 := by omega
            exact ih_lp_14 u v9 z_249 _ _ _ ls (by omega) (by omega) (by omega) (by omega) (by omega) (by rw [hk9]; omega) (by rw [hk9]; omega) (by rw [hk9, hsame]; exact hi_lp_14_3) (by rw [hk9, hsame]; exact hI4) hO_j1 (fun a b ha => (hfr_j1 a b (by omega))) (lv_sub hl [0, 1, 2, 3] rfl) hH hS
          · skip
            have h_250 := s_eq (rfl : (i 379 (f.toInt).toNat).toInt = _) (show (10 : Int32).toInt = 10 from rfl) c_247
            have hly : f.toInt.toNat = (i 36 2).toInt.toNat ∨ (T f.toInt.toNat).toInt = 10 := Or.inr (by omega)
            have hfy := frF_y hly
            have hfy1 := hfy.1
            have hfy2 := hfy.2
            obtain ⟨a9, b9, hsk9, hdr9, i9, hO9, hdl9, hli9⟩ := hst.2.2.1 hly
            rw [← hI2, ← hfk] at hsk9
            rw [← hfk] at hdr9
            have hsk91 := hsk9.1
            have hsk92 := hsk9.2.1
            refine lv_aload_n hx hb dX12_read_46 rfl (lv_at hl 3 rfl) ?_
            refine lv_iload_n hx hb dX12_read_47 rfl (lv_at hl 1 rfl) ?_
            refine lv_iload_n hx hb dX12_read_48 rfl (lv_at hl 0 rfl) ?_
            refine x_callv (va_runV (As := [.int v9, .int f]) (rest := []) ⟨hx, hb, hml, hown, hts⟩ (m_takeLine l D g ka ad j1 r L d v9 f hO_j1 hR H.size (by first | omega | decide) (by first | omega | decide) (by first | omega | decide)) (cwV 2 hts gX12_read_X12_takeLine rfl rfl rfl (by decide +kernel) ⟨(Nat.le_of_ble_eq_true rfl), (Nat.le_of_ble_eq_true rfl)⟩) (x_preV (q := (RX12, TX12, 86)) hH hK (q_obj (by decide) (rfl : kd 36 = 12) (by decide)) rfl gxb (gxw hE hS (x_F hH hS hA))) rfl rfl hl.1 rfl (lv_room (Nat.le_of_ble_eq_true rfl)) dX12_read_49 ⟨(Nat.le_of_ble_eq_true rfl), (Nat.le_of_ble_eq_true rfl)⟩) hH hS hA rfl rfl (fun im_253 H locs hw_252 hH hS => ?_)
            have hH : sj_H D A (hwc g ka im_253 r L d) H := hH
            obtain ⟨hO_255, hfr_254, hx2_256⟩ := hw_252
            obtain ⟨a8, b8, hs8, hd8, hw8, hl8⟩ := hx2_256
            rw [show j1 379 = i 379 from funext fun b9 => ((hfr_j1 379 b9 (by omega)).trans ((hfr_11 379 b9 (by omega)).trans (hfr_4 379 b9 (by omega))))] at hs8 hd8 hl8
            have ea : a9 = a8 := skp_u (f := T) (h := i 379) (by omega) (fun k h1 h2 => hTT k (by omega)) hsk9 hs8
            subst ea
            have eb : b9 = b8 := drp_u (f := T) (h := i 379) (by omega) (fun k h1 h2 => hTT k (by omega)) hdr9 hd8
            subst eb
            have hdr91 := hdr9.1
            have hdr92 := hdr9.2.1
            have hLL : lnL (im_253 380) 0 (im_253 36 4).toInt = lnL T a9 b9 := by
              rw [hw8, hl8]
              exact lnL_ext (by omega) (by omega) rfl (fun j hj => (hTT _ (by omega)).symm)
            have hMt : MRQ im_253 (qs f.toInt.toNat).1 (qs f.toInt.toNat).2.2 := (MRQ_fr hi_lp_14_3 (fun b h1 h2 h3 => (hfr_254 36 b (by omega))) (fun a h1 h2 => funext fun b => (hfr_254 a b (by omega))))
            refine lv_iload_n hx hb dX12_read_52 rfl (lv_at hl 0 rfl) ?_
            refine lv_iconst (v := 1) hx hb dX12_read_53 (by decide) ?_
            refine lv_iadd hx hb dX12_read_54 ?_
            obtain ⟨z_257, ez_257, hz_257⟩ := s_add (rfl : f.toInt = _) (show (1 : Int32).toInt = 1 from rfl) (by omega) (by omega)
            refine sj_i ez_257 ?_
            refine lv_istore_n (lv' := [(2, .int z_257), (3, .int f), (1, .int u), (0, .ref (g 36))]) hx hb dX12_read_55 rfl hl (by decide) rfl (fun ls hl => ?_)
            obtain ⟨z_258, ez_258, hz_258⟩ := s_add (rfl : u.toInt = _) (show (1 : Int32).toInt = 1 from rfl) (by omega) (by omega)
            refine lv_iinc (v := z_258) (lv' := [(1, .int z_258), (2, .int z_257), (3, .int f), (0, .ref (g 36))]) hx hb dX12_read_56 hl (k := 2) rfl ez_258 (by decide) rfl (fun ls hl => ?_)
            -- cut at 103
            have ct_259 : ∀  (j4 : Nat → Nat → Int32) (H : Heap) (locs : List Loc) (ls : Array Slot), (j4 36 7).toInt = (i9 3 1).toInt → lnL (j4 380) 0 (j4 36 4).toInt = lnL T a9 b9 → MRQ j4 (qs f.toInt.toNat).1 (qs f.toInt.toNat).2.2 → OkI j4 → (∀ a b, ¬ ((a = 36 ∧ (b = 7))) → j4 a b = im_253 a b) → lv_has ls 5 [(1, .int z_258), (2, .int z_257), (3, .int f), (0, .ref (g 36))] → sj_H D A (hwc g ka j4 r L d) H → va_S A s.heap H locs → W p l e (headSpec wsX12_read ({ frames := 4, cells := 0, slots := 0, locals := 97 })).room s m ([.ref (g 36)] : List Value).toArray below meth c H locs 0 0 (MQ below (sj_Qi (S := (Nat → Nat → Int32)) D (fun v u => OkI u ∧ (∀ a b, ¬ ((a = 36 ∧ (b = 0 ∨ b = 2 ∨ b = 4 ∨ b = 6 ∨ b = 7 ∨ b = 8 ∨ b = 9 ∨ b = 10 ∨ b = 11 ∨ b = 13 ∨ b = 17 ∨ b = 18 ∨ b = 23 ∨ b = 26 ∨ b = 27 ∨ b = 33)) ∨ a = 380 ∨ a = 381 ∨ a = 382 ∨ a = 383 ∨ a = 384 ∨ a = 385 ∨ a = 386 ∨ a = 387 ∨ a = 388 ∨ a = 389 ∨ a = 390 ∨ a = 391 ∨ a = 392 ∨ a = 393 ∨ a = 394 ∨ a = 395 ∨ a = 396 ∨ a = 397 ∨ a = 398 ∨ a = 399 ∨ a = 400 ∨ a = 401) → u a b = i a b) ∧ ((0 : Int) ≤ v.toInt ∧ v.toInt ≤ 20) ∧ ((u 36 2).toInt = 0) ∧ (MRQ u c2 (qs ((i 36 2).toInt.toNat + 1)).2.2 ∧ mcP u (if 0 < (c2 3 4).toInt then [] else (csA c2 (c2 3 8).toInt.toNat).take 24)) ∧ (NR u) ∧ ((u 36 7).toInt = (c2 3 1).toInt) ∧ ((u 36 0).toInt = 0 ∧ v.toInt = (u 36 6).toInt)) (fun u => hwc g ka u r L d) (fun _ => []) A) ([.ref (g 36)] : List Value).toArray s 0 0 A) (F0 m 103 ls []) := by
              intro j4 H locs ls hi_ct_259_0 hi_ct_259_1 hi_ct_259_2 hO_j4 hfr_j4 hl hH hS
              refine lv_aload_n hx hb dX12_read_103 rfl (lv_at hl 3 rfl) ?_
              refine lv_iload_n hx hb dX12_read_104 rfl (lv_at hl 0 rfl) ?_
              rw [show ((lnF T (i 36 2).toInt.toNat f.toInt.toNat : Nat) : Int) = z_258.toInt by omega] at hli9
              refine x_calli (va_runV (As := [.int z_258]) (rest := []) ⟨hx, hb, hml, hown, hts⟩ (m_lineError l D g ka ad j4 r L d z_258 i9 ((qs f.toInt.toNat).2.1) ((qs f.toInt.toNat).2.2) ((qs (f.toInt.toNat + 1)).1) ((qs (f.toInt.toNat + 1)).2.1) ((qs (f.toInt.toNat + 1)).2.2) hO_j4 hR H.size hO9 (hqO (f.toInt.toNat + 1) (by omega)).1 (QI_dl hst.2.1 hdl9) (MRQ_dl hi_ct_259_2 hdl9 hst.2.1.1.2.2.1) hi_ct_259_0 (by rw [hi_ct_259_1]; exact hli9)) (cwV 1 hts gX12_read_X12_lineError rfl rfl rfl (by decide +kernel) ⟨(Nat.le_of_ble_eq_true rfl), (Nat.le_of_ble_eq_true rfl)⟩) (x_preV (q := (RX12, TX12, 86)) hH hK (q_obj (by decide) (rfl : kd 36 = 12) (by decide)) rfl gxb (gxw hE hS (x_F hH hS hA))) rfl rfl hl.1 rfl (lv_room (Nat.le_of_ble_eq_true rfl)) dX12_read_105 ⟨(Nat.le_of_ble_eq_true rfl), (Nat.le_of_ble_eq_true rfl)⟩) hH hS hA rfl rfl (fun r_260 im_262 H locs hw_261 hH hS => ?_)
              have hH : sj_H D A (hwc g ka im_262 r L d) H := hH
              obtain ⟨hO_264, hfr_263, hr_265, hx2_266⟩ := hw_261
              have hr_265 : (0 : Int) ≤ r_260.toInt ∧ r_260.toInt ≤ 5 := hr_265
              have hle := hx2_266
              refine lv_istore (lv' := [(4, .int r_260), (1, .int z_258), (2, .int z_257), (3, .int f), (0, .ref (g 36))]) hx hb dX12_read_108 hl (by decide) rfl (fun ls hl => ?_)
              refine lv_iload hx hb dX12_read_110 (lv_at hl 0 rfl) ?_
              refine lv_if_le (tgt := 122) hx hb dX12_read_112 (by decide) (fun c_267 => ?_) (fun c_267 => ?_)
              · skip
                have h_268 := s_le (rfl : r_260.toInt = _) (show (0 : Int32).toInt = 0 from rfl) c_267
                obtain ⟨z_269, ez_269, hz_269⟩ := s_add (rfl : f.toInt = _) (show (1 : Int32).toInt = 1 from rfl) (by omega) (by omega)
                refine lv_iinc (v := z_269) (lv' := [(3, .int z_269), (4, .int r_260), (1, .int z_258), (2, .int z_257), (0, .ref (g 36))]) hx hb dX12_read_122 hl (k := 3) rfl ez_269 (by decide) rfl (fun ls hl => ?_)
                refine lv_goto (tgt := 19) hx hb dX12_read_125 (by decide) ?_
                have hk9 : (z_269).toInt.toNat = f.toInt.toNat + 1 := by omega
                exact ih_lp_14 z_258 z_257 z_269 _ _ _ ls (by omega) (by omega) (by omega) (by omega) (by omega) (by rw [hk9]; omega) (by rw [hk9]; omega) (by rw [hk9]; exact (hle.resolve_right (fun q => by have := q.1; omega)).2) (by
                          rw [hk9]
                          have h9 : im_262 36 7 = j4 36 7 := (hfr_263 36 7 (by omega))
                          have h8 : (qs (f.toInt.toNat + 1)).1 3 1 = i9 3 1 := li_d hli9
                          exact Or.inr ⟨by omega, by rw [h9, h8]; exact hi_ct_259_0⟩) hO_264 (fun a b ha => ((hfr_263 a b (by omega)).trans ((hfr_j4 a b (by omega)).trans ((hfr_254 a b (by omega)).trans (hfr_j1 a b (by omega)))))) (lv_sub hl [0, 3, 2, 4] rfl) hH hS
              · skip
                have h_270 := s_nle (rfl : r_260.toInt = _) (show (0 : Int32).toInt = 0 from rfl) c_267
                refine lv_aload_n hx hb dX12_read_115 rfl (lv_at hl 4 rfl) ?_
                refine lv_iload_n hx hb dX12_read_116 rfl (lv_at hl 1 rfl) ?_
                refine lv_iload hx hb dX12_read_117 (lv_at hl 0 rfl) ?_
                refine x_callv (va_runV (As := [.int z_258, .int r_260]) (rest := []) ⟨hx, hb, hml, hown, hts⟩ (m_note l D g ka ad im_262 r L d z_258 r_260 hO_264 hR H.size ) (cwV 2 hts gX12_read_X12_note rfl rfl rfl (by decide +kernel) ⟨(Nat.le_of_ble_eq_true rfl), (Nat.le_of_ble_eq_true rfl)⟩) (x_preV (q := (RX12, TX12, 86)) hH hK (q_obj (by decide) (rfl : kd 36 = 12) (by decide)) rfl gxb (gxw hE hS (x_F hH hS hA))) rfl rfl hl.1 rfl (lv_room (Nat.le_of_ble_eq_true rfl)) dX12_read_119 ⟨(Nat.le_of_ble_eq_true rfl), (Nat.le_of_ble_eq_true rfl)⟩) hH hS hA rfl rfl (fun im_273 H locs hw_272 hH hS => ?_)
                have hH : sj_H D A (hwc g ka im_273 r L d) H := hH
                obtain ⟨hO_275, hfr_274, hx2_276⟩ := hw_272
                have hno := hx2_276
                obtain ⟨z_277, ez_277, hz_277⟩ := s_add (rfl : f.toInt = _) (show (1 : Int32).toInt = 1 from rfl) (by omega) (by omega)
                refine lv_iinc (v := z_277) (lv' := [(3, .int z_277), (4, .int r_260), (1, .int z_258), (2, .int z_257), (0, .ref (g 36))]) hx hb dX12_read_122 hl (k := 3) rfl ez_277 (by decide) rfl (fun ls hl => ?_)
                refine lv_goto (tgt := 19) hx hb dX12_read_125 (by decide) ?_
                have hk9 : (z_277).toInt.toNat = f.toInt.toNat + 1 := by omega
                exact ih_lp_14 z_258 z_257 z_277 _ _ _ ls (by omega) (by omega) (by omega) (by omega) (by omega) (by rw [hk9]; omega) (by rw [hk9]; omega) (by rw [hk9]; exact (hle.resolve_left (fun q => by have := q.1; omega)).elim (fun _ q => by rw [q.2.2]; exact MRQ_er q.1 q.2.1 hno (rd_bx hO9).2.2.2.2.2.2.2.1.1 (hst.2.1).1.2.2.1)) (by
                          rw [hk9]
                          have h9 : im_273 36 7 = j4 36 7 := ((hfr_274 36 7 (by omega)).trans (hfr_263 36 7 (by omega)))
                          have h8 : (qs (f.toInt.toNat + 1)).1 3 1 = i9 3 1 := li_d hli9
                          exact Or.inr ⟨by omega, by rw [h9, h8]; exact hi_ct_259_0⟩) hO_275 (fun a b ha => ((hfr_274 a b (by omega)).trans ((hfr_263 a b (by omega)).trans ((hfr_j4 a b (by omega)).trans ((hfr_254 a b (by omega)).trans (hfr_j1 a b (by omega))))))) (lv_sub hl [0, 3, 2, 4] rfl) hH hS
            refine lv_iload_n hx hb dX12_read_59 rfl (lv_at hl 0 rfl) ?_
            refine lv_iconst (v := 1) hx hb dX12_read_60 (by decide) ?_
            refine lv_icmp_ne (tgt := 103) hx hb dX12_read_61 (by decide) (fun c_278 => ?_) (fun c_278 => ?_)
            · skip
              have h_279 := s_ne (rfl : z_258.toInt = _) (show (1 : Int32).toInt = 1 from rfl) c_278
              exact ct_259  _ _ _ ls (by
                        have h9 : (im_253 36 7).toInt = ((j1 36 7) : Int32).toInt := congrArg Int32.toInt ((hfr_254 36 7 (by omega)))
                        have h8 : i9 3 1 = (qs f.toInt.toNat).1 3 1 := dl_no hdl9 (by omega)
                        rw [h9, h8]; omega) (by rw [show im_253 380 = im_253 380 from funext fun b9 => rfl, show im_253 36 4 = im_253 36 4 from rfl]; exact hLL) (MRQ_fr hMt (fun b h1 h2 h3 => rfl) (fun a h1 h2 => funext fun b => rfl)) hO_255 (fun a b ha => rfl) (lv_sub hl [0, 1, 2, 3] rfl) hH hS
            · skip
              have h_280 := s_eq (rfl : z_258.toInt = _) (show (1 : Int32).toInt = 1 from rfl) c_278
              refine lv_aload_n hx hb dX12_read_64 rfl (lv_at hl 3 rfl) ?_
              refine lv_aload_n hx hb dX12_read_65 rfl (lv_at hl 3 rfl) ?_
              have bx_281 : (0 : Int) ≤ (im_253 36 4).toInt ∧ (im_253 36 4).toInt ≤ 480 := hO_255 36 4
              refine h_geti (ci := 12) (C := RX12) (F := TX12) (N := 86) hx hb hts in12 hown hK hH (by decide) (rfl : kd 36 = 12) (by decide) rfl 4 (by decide) wd4 (fun _ h9 => h9) (by decide) rfl dX12_read_66 ?_
              refine lv_iconst (v := 2) hx hb dX12_read_69 (by decide) ?_
              refine lv_icmp_ne (tgt := 99) hx hb dX12_read_70 (by decide) (fun c_282 => ?_) (fun c_282 => ?_)
              · skip
                have h_283 := s_ne (rfl : (im_253 36 4).toInt = _) (show (2 : Int32).toInt = 2 from rfl) c_282
                refine lv_iconst (v := 0) hx hb dX12_read_99 (by decide) ?_
                have hO_284 := okp hO_255 (n := 36) (k := 7) (v := 0) (show (0 : Int) ≤ (0 : Int32).toInt ∧ (0 : Int32).toInt ≤ 1 from ⟨by decide, by decide⟩)
                refine h_puti (ty := .int) (ci := 12) (C := RX12) (F := TX12) (N := 86) hx hb hts in12 tyX12 tyX12_ok nmX12 hown hK hH hS (by decide) (rfl : kd 36 = 12) (by decide) rfl 7 (by decide) wd5 (fun _ h9 => h9) rfl (by decide +kernel) rfl rfl (by decide) rfl dX12_read_100 (fun H locs hH hS => ?_)
                have hp_285 : ((up2 im_253 36 7 0) 36 7).toInt = (0 : Int32).toInt := congrArg Int32.toInt ((up2_at _ _ _ _))
                have hl_286 : (0 : Int32).toInt = 0 := rfl
                exact ct_259  _ _ _ ls (by
                          have h8 : i9 3 1 = (qs f.toInt.toNat).1 3 1 := dl_nl hdl9 (fun q => by
                            rw [← hLL] at q
                            have q9 := (lnL_35 (Int.le_refl 0) (by omega)).mp q
                            have q8 := q9.1
                            have q7 := q9.2.1
                            have q6 := q9.2.2
                            rw [show (0 : Int).toNat = 0 from rfl] at q7
                            rw [show ((0 : Int) + 1).toNat = 1 from rfl] at q6
                            omega)
                          have h7 := congrArg Int32.toInt h8
                          omega) (by rw [show (up2 im_253 36 7 0) 380 = im_253 380 from funext fun b9 => (up2_o _ _ (by omega)), show (up2 im_253 36 7 0) 36 4 = im_253 36 4 from (up2_o _ _ (by omega))]; exact hLL) (MRQ_fr hMt (fun b h1 h2 h3 => (up2_o _ _ (by omega))) (fun a h1 h2 => funext fun b => (up2_o _ _ (by omega)))) hO_284 (fun a b ha => (up2_o _ _ (by omega))) (lv_sub hl [0, 1, 2, 3] rfl) hH hS
              · skip
                have h_287 := s_eq (rfl : (im_253 36 4).toInt = _) (show (2 : Int32).toInt = 2 from rfl) c_282
                refine lv_aload_n hx hb dX12_read_73 rfl (lv_at hl 3 rfl) ?_
                refine h_getr (ci := 12) (C := RX12) (F := TX12) (N := 86) hx hb hts in12 hown hK hH (by decide) (rfl : kd 36 = 12) (by decide) rfl 3 (by decide) wd6 (fun _ h9 => h9) (by decide) rfl (t := 380) (hR 36 3 rfl) (by decide) dX12_read_74 ?_
                refine lv_iconst (v := 0) hx hb dX12_read_77 (by decide) ?_
                have bx_288 : (0 : Int) ≤ (im_253 380 0).toInt ∧ (im_253 380 0).toInt ≤ 65535 := hO_255 380 0
                refine h_cald hx hb hK hH (by decide) (rfl : kd 380 = 14) (s_vin (N := 480) (show (0 : Int32).toInt = 0 from rfl) (rfl : ln 380 = 480) (by omega) (by omega)) dX12_read_78 ?_
                refine sj_i (y := (im_253 380 0)) rfl ?_
                refine lv_bipush (v := 35) hx hb dX12_read_79 (by decide) ?_
                refine lv_icmp_ne (tgt := 99) hx hb dX12_read_81 (by decide) (fun c_289 => ?_) (fun c_289 => ?_)
                · skip
                  have h_290 := s_ne (rfl : (im_253 380 0).toInt = _) (show (35 : Int32).toInt = 35 from rfl) c_289
                  refine lv_iconst (v := 0) hx hb dX12_read_99 (by decide) ?_
                  have hO_291 := okp hO_255 (n := 36) (k := 7) (v := 0) (show (0 : Int) ≤ (0 : Int32).toInt ∧ (0 : Int32).toInt ≤ 1 from ⟨by decide, by decide⟩)
                  refine h_puti (ty := .int) (ci := 12) (C := RX12) (F := TX12) (N := 86) hx hb hts in12 tyX12 tyX12_ok nmX12 hown hK hH hS (by decide) (rfl : kd 36 = 12) (by decide) rfl 7 (by decide) wd5 (fun _ h9 => h9) rfl (by decide +kernel) rfl rfl (by decide) rfl dX12_read_100 (fun H locs hH hS => ?_)
                  have hp_292 : ((up2 im_253 36 7 0) 36 7).toInt = (0 : Int32).toInt := congrArg Int32.toInt ((up2_at _ _ _ _))
                  have hl_293 : (0 : Int32).toInt = 0 := rfl
                  exact ct_259  _ _ _ ls (by
                            have h8 : i9 3 1 = (qs f.toInt.toNat).1 3 1 := dl_nl hdl9 (fun q => by
                              rw [← hLL] at q
                              have q9 := (lnL_35 (Int.le_refl 0) (by omega)).mp q
                              have q8 := q9.1
                              have q7 := q9.2.1
                              have q6 := q9.2.2
                              rw [show (0 : Int).toNat = 0 from rfl] at q7
                              rw [show ((0 : Int) + 1).toNat = 1 from rfl] at q6
                              omega)
                            have h7 := congrArg Int32.toInt h8
                            omega) (by rw [show (up2 im_253 36 7 0) 380 = im_253 380 from funext fun b9 => (up2_o _ _ (by omega)), show (up2 im_253 36 7 0) 36 4 = im_253 36 4 from (up2_o _ _ (by omega))]; exact hLL) (MRQ_fr hMt (fun b h1 h2 h3 => (up2_o _ _ (by omega))) (fun a h1 h2 => funext fun b => (up2_o _ _ (by omega)))) hO_291 (fun a b ha => (up2_o _ _ (by omega))) (lv_sub hl [0, 1, 2, 3] rfl) hH hS
                · skip
                  have h_294 := s_eq (rfl : (im_253 380 0).toInt = _) (show (35 : Int32).toInt = 35 from rfl) c_289
                  refine lv_aload_n hx hb dX12_read_84 rfl (lv_at hl 3 rfl) ?_
                  refine h_getr (ci := 12) (C := RX12) (F := TX12) (N := 86) hx hb hts in12 hown hK hH (by decide) (rfl : kd 36 = 12) (by decide) rfl 3 (by decide) wd6 (fun _ h9 => h9) (by decide) rfl (t := 380) (hR 36 3 rfl) (by decide) dX12_read_85 ?_
                  refine lv_iconst (v := 1) hx hb dX12_read_88 (by decide) ?_
                  have bx_295 : (0 : Int) ≤ (im_253 380 1).toInt ∧ (im_253 380 1).toInt ≤ 65535 := hO_255 380 1
                  refine h_cald hx hb hK hH (by decide) (rfl : kd 380 = 14) (s_vin (N := 480) (show (1 : Int32).toInt = 1 from rfl) (rfl : ln 380 = 480) (by omega) (by omega)) dX12_read_89 ?_
                  refine sj_i (y := (im_253 380 1)) rfl ?_
                  refine lv_bipush (v := 49) hx hb dX12_read_90 (by decide) ?_
                  refine lv_icmp_ne (tgt := 99) hx hb dX12_read_92 (by decide) (fun c_296 => ?_) (fun c_296 => ?_)
                  · skip
                    have h_297 := s_ne (rfl : (im_253 380 1).toInt = _) (show (49 : Int32).toInt = 49 from rfl) c_296
                    refine lv_iconst (v := 0) hx hb dX12_read_99 (by decide) ?_
                    have hO_298 := okp hO_255 (n := 36) (k := 7) (v := 0) (show (0 : Int) ≤ (0 : Int32).toInt ∧ (0 : Int32).toInt ≤ 1 from ⟨by decide, by decide⟩)
                    refine h_puti (ty := .int) (ci := 12) (C := RX12) (F := TX12) (N := 86) hx hb hts in12 tyX12 tyX12_ok nmX12 hown hK hH hS (by decide) (rfl : kd 36 = 12) (by decide) rfl 7 (by decide) wd5 (fun _ h9 => h9) rfl (by decide +kernel) rfl rfl (by decide) rfl dX12_read_100 (fun H locs hH hS => ?_)
                    have hp_299 : ((up2 im_253 36 7 0) 36 7).toInt = (0 : Int32).toInt := congrArg Int32.toInt ((up2_at _ _ _ _))
                    have hl_300 : (0 : Int32).toInt = 0 := rfl
                    exact ct_259  _ _ _ ls (by
                              have h8 : i9 3 1 = (qs f.toInt.toNat).1 3 1 := dl_nl hdl9 (fun q => by
                                rw [← hLL] at q
                                have q9 := (lnL_35 (Int.le_refl 0) (by omega)).mp q
                                have q8 := q9.1
                                have q7 := q9.2.1
                                have q6 := q9.2.2
                                rw [show (0 : Int).toNat = 0 from rfl] at q7
                                rw [show ((0 : Int) + 1).toNat = 1 from rfl] at q6
                                omega)
                              have h7 := congrArg Int32.toInt h8
                              omega) (by rw [show (up2 im_253 36 7 0) 380 = im_253 380 from funext fun b9 => (up2_o _ _ (by omega)), show (up2 im_253 36 7 0) 36 4 = im_253 36 4 from (up2_o _ _ (by omega))]; exact hLL) (MRQ_fr hMt (fun b h1 h2 h3 => (up2_o _ _ (by omega))) (fun a h1 h2 => funext fun b => (up2_o _ _ (by omega)))) hO_298 (fun a b ha => (up2_o _ _ (by omega))) (lv_sub hl [0, 1, 2, 3] rfl) hH hS
                  · skip
                    have h_301 := s_eq (rfl : (im_253 380 1).toInt = _) (show (49 : Int32).toInt = 49 from rfl) c_296
                    refine lv_iconst (v := 1) hx hb dX12_read_95 (by decide) ?_
                    refine lv_goto (tgt := 100) hx hb dX12_read_96 (by decide) ?_
                    have hO_302 := okp hO_255 (n := 36) (k := 7) (v := 1) (show (0 : Int) ≤ (1 : Int32).toInt ∧ (1 : Int32).toInt ≤ 1 from ⟨by decide, by decide⟩)
                    refine h_puti (ty := .int) (ci := 12) (C := RX12) (F := TX12) (N := 86) hx hb hts in12 tyX12 tyX12_ok nmX12 hown hK hH hS (by decide) (rfl : kd 36 = 12) (by decide) rfl 7 (by decide) wd5 (fun _ h9 => h9) rfl (by decide +kernel) rfl rfl (by decide) rfl dX12_read_100 (fun H locs hH hS => ?_)
                    have hp_303 : ((up2 im_253 36 7 1) 36 7).toInt = (1 : Int32).toInt := congrArg Int32.toInt ((up2_at _ _ _ _))
                    have hl_304 : (1 : Int32).toInt = 1 := rfl
                    exact ct_259  _ _ _ ls (by
                              have h8 := dl_yes hdl9 (by omega) (by rw [← hLL]; exact (lnL_35 (Int.le_refl 0) (by omega)).mpr ⟨by omega, by rw [show (0 : Int).toNat = 0 from rfl]; omega, by rw [show ((0 : Int) + 1).toNat = 1 from rfl]; omega⟩)
                              omega) (by rw [show (up2 im_253 36 7 1) 380 = im_253 380 from funext fun b9 => (up2_o _ _ (by omega)), show (up2 im_253 36 7 1) 36 4 = im_253 36 4 from (up2_o _ _ (by omega))]; exact hLL) (MRQ_fr hMt (fun b h1 h2 h3 => (up2_o _ _ (by omega))) (fun a h1 h2 => funext fun b => (up2_o _ _ (by omega)))) hO_302 (fun a b ha => (up2_o _ _ (by omega))) (lv_sub hl [0, 1, 2, 3] rfl) hH hS
  have hl_305 : (0 : Int32).toInt = 0 := rfl
  have hl_306 : (0 : Int32).toInt = 0 := rfl
  have hl_307 : (0 : Int32).toInt = 0 := rfl
  exact lp_14 _ 0 0 0 _ _ _ ls (Nat.lt_succ_self _) (by omega) (by omega) (by omega) (by omega) (by rw [(show (0 : Int32).toInt.toNat = 0 from rfl)]; rfl) (by rw [(show (0 : Int32).toInt.toNat = 0 from rfl)]; rfl) (by rw [(show (0 : Int32).toInt.toNat = 0 from rfl)]; exact MRQ_0 hq0 hx2_13) (by rw [(show (0 : Int32).toInt.toNat = 0 from rfl)]; exact Or.inl ⟨rfl, hq0.1⟩) hO_12 (fun a b ha => rfl) (lv_sub hl [0, 1, 2, 3] rfl) hH hS
