
set_option maxHeartbeats 2000000 in
set_option maxRecDepth 100000 in
theorem kv_start (l : Launch) (D : va_G) (g : Nat → Nat) (ka : Nat → ClassId) (ad : Nat → Nat) (i : Nat → Nat → Int32) (r : Nat → Nat → Nat) (L : Nat → Nat → Int64) (d : Nat → Nat → UInt64) (a9 : Nat) (b9 : Nat) (x : Int32) (hO : OkI i) (hR : RS r) (sz : Nat) (hst : l.stackTraces = false) (hPC : PC i r) (ha9 : 9 ≤ a9 ∧ a9 < 11) (hb9 : 9 ≤ b9 ∧ b9 < 11) (hab : a9 ≠ b9) (hr12 : r 0 12 = 357 + 2 * a9) (hr13 : r 0 13 = 357 + 2 * b9) (hTO : tgO i a9) (hRI : RI i r d) (hev : (i 23 10).toInt ≤ 1900000000) : vx_Met l yX11_start wsX11_start ({ frames := 124, cells := 1, slots := 6, locals := 4925 }) (va_Pc [.ref (g 0), .int x] (sj_B D (hwc g ka i r L d) (hT ka) sz (gx ad (va_A (hwc g ka i r L d) sz)))) (sj_Qi (S := (Nat → Nat → Int32)) D (fun v u => OkI u ∧ (∀ a, ¬ (a = 23 ∨ (25 ≤ a ∧ a < 28) ∨ a = 28 ∨ a = 29 ∨ (216 ≤ a ∧ a < 240) ∨ (375 ≤ a ∧ a < 379)) → u a = i a) ∧ (RI u r d) ∧ ((i 23 8).toInt = 0 ∧ (1 ≤ x.toInt ∧ x.toInt ≤ 3) ∧ rest u r = ksum i r a9 (i 13 4).toInt.toNat ∧ ((0 < ksum i r a9 (i 13 4).toInt.toNat ∧ (u 23 8).toInt = 1) ∨ (ksum i r a9 (i 13 4).toInt.toNat ≤ 0 ∧ (u 23 8).toInt = 0))) ∧ (((u 23 10).toInt ≤ (i 23 10).toInt + 2)) ∧ (SC i u) ∧ ((i 23 8).toInt = 0 ∧ (1 ≤ x.toInt ∧ x.toInt ≤ 3) ∧ v.toInt = (cnl (fun c9 => tgH i a9 (ctag i c9)) (i 13 4).toInt.toNat : Int) ∧ (u 23 10).toInt + (u 23 8).toInt = (i 23 10).toInt + 2)) (fun u => hwc g ka u r L d) (fun _ => []) (va_A (hwc g ka i r L d) sz)) (x_XC (S := (Nat → Nat → Int32)) D (fun (E : String) u => (E = "java/lang/IllegalStateException" ∨ E = "java/lang/IllegalArgumentException") ∧ OkI u ∧ (∀ a, ¬ (a = 23 ∨ (25 ≤ a ∧ a < 28) ∨ a = 28 ∨ a = 29 ∨ (216 ≤ a ∧ a < 240) ∨ (375 ≤ a ∧ a < 379)) → u a = i a) ∧ (u = i ∧ ((i 23 8).toInt = 1 ∨ ((i 23 8).toInt = 0 ∧ (x.toInt < 1 ∨ 3 < x.toInt)))) ∧ (eX E ((i 23 8).toInt = 1) ((i 23 8).toInt = 0 ∧ (x.toInt < 1 ∨ 3 < x.toInt)) (False) (False))) (fun u => hwc g ka u r L d) (va_A (hwc g ka i r L d) sz)) 1 6 (va_A (hwc g ka i r L d) sz) := by
  refine x_vmet (Ex := gx ad) (XC := x_XC (S := (Nat → Nat → Int32)) D (fun (E : String) u => (E = "java/lang/IllegalStateException" ∨ E = "java/lang/IllegalArgumentException") ∧ OkI u ∧ (∀ a, ¬ (a = 23 ∨ (25 ≤ a ∧ a < 28) ∨ a = 28 ∨ a = 29 ∨ (216 ≤ a ∧ a < 240) ∨ (375 ≤ a ∧ a < 379)) → u a = i a) ∧ (u = i ∧ ((i 23 8).toInt = 1 ∨ ((i 23 8).toInt = 0 ∧ (x.toInt < 1 ∨ 3 < x.toInt)))) ∧ (eX E ((i 23 8).toInt = 1) ((i 23 8).toInt = 0 ∧ (x.toInt < 1 ∨ 3 < x.toInt)) (False) (False))) (fun u => hwc g ka u r L d)) (cc := cX11_start) (maxL := 4) (ret := (some .int)) (by decide) rfl (Nat.le_of_ble_eq_true rfl) ?_
  intro p e s m below meth c A ls hx hb hr hml hts hown hlocks hnt hA hS hH hK hE hl
  have hown : s.vm.findClass RX11 = some m.cls := hown
  have in0 : ∀ w ∈ wsX00, w ∈ wsX11_start := (fun _ h => (List.mem_cons_of_mem _ (List.mem_append_left _ (List.mem_append_left _ (List.mem_append_left _ (List.mem_append_left _ (List.mem_append_right _ h)))))))
  have in1 : ∀ w ∈ wsX10, w ∈ wsX11_start := (fun _ h => (List.mem_cons_of_mem _ (List.mem_append_left _ (List.mem_append_left _ (List.mem_append_left _ (List.mem_append_left _ (List.mem_append_left _ (List.mem_append_right _ h))))))))
  have in7 : ∀ w ∈ wsX70, w ∈ wsX11_start := (fun _ h => (List.mem_cons_of_mem _ (List.mem_append_left _ (List.mem_append_left _ (List.mem_append_left _ (List.mem_append_left _ (List.mem_append_left _ (List.mem_append_left _ (List.mem_append_right _ h)))))))))
  have in11 : ∀ w ∈ wsX110, w ∈ wsX11_start := (fun _ h => (List.mem_cons_of_mem _ (List.mem_append_left _ (List.mem_append_left _ (List.mem_append_left _ (List.mem_append_left _ (List.mem_append_left _ (List.mem_append_left _ (List.mem_append_left _ (List.mem_append_right _ h))))))))))
  have wd0 := hts (.fieldLink RX11 44 "StoryDesk" "run" "LStoryDesk$Run;") (List.mem_cons_of_mem _ (List.mem_append_left _ (List.mem_append_left _ (List.mem_append_left _ (List.mem_append_left _ (List.mem_append_left _ (List.mem_append_left _ (List.mem_append_left _ (List.mem_append_left _ (List.mem_append_left _ lm4))))))))))
  have wd1 := hts (.fieldLink RX11 88 "StoryDesk$Run" "underWay" "Z") (List.mem_cons_of_mem _ (List.mem_append_left _ (List.mem_append_left _ (List.mem_append_left _ (List.mem_append_left _ (List.mem_append_left _ (List.mem_append_left _ (List.mem_append_left _ (List.mem_append_left _ (List.mem_append_left _ lm5))))))))))
  have wd2 := hts (.classLink RX11 124 "java/lang/IllegalArgumentException") (List.mem_cons_of_mem _ (List.mem_append_left _ (List.mem_append_left _ (List.mem_append_left _ (List.mem_append_left _ (List.mem_append_left _ (List.mem_append_left _ (List.mem_append_left _ (List.mem_append_left _ (List.mem_append_left _ lm2))))))))))
  have wd3 := hts (.initialized "java/lang/IllegalArgumentException") (List.mem_cons_of_mem _ (List.mem_append_left _ (List.mem_append_left _ (List.mem_append_left _ (List.mem_append_left _ (List.mem_append_left _ (List.mem_append_left _ (List.mem_append_left _ (List.mem_append_left _ (List.mem_append_left _ lm3))))))))))
  have wd4 := hts (.fieldLink RX11 30 "StoryDesk" "cases" "LStoryDesk$Cases;") (List.mem_cons_of_mem _ (List.mem_append_left _ (List.mem_append_left _ (List.mem_append_left _ (List.mem_append_left _ (List.mem_append_left _ (List.mem_append_left _ (List.mem_append_left _ (List.mem_append_left _ (List.mem_append_left _ lm6))))))))))
  have wd5 := hts (.fieldLink RX11 134 "StoryDesk$Cases" "count" "I") (List.mem_cons_of_mem _ (List.mem_append_left _ (List.mem_append_left _ (List.mem_append_left _ (List.mem_append_left _ (List.mem_append_left _ (List.mem_append_left _ (List.mem_append_left _ (List.mem_append_left _ (List.mem_append_left _ lm7))))))))))
  have wd6 := hts (.fieldLink RX11 232 "StoryDesk$Run" "queued" "I") (List.mem_cons_of_mem _ (List.mem_append_left _ (List.mem_append_left _ (List.mem_append_left _ (List.mem_append_left _ (List.mem_append_left _ (List.mem_append_left _ (List.mem_append_left _ (List.mem_append_left _ (List.mem_append_left _ lm12))))))))))
  have wd7 := hts (.fieldLink RX11 137 "StoryDesk$Cases" "all" "[LStoryDesk$Case;") (List.mem_cons_of_mem _ (List.mem_append_left _ (List.mem_append_left _ (List.mem_append_left _ (List.mem_append_left _ (List.mem_append_left _ (List.mem_append_left _ (List.mem_append_left _ (List.mem_append_left _ (List.mem_append_left _ lm8))))))))))
  have wd8 := hts (.fieldLink RX11 173 "StoryDesk$Case" "status" "I") (List.mem_cons_of_mem _ (List.mem_append_left _ (List.mem_append_left _ (List.mem_append_left _ (List.mem_append_left _ (List.mem_append_left _ (List.mem_append_left _ (List.mem_append_left _ (List.mem_append_left _ (List.mem_append_left _ lm9))))))))))
  have wd9 := hts (.fieldLink RX11 73 "StoryDesk" "filterInUse" "LStoryDesk$TagExpression;") (List.mem_cons_of_mem _ (List.mem_append_left _ (List.mem_append_left _ (List.mem_append_left _ (List.mem_append_left _ (List.mem_append_left _ (List.mem_append_left _ (List.mem_append_left _ (List.mem_append_left _ (List.mem_append_left _ lm10))))))))))
  have wd10 := hts (.fieldLink RX11 141 "StoryDesk$Case" "tags" "I") (List.mem_cons_of_mem _ (List.mem_append_left _ (List.mem_append_left _ (List.mem_append_left _ (List.mem_append_left _ (List.mem_append_left _ (List.mem_append_left _ (List.mem_append_left _ (List.mem_append_left _ (List.mem_append_left _ lm11))))))))))
  have wd11 := hts (.classLink RX11 92 "java/lang/IllegalStateException") (List.mem_cons_of_mem _ (List.mem_append_left _ (List.mem_append_left _ (List.mem_append_left _ (List.mem_append_left _ (List.mem_append_left _ (List.mem_append_left _ (List.mem_append_left _ (List.mem_append_left _ (List.mem_append_left _ lm0))))))))))
  have wd12 := hts (.initialized "java/lang/IllegalStateException") (List.mem_cons_of_mem _ (List.mem_append_left _ (List.mem_append_left _ (List.mem_append_left _ (List.mem_append_left _ (List.mem_append_left _ (List.mem_append_left _ (List.mem_append_left _ (List.mem_append_left _ (List.mem_append_left _ lm1))))))))))
  have thr_94 : ∀ w ∈ (vx_at0 RX11 94 "java/lang/IllegalStateException" ["java/lang/RuntimeException", "java/lang/Exception"]).filter goodWord, w ∈ wsX11_start := by decide +kernel
  have thr_126 : ∀ w ∈ (vx_at0 RX11 126 "java/lang/IllegalArgumentException" ["java/lang/RuntimeException", "java/lang/Exception"]).filter goodWord, w ∈ wsX11_start := by decide +kernel
  have hl : lv_has ls 4 [(0, .ref (g 0)), (1, .int x)] := hl
  have hK : va_K D vwCl (hT ka) s := hK
  have hg_1 := s_rng x
  have hbu8 : (0 : Int) ≤ (i 23 8).toInt ∧ (i 23 8).toInt ≤ 1 := hO 23 8
  have hb13 : (0 : Int) ≤ (i 13 4).toInt ∧ (i 13 4).toInt ≤ 24 := hO 13 4
  refine lv_aload_n hx hb dX11_start_0 rfl (lv_at hl 0 rfl) ?_
  refine h_getr (ci := 11) (C := RX11) (F := TX11) (N := 14) hx hb hts in11 hown hK hH (by decide) (rfl : kd 0 = 11) (by decide) rfl 4 (by decide) wd0 (fun _ h9 => h9) (by decide) rfl (t := 23) (hR 0 4 rfl) (by decide) dX11_start_1 ?_
  have bx_2 : (0 : Int) ≤ (i 23 8).toInt ∧ (i 23 8).toInt ≤ 1 := hO 23 8
  refine h_geti (ci := 7) (C := RX7) (F := TX7) (N := 11) hx hb hts in7 hown hK hH (by decide) (rfl : kd 23 = 7) (by decide) rfl 8 (by decide) wd1 (fun _ h9 => h9) (by decide) rfl dX11_start_4 ?_
  refine lv_if_eq (tgt := 18) hx hb dX11_start_7 (by decide) (fun c_3 => ?_) (fun c_3 => ?_)
  · skip
    have h_4 := s_eq (rfl : (i 23 8).toInt = _) (show (0 : Int32).toInt = 0 from rfl) c_3
    refine lv_iload_n hx hb dX11_start_18 rfl (lv_at hl 1 rfl) ?_
    refine lv_iconst (v := 1) hx hb dX11_start_19 (by decide) ?_
    refine lv_icmp_lt (tgt := 28) hx hb dX11_start_20 (by decide) (fun c_5 => ?_) (fun c_5 => ?_)
    · skip
      have h_6 := s_lt (rfl : x.toInt = _) (show (1 : Int32).toInt = 1 from rfl) c_5
      have hV_7 : i = i ∧ ((i 23 8).toInt = 1 ∨ ((i 23 8).toInt = 0 ∧ (x.toInt < 1 ∨ 3 < x.toInt))) := ⟨rfl, by omega⟩
      have hpx : (fun (E : String) (u : (Nat → Nat → Int32)) => (E = "java/lang/IllegalStateException" ∨ E = "java/lang/IllegalArgumentException") ∧ OkI u ∧ (∀ a, ¬ (a = 23 ∨ (25 ≤ a ∧ a < 28) ∨ a = 28 ∨ a = 29 ∨ (216 ≤ a ∧ a < 240) ∨ (375 ≤ a ∧ a < 379)) → u a = i a) ∧ (u = i ∧ ((i 23 8).toInt = 1 ∨ ((i 23 8).toInt = 0 ∧ (x.toInt < 1 ∨ 3 < x.toInt)))) ∧ (eX E ((i 23 8).toInt = 1) ((i 23 8).toInt = 0 ∧ (x.toInt < 1 ∨ 3 < x.toInt)) (False) (False))) "java/lang/IllegalArgumentException" i := ⟨(Or.inr rfl), hO, (fun a ha => rfl), hV_7, (eX_iae ⟨by omega, by omega⟩)⟩
      have hHx : sj_H D A ((fun (u : (Nat → Nat → Int32)) => hwc g ka u r L d) i) s.heap := hH
      exact x_throw (px := (fun (E : String) (u : (Nat → Nat → Int32)) => (E = "java/lang/IllegalStateException" ∨ E = "java/lang/IllegalArgumentException") ∧ OkI u ∧ (∀ a, ¬ (a = 23 ∨ (25 ≤ a ∧ a < 28) ∨ a = 28 ∨ a = 29 ∨ (216 ≤ a ∧ a < 240) ∨ (375 ≤ a ∧ a < 379)) → u a = i a) ∧ (u = i ∧ ((i 23 8).toInt = 1 ∨ ((i 23 8).toInt = 0 ∧ (x.toInt < 1 ∨ 3 < x.toInt)))) ∧ (eX E ((i 23 8).toInt = 1) ((i 23 8).toInt = 0 ∧ (x.toInt < 1 ∨ 3 < x.toInt)) (False) (False)))) (W1 := (fun (u : (Nat → Nat → Int32)) => hwc g ka u r L d)) hx hb hst (ik := 124) (ic := 126) (cls := "java/lang/IllegalArgumentException") i hpx hown (by decide) wd2 wd3 (fun w h => hts w (thr_126 w h)) (by decide +kernel) (by decide +kernel) (gx_iae hE) hS hHx hK (hl.1.trans hml.symm) dX11_start_28 dX11_start_31 dX11_start_32 dX11_start_35 hnt (Nat.le_of_ble_eq_true rfl) (Nat.le_of_ble_eq_true rfl) (Nat.le_of_ble_eq_true rfl) (Nat.le_of_ble_eq_true rfl) hlocks (Nat.le_of_ble_eq_true rfl) (Nat.le_of_ble_eq_true rfl)
    · skip
      have h_8 := s_nlt (rfl : x.toInt = _) (show (1 : Int32).toInt = 1 from rfl) c_5
      refine lv_iload_n hx hb dX11_start_23 rfl (lv_at hl 1 rfl) ?_
      refine lv_iconst (v := 3) hx hb dX11_start_24 (by decide) ?_
      refine lv_icmp_le (tgt := 36) hx hb dX11_start_25 (by decide) (fun c_9 => ?_) (fun c_9 => ?_)
      · skip
        have h_10 := s_le (rfl : x.toInt = _) (show (3 : Int32).toInt = 3 from rfl) c_9
        refine lv_aload_n hx hb dX11_start_36 rfl (lv_at hl 0 rfl) ?_
        refine h_getr (ci := 11) (C := RX11) (F := TX11) (N := 14) hx hb hts in11 hown hK hH (by decide) (rfl : kd 0 = 11) (by decide) rfl 4 (by decide) wd0 (fun _ h9 => h9) (by decide) rfl (t := 23) (hR 0 4 rfl) (by decide) dX11_start_37 ?_
        refine lv_iload_n hx hb dX11_start_40 rfl (lv_at hl 1 rfl) ?_
        refine x_callv (va_runV (As := [.int x]) (rest := []) ⟨hx, hb, hml, hown, hts⟩ (k_clear l D g ka ad i r L d x hO hR s.heap.size (by first | omega | decide) (by first | omega | decide)) (cwV 1 hts gX11_start_X7_clear rfl rfl rfl (by decide +kernel) ⟨(Nat.le_of_ble_eq_true rfl), (Nat.le_of_ble_eq_true rfl)⟩) (x_preV (q := (RX7, TX7, 11)) hH hK (q_obj (by decide) (rfl : kd 23 = 7) (by decide)) rfl gxb (gxw hE hS (x_F hH hS hA))) rfl rfl hl.1 rfl (lv_room (Nat.le_of_ble_eq_true rfl)) dX11_start_41 ⟨(Nat.le_of_ble_eq_true rfl), (Nat.le_of_ble_eq_true rfl)⟩) hH hS hA rfl rfl (fun im_13 H locs hw_12 hH hS => ?_)
        have hH : sj_H D A (hwc g ka im_13 r L d) H := hH
        obtain ⟨hO_15, hfr_14, he_16⟩ := hw_12
        refine lv_iconst (v := 0) hx hb dX11_start_44 (by decide) ?_
        refine lv_istore_n (lv' := [(2, .int 0), (0, .ref (g 0)), (1, .int x)]) hx hb dX11_start_45 rfl hl (by decide) rfl (fun ls hl => ?_)
        -- loop at 46
        have lp_17 : ∀ (fuel_lp_17 : Nat) (f : Int32) (j1 : Nat → Nat → Int32) (H : Heap) (locs : List Loc) (ls : Array Slot), (24 - f.toInt).toNat < fuel_lp_17 → (0 : Int) ≤ f.toInt ∧ f.toInt ≤ 24 → f.toInt ≤ (i 13 4).toInt → quI i j1 r a9 f.toInt → SC i j1 → (j1 23 1).toInt = x.toInt ∧ (j1 23 2).toInt = 0 ∧ (j1 23 5).toInt = 0 ∧ (j1 23 6).toInt = 0 ∧ (j1 23 8).toInt = 1 ∧ (j1 23 10).toInt = (i 23 10).toInt → (j1 23 4).toInt = (cnl (fun c9 => tgH i a9 (ctag i c9)) f.toInt.toNat : Int) → OkI j1 → (∀ a, ¬ (a = 23 ∨ a = 28 ∨ (216 ≤ a ∧ a < 240) ∨ a = 357 + 2 * a9) → j1 a = im_13 a) → lv_has ls 4 [(2, .int f), (0, .ref (g 0)), (1, .int x)] → sj_H D A (hwc g ka j1 r L d) H → va_S A s.heap H locs → W p l e (headSpec wsX11_start ({ frames := 124, cells := 1, slots := 6, locals := 4925 })).room s m ([.ref (g 0), .int x] : List Value).toArray below meth c H locs 0 0 (vx_MQ below (sj_Qi (S := (Nat → Nat → Int32)) D (fun v u => OkI u ∧ (∀ a, ¬ (a = 23 ∨ (25 ≤ a ∧ a < 28) ∨ a = 28 ∨ a = 29 ∨ (216 ≤ a ∧ a < 240) ∨ (375 ≤ a ∧ a < 379)) → u a = i a) ∧ (RI u r d) ∧ ((i 23 8).toInt = 0 ∧ (1 ≤ x.toInt ∧ x.toInt ≤ 3) ∧ rest u r = ksum i r a9 (i 13 4).toInt.toNat ∧ ((0 < ksum i r a9 (i 13 4).toInt.toNat ∧ (u 23 8).toInt = 1) ∨ (ksum i r a9 (i 13 4).toInt.toNat ≤ 0 ∧ (u 23 8).toInt = 0))) ∧ (((u 23 10).toInt ≤ (i 23 10).toInt + 2)) ∧ (SC i u) ∧ ((i 23 8).toInt = 0 ∧ (1 ≤ x.toInt ∧ x.toInt ≤ 3) ∧ v.toInt = (cnl (fun c9 => tgH i a9 (ctag i c9)) (i 13 4).toInt.toNat : Int) ∧ (u 23 10).toInt + (u 23 8).toInt = (i 23 10).toInt + 2)) (fun u => hwc g ka u r L d) (fun _ => []) A) (x_XC (S := (Nat → Nat → Int32)) D (fun (E : String) u => (E = "java/lang/IllegalStateException" ∨ E = "java/lang/IllegalArgumentException") ∧ OkI u ∧ (∀ a, ¬ (a = 23 ∨ (25 ≤ a ∧ a < 28) ∨ a = 28 ∨ a = 29 ∨ (216 ≤ a ∧ a < 240) ∨ (375 ≤ a ∧ a < 379)) → u a = i a) ∧ (u = i ∧ ((i 23 8).toInt = 1 ∨ ((i 23 8).toInt = 0 ∧ (x.toInt < 1 ∨ 3 < x.toInt)))) ∧ (eX E ((i 23 8).toInt = 1) ((i 23 8).toInt = 0 ∧ (x.toInt < 1 ∨ 3 < x.toInt)) (False) (False))) (fun u => hwc g ka u r L d) A) ([.ref (g 0), .int x] : List Value).toArray s 1 6 A) (F0 m 46 ls []) := by
          intro fuel_lp_17
          induction fuel_lp_17 with
          | zero => intros; omega
          | succ fuel_lp_17 ih_lp_17 =>
            intro f j1 H locs ls hm hr_f hi_lp_17_0 hi_lp_17_1 hi_lp_17_2 hi_lp_17_3 hi_lp_17_4 hO_j1 hfr_j1 hl hH hS
            refine lv_iload_n hx hb dX11_start_46 rfl (lv_at hl 0 rfl) ?_
            refine lv_aload_n hx hb dX11_start_47 rfl (lv_at hl 1 rfl) ?_
            refine h_getr (ci := 11) (C := RX11) (F := TX11) (N := 14) hx hb hts in11 hown hK hH (by decide) (rfl : kd 0 = 11) (by decide) rfl 2 (by decide) wd4 (fun _ h9 => h9) (by decide) rfl (t := 13) (hR 0 2 rfl) (by decide) dX11_start_48 ?_
            have bx_18 : (0 : Int) ≤ (i 13 4).toInt ∧ (i 13 4).toInt ≤ 24 := hO 13 4
            refine h_geti (ci := 1) (C := RX1) (F := TX1) (N := 5) hx hb hts in1 hown hK hH (by decide) (rfl : kd 13 = 1) (by decide) rfl 4 (by decide) wd5 (fun _ h9 => h9) (by decide) rfl dX11_start_51 ?_
            refine sj_i (y := (i 13 4)) ((congrFun (hfr_j1 13 (by omega)) _).trans (congrFun (hfr_14 13 (by omega)) _)) ?_
            refine lv_icmp_ge (tgt := 100) hx hb dX11_start_54 (by decide) (fun c_19 => ?_) (fun c_19 => ?_)
            · skip
              have h_20 := s_le (rfl : (i 13 4).toInt = _) (rfl : f.toInt = _) c_19
              refine lv_aload_n hx hb dX11_start_100 rfl (lv_at hl 1 rfl) ?_
              refine h_getr (ci := 11) (C := RX11) (F := TX11) (N := 14) hx hb hts in11 hown hK hH (by decide) (rfl : kd 0 = 11) (by decide) rfl 4 (by decide) wd0 (fun _ h9 => h9) (by decide) rfl (t := 23) (hR 0 4 rfl) (by decide) dX11_start_101 ?_
              refine lv_iconst (v := 0) hx hb dX11_start_104 (by decide) ?_
              refine lv_aload_n hx hb dX11_start_105 rfl (lv_at hl 1 rfl) ?_
              refine h_getr (ci := 11) (C := RX11) (F := TX11) (N := 14) hx hb hts in11 hown hK hH (by decide) (rfl : kd 0 = 11) (by decide) rfl 4 (by decide) wd0 (fun _ h9 => h9) (by decide) rfl (t := 23) (hR 0 4 rfl) (by decide) dX11_start_106 ?_
              have bx_21 : (0 : Int) ≤ (j1 23 4).toInt ∧ (j1 23 4).toInt ≤ 24 := hO_j1 23 4
              refine h_geti (ci := 7) (C := RX7) (F := TX7) (N := 11) hx hb hts in7 hown hK hH (by decide) (rfl : kd 23 = 7) (by decide) rfl 4 (by decide) wd6 (fun _ h9 => h9) (by decide) rfl dX11_start_109 ?_
              refine lv_iload_n hx hb dX11_start_112 rfl (lv_at hl 2 rfl) ?_
              refine lv_iconst (v := 0) hx hb dX11_start_113 (by decide) ?_
              have hl_22 : (0 : Int32).toInt = 0 := rfl
              have hl_23 : (0 : Int32).toInt = 0 := rfl
              have hp_24 : (j1 23 1).toInt = ((j1 23 1) : Int32).toInt := rfl
              have hp_25 : (j1 23 2).toInt = ((j1 23 2) : Int32).toInt := rfl
              have hp_26 : (j1 23 4).toInt = ((j1 23 4) : Int32).toInt := rfl
              have hp_27 : (j1 23 5).toInt = ((j1 23 5) : Int32).toInt := rfl
              have hp_28 : (j1 23 6).toInt = ((j1 23 6) : Int32).toInt := rfl
              have hp_29 : (j1 23 7).toInt = ((j1 23 7) : Int32).toInt := rfl
              have hp_30 : (j1 23 8).toInt = ((j1 23 8) : Int32).toInt := rfl
              have hp_31 : (j1 23 10).toInt = ((j1 23 10) : Int32).toInt := rfl
              refine x_callv (va_runV (As := [.int 0, .int (j1 23 4), .int x, .int 0]) (rest := []) ⟨hx, hb, hml, hown, hts⟩ (k_tell l D g ka ad j1 r L d 0 (j1 23 4) x 0 hO_j1 hR H.size (by first | omega | decide)) (cwV 4 hts gX11_start_X7_tell rfl rfl rfl (by decide +kernel) ⟨(Nat.le_of_ble_eq_true rfl), (Nat.le_of_ble_eq_true rfl)⟩) (x_preV (q := (RX7, TX7, 11)) hH hK (q_obj (by decide) (rfl : kd 23 = 7) (by decide)) rfl gxb (gxw hE hS (x_F hH hS hA))) rfl rfl hl.1 rfl (lv_room (Nat.le_of_ble_eq_true rfl)) dX11_start_114 ⟨(Nat.le_of_ble_eq_true rfl), (Nat.le_of_ble_eq_true rfl)⟩) hH hS hA rfl rfl (fun im_34 H locs hw_33 hH hS => ?_)
              have hH : sj_H D A (hwc g ka im_34 r L d) H := hH
              obtain ⟨hO_36, hfr_35, he_37⟩ := hw_33
              refine lv_aload_n hx hb dX11_start_117 rfl (lv_at hl 1 rfl) ?_
              refine h_getr (ci := 11) (C := RX11) (F := TX11) (N := 14) hx hb hts in11 hown hK hH (by decide) (rfl : kd 0 = 11) (by decide) rfl 4 (by decide) wd0 (fun _ h9 => h9) (by decide) rfl (t := 23) (hR 0 4 rfl) (by decide) dX11_start_118 ?_
              have hp_38 : (im_34 23 1).toInt = ((im_34 23 1) : Int32).toInt := rfl
              have hp_39 : (im_34 23 2).toInt = ((im_34 23 2) : Int32).toInt := rfl
              have hp_40 : (im_34 23 4).toInt = ((im_34 23 4) : Int32).toInt := rfl
              have hp_41 : (im_34 23 5).toInt = ((im_34 23 5) : Int32).toInt := rfl
              have hp_42 : (im_34 23 6).toInt = ((im_34 23 6) : Int32).toInt := rfl
              have hp_43 : (im_34 23 7).toInt = ((im_34 23 7) : Int32).toInt := rfl
              have hp_44 : (im_34 23 8).toInt = ((im_34 23 8) : Int32).toInt := rfl
              have hp_45 : (im_34 23 10).toInt = ((im_34 23 10) : Int32).toInt := rfl
              refine x_callv (va_runV (As := []) (rest := []) ⟨hx, hb, hml, hown, hts⟩ (k_endIf l D g ka ad im_34 r L d  hO_36 hR H.size (by first | omega | decide)) (cwV 0 hts gX11_start_X7_endIfNothingIsLeft rfl rfl rfl (by decide +kernel) ⟨(Nat.le_of_ble_eq_true rfl), (Nat.le_of_ble_eq_true rfl)⟩) (x_preV (q := (RX7, TX7, 11)) hH hK (q_obj (by decide) (rfl : kd 23 = 7) (by decide)) rfl gxb (gxw hE hS (x_F hH hS hA))) rfl rfl hl.1 rfl (lv_room (Nat.le_of_ble_eq_true rfl)) dX11_start_121 ⟨(Nat.le_of_ble_eq_true rfl), (Nat.le_of_ble_eq_true rfl)⟩) hH hS hA rfl rfl (fun im_48 H locs hw_47 hH hS => ?_)
              have hH : sj_H D A (hwc g ka im_48 r L d) H := hH
              obtain ⟨hO_50, hfr_49, he_51⟩ := hw_47
              refine lv_aload_n hx hb dX11_start_124 rfl (lv_at hl 1 rfl) ?_
              refine h_getr (ci := 11) (C := RX11) (F := TX11) (N := 14) hx hb hts in11 hown hK hH (by decide) (rfl : kd 0 = 11) (by decide) rfl 4 (by decide) wd0 (fun _ h9 => h9) (by decide) rfl (t := 23) (hR 0 4 rfl) (by decide) dX11_start_125 ?_
              have bx_52 : (0 : Int) ≤ (im_48 23 4).toInt ∧ (im_48 23 4).toInt ≤ 24 := hO_50 23 4
              refine h_geti (ci := 7) (C := RX7) (F := TX7) (N := 11) hx hb hts in7 hown hK hH (by decide) (rfl : kd 23 = 7) (by decide) rfl 4 (by decide) wd6 (fun _ h9 => h9) (by decide) rfl dX11_start_128 ?_
              have hp_53 : (im_48 23 1).toInt = ((im_48 23 1) : Int32).toInt := rfl
              have hp_54 : (im_48 23 2).toInt = ((im_48 23 2) : Int32).toInt := rfl
              have hp_55 : (im_48 23 4).toInt = ((im_48 23 4) : Int32).toInt := rfl
              have hp_56 : (im_48 23 5).toInt = ((im_48 23 5) : Int32).toInt := rfl
              have hp_57 : (im_48 23 6).toInt = ((im_48 23 6) : Int32).toInt := rfl
              have hp_58 : (im_48 23 7).toInt = ((im_48 23 7) : Int32).toInt := rfl
              have hp_59 : (im_48 23 8).toInt = ((im_48 23 8) : Int32).toInt := rfl
              have hp_60 : (im_48 23 10).toInt = ((im_48 23 10) : Int32).toInt := rfl
              have hSCz : SC i im_48 := hi_lp_17_2.trans ((show SC j1 im_34 from ⟨hfr_35 33 (by omega), congrArg Int32.toInt (congrFun (hfr_35 0 (by omega)) 11), tgE.of (fun a ha => hfr_35 a (by omega)), fun c9 hc9 => congrFun (hfr_35 (216 + 1 * c9) (by omega)) 3, fun a ha => hfr_35 a (by omega)⟩).trans (show SC im_34 im_48 from ⟨hfr_49 33 (by omega), congrArg Int32.toInt (congrFun (hfr_49 0 (by omega)) 11), tgE.of (fun a ha => hfr_49 a (by omega)), fun c9 hc9 => congrFun (hfr_49 (216 + 1 * c9) (by omega)) 3, fun a ha => hfr_49 a (by omega)⟩))
              have hPCz : PC im_48 r := (PC_fr hPC (fun a ha => ((hfr_49 a (by omega)).trans ((hfr_35 a (by omega)).trans ((hfr_j1 a (by omega)).trans (hfr_14 a (by omega)))))) (fun _ _ _ => rfl))
              have hnj := (hRI.resolve_right (fun q => by have := q.1; omega)).2
              have hk0 : (im_13 (25 + 1 * 0) 1).toInt < 0 := by show (im_13 25 1).toInt < 0; have h9 : (i 25 1).toInt < 0 := hnj 0 (by omega); omega
              have hk1 : (im_13 (25 + 1 * 1) 1).toInt < 0 := by show (im_13 26 1).toInt < 0; have h9 : (i 26 1).toInt < 0 := hnj 1 (by omega); omega
              have hk2 : (im_13 (25 + 1 * 2) 1).toInt < 0 := by show (im_13 27 1).toInt < 0; have h9 : (i 27 1).toInt < 0 := hnj 2 (by omega); omega
              have hkn : ∀ w9 : Nat, w9 < 3 → (im_48 (25 + 1 * w9) 1).toInt < 0 := fun w9 hw9 => by rw [show im_48 (25 + 1 * w9) = im_13 (25 + 1 * w9) from ((hfr_49 (25 + 1 * w9) (by omega)).trans ((hfr_35 (25 + 1 * w9) (by omega)).trans (hfr_j1 (25 + 1 * w9) (by omega))))]; rcases (show w9 = 0 ∨ w9 = 1 ∨ w9 = 2 by omega) with rfl | rfl | rfl; exact hk0; exact hk1; exact hk2
              have hqz : quI i im_48 r a9 (i 13 4).toInt := by
                  have h9 := hi_lp_17_1
                  rw [show f.toInt = (i 13 4).toInt by omega] at h9
                  unfold quI at h9 ⊢
                  rw [show im_48 28 = j1 28 from ((hfr_49 28 (by omega)).trans (hfr_35 28 (by omega))), show (im_48 23 4).toInt = (j1 23 4).toInt by omega]
                  exact h9
              have hkr := kst_run (i := i) (u := im_48) (r := r) (d := d) (a := a9) hO_50 hO hPC hPCz hSCz (congrArg Int32.toInt (((congrFun (hfr_49 13 (by omega)) _).trans ((congrFun (hfr_35 13 (by omega)) _).trans ((congrFun (hfr_j1 13 (by omega)) _).trans (congrFun (hfr_14 13 (by omega)) _)))))) (by omega) (by omega) (by omega) (by omega) hkn hqz
              have hkr3 := hkr.2.2
              have hV_61 : RI im_48 r d := (hkr3.elim (fun q => Or.inr ⟨by have := q.1; omega, hkr.1, by have := q.1; omega⟩) (fun q => Or.inl ⟨by have := q.1; omega, hkn⟩))
              have hV_62 : (i 23 8).toInt = 0 ∧ (1 ≤ x.toInt ∧ x.toInt ≤ 3) ∧ rest im_48 r = ksum i r a9 (i 13 4).toInt.toNat ∧ ((0 < ksum i r a9 (i 13 4).toInt.toNat ∧ (im_48 23 8).toInt = 1) ∨ (ksum i r a9 (i 13 4).toInt.toNat ≤ 0 ∧ (im_48 23 8).toInt = 0)) := ⟨by omega, ⟨by omega, by omega⟩, hkr.2.1, hkr3.elim (fun q => Or.inl ⟨q.2, by have := q.1; omega⟩) (fun q => Or.inr ⟨q.2, by have := q.1; omega⟩)⟩
              have hV_63 : ((im_48 23 10).toInt ≤ (i 23 10).toInt + 2) := (by omega)
              have hV_64 : SC i im_48 := hSCz
              have hp_65 : (im_48 23 1).toInt = ((im_48 23 1) : Int32).toInt := rfl
              have hp_66 : (im_48 23 2).toInt = ((im_48 23 2) : Int32).toInt := rfl
              have hp_67 : (im_48 23 4).toInt = ((im_48 23 4) : Int32).toInt := rfl
              have hp_68 : (im_48 23 5).toInt = ((im_48 23 5) : Int32).toInt := rfl
              have hp_69 : (im_48 23 6).toInt = ((im_48 23 6) : Int32).toInt := rfl
              have hp_70 : (im_48 23 7).toInt = ((im_48 23 7) : Int32).toInt := rfl
              have hp_71 : (im_48 23 8).toInt = ((im_48 23 8) : Int32).toInt := rfl
              have hp_72 : (im_48 23 10).toInt = ((im_48 23 10) : Int32).toInt := rfl
              have hcn9 := hi_lp_17_4
              rw [show f.toInt.toNat = (i 13 4).toInt.toNat by omega] at hcn9
              have hV_73 : (i 23 8).toInt = 0 ∧ (1 ≤ x.toInt ∧ x.toInt ≤ 3) ∧ ((im_48 23 4) : Int32).toInt = (cnl (fun c9 => tgH i a9 (ctag i c9)) (i 13 4).toInt.toNat : Int) ∧ (im_48 23 10).toInt + (im_48 23 8).toInt = (i 23 10).toInt + 2 := ⟨by omega, ⟨by omega, by omega⟩, by omega, by omega⟩
              refine vx_ret ?_
              exact sj_zret hx hb hr hlocks rfl hS im_48 ⟨hO_50, (fun a ha => ((hfr_49 a (by omega)).trans ((hfr_35 a (by omega)).trans ((hfr_j1 a (by omega)).trans (hfr_14 a (by omega)))))), hV_61, hV_62, hV_63, hV_64, hV_73⟩ hH (sj_Knil hK) (Nat.le_of_ble_eq_true rfl) (Nat.le_of_ble_eq_true rfl) dX11_start_131
            · skip
              have h_74 := s_nle (rfl : (i 13 4).toInt = _) (rfl : f.toInt = _) c_19
              refine lv_aload_n hx hb dX11_start_57 rfl (lv_at hl 1 rfl) ?_
              refine h_getr (ci := 11) (C := RX11) (F := TX11) (N := 14) hx hb hts in11 hown hK hH (by decide) (rfl : kd 0 = 11) (by decide) rfl 2 (by decide) wd4 (fun _ h9 => h9) (by decide) rfl (t := 13) (hR 0 2 rfl) (by decide) dX11_start_58 ?_
              refine h_getr (ci := 1) (C := RX1) (F := TX1) (N := 5) hx hb hts in1 hown hK hH (by decide) (rfl : kd 13 = 1) (by decide) rfl 3 (by decide) wd7 (fun _ h9 => h9) (by decide) rfl (t := 18) (hR 13 3 rfl) (by decide) dX11_start_61 ?_
              refine lv_iload_n hx hb dX11_start_64 rfl (lv_at hl 0 rfl) ?_
              obtain ⟨j_75, ej_75, hj_75⟩ : ∃ j : Nat, (f).toNatClampNeg = j ∧ (j : Int) = f.toInt := ⟨_, rfl, by rw [s_cl (rfl : f.toInt = _)]; omega⟩
              have lj_75 : j_75 < 24 := by omega
              refine h_qald hx hb hK hH (by decide) (rfl : kd 18 = 18) (by decide) rfl (s_vin (N := 24) (rfl : f.toInt = _) (rfl : ln 18 = 24) (by omega) (by omega)) (t := (216 + 1 * j_75)) (by rw [ej_75]; exact (hR 18 j_75 rfl)) (lt_nK (by omega)) dX11_start_65 ?_
              refine lv_astore_n (lv' := [(3, .ref (g (216 + 1 * j_75))), (2, .int f), (0, .ref (g 0)), (1, .int x)]) hx hb dX11_start_66 rfl hl (by decide) rfl (fun ls hl => ?_)
              refine lv_aload_n hx hb dX11_start_67 rfl (lv_at hl 0 rfl) ?_
              refine lv_iconst (v := (-1)) hx hb dX11_start_68 (by decide) ?_
              have hO_76 := okp hO_j1 (n := (216 + 1 * j_75)) (k := 4) (v := (-1)) (by rw [bx_case (by omega) (by omega) 4]; exact (show (-1 : Int) ≤ ((-1) : Int32).toInt ∧ ((-1) : Int32).toInt ≤ 5 from ⟨by decide, by decide⟩))
              refine h_puti (ty := .int) (ci := 0) (C := RX0) (F := TX0) (N := 5) hx hb hts in0 tyX0 tyX0_ok nmX0 hown hK hH hS (lt_nK (by omega)) (kd_case (by omega) (by omega)) (by decide) rfl 4 (by decide) wd8 (fun _ h9 => h9) rfl (by decide +kernel) rfl rfl (by decide) rfl dX11_start_69 (fun H locs hH hS => ?_)
              refine lv_aload_n hx hb dX11_start_72 rfl (lv_at hl 2 rfl) ?_
              refine h_getr (ci := 11) (C := RX11) (F := TX11) (N := 14) hx hb hts in11 hown hK hH (by decide) (rfl : kd 0 = 11) (by decide) rfl 12 (by decide) wd9 (fun _ h9 => h9) (by decide) rfl (t := (357 + 2 * a9)) hr12 (lt_nK (by omega)) dX11_start_73 ?_
              refine lv_aload_n hx hb dX11_start_76 rfl (lv_at hl 0 rfl) ?_
              have bx_77 : (0 : Int) ≤ (j1 (216 + 1 * j_75) 3).toInt ∧ (j1 (216 + 1 * j_75) 3).toInt ≤ 65535 := by have h9 := hO_j1 (216 + 1 * j_75) 3; rw [bx_case (by omega) (by omega) 3] at h9; exact h9
              refine h_geti (ci := 0) (C := RX0) (F := TX0) (N := 5) hx hb hts in0 hown hK hH (lt_nK (by omega)) (kd_case (by omega) (by omega)) (by decide) rfl 3 (by decide) wd10 (fun _ h9 => h9) (by decide) rfl dX11_start_77 ?_
              refine sj_i (y := (j1 (216 + 1 * j_75) 3)) (up2_k _ _ (by decide)) ?_
              refine x_calli (va_runV (As := [.int (j1 (216 + 1 * j_75) 3)]) (rest := []) ⟨hx, hb, hml, hown, hts⟩ (k_holds l D g ka ad (up2 j1 (216 + 1 * j_75) 4 (-1)) r L d a9 (j1 (216 + 1 * j_75) 3) hO_76 hR H.size (by first | omega | decide) ((hi_lp_17_2.trans (show SC j1 (up2 j1 (216 + 1 * j_75) 4 (-1)) from ⟨up2_n _ _ (by omega), congrArg Int32.toInt (up2_o _ _ (by omega)), tgE.of (fun a ha => up2_n _ _ (by omega)), fun c9 hc9 => up2_o _ _ (by omega), fun a ha => up2_n _ _ (by omega)⟩)).2.2.1.o (by omega) hTO).1) (cwV 1 hts gX11_start_X9_holds rfl rfl rfl (by decide +kernel) ⟨(Nat.le_of_ble_eq_true rfl), (Nat.le_of_ble_eq_true rfl)⟩) (x_preV (q := (RX9, TX9, 4)) hH hK (q_obj (lt_nK (by omega)) (kd_tag (show a9 < 11 by omega)) (by decide)) rfl gxb (gxw hE hS (x_F hH hS hA))) rfl rfl hl.1 rfl (lv_room (Nat.le_of_ble_eq_true rfl)) dX11_start_80 ⟨(Nat.le_of_ble_eq_true rfl), (Nat.le_of_ble_eq_true rfl)⟩) hH hS hA rfl rfl (fun r_78 im_80 H locs hw_79 hH hS => ?_)
              have hH : sj_H D A (hwc g ka im_80 r L d) H := hH
              obtain ⟨hO_82, hfr_81, hr_83, he_84, hx2_85⟩ := hw_79
              have hr_83 : (0 : Int) ≤ r_78.toInt ∧ r_78.toInt ≤ 1 := hr_83
              have hSCp : SC i (up2 j1 (216 + 1 * j_75) 4 (-1)) := hi_lp_17_2.trans (show SC j1 (up2 j1 (216 + 1 * j_75) 4 (-1)) from ⟨up2_n _ _ (by omega), congrArg Int32.toInt (up2_o _ _ (by omega)), tgE.of (fun a ha => up2_n _ _ (by omega)), fun c9 hc9 => up2_o _ _ (by omega), fun a ha => up2_n _ _ (by omega)⟩)
              have ho9 : tgO (up2 j1 (216 + 1 * j_75) 4 (-1)) a9 := hSCp.2.2.1.o (by omega) hTO
              have hv9 : r_78.toInt = (if tgH (up2 j1 (216 + 1 * j_75) 4 (-1)) a9 (j1 (216 + 1 * j_75) 3) = true then 1 else 0) := hold_tgH ho9 he_84.2 (fun b q hb => (hx2_85 q).1 b hb)
              rw [hSCp.2.2.1.h (by omega)] at hv9
              have htg : (j1 (216 + 1 * j_75) 3) = ctag i f.toInt.toNat := by rw [show f.toInt.toNat = j_75 by omega]; exact hi_lp_17_2.2.2.2.1 j_75 (by omega)
              rw [htg] at hv9
              refine lv_if_eq (tgt := 94) hx hb dX11_start_83 (by decide) (fun c_86 => ?_) (fun c_86 => ?_)
              · skip
                have h_87 := s_eq (rfl : r_78.toInt = _) (show (0 : Int32).toInt = 0 from rfl) c_86
                obtain ⟨z_88, ez_88, hz_88⟩ := s_add (rfl : f.toInt = _) (show (1 : Int32).toInt = 1 from rfl) (by omega) (by omega)
                refine lv_iinc (v := z_88) (lv' := [(2, .int z_88), (3, .ref (g (216 + 1 * j_75))), (0, .ref (g 0)), (1, .int x)]) hx hb dX11_start_94 hl (k := 1) rfl ez_88 (by decide) rfl (fun ls hl => ?_)
                refine lv_goto (tgt := 46) hx hb dX11_start_97 (by decide) ?_
                have hp_89 : (im_80 23 1).toInt = ((j1 23 1) : Int32).toInt := congrArg Int32.toInt (((congrFun (hfr_81 23 (by omega)) _).trans (congrFun (up2_n _ _ (by omega)) _)))
                have hp_90 : (im_80 23 2).toInt = ((j1 23 2) : Int32).toInt := congrArg Int32.toInt (((congrFun (hfr_81 23 (by omega)) _).trans (congrFun (up2_n _ _ (by omega)) _)))
                have hp_91 : (im_80 23 4).toInt = ((j1 23 4) : Int32).toInt := congrArg Int32.toInt (((congrFun (hfr_81 23 (by omega)) _).trans (congrFun (up2_n _ _ (by omega)) _)))
                have hp_92 : (im_80 23 5).toInt = ((j1 23 5) : Int32).toInt := congrArg Int32.toInt (((congrFun (hfr_81 23 (by omega)) _).trans (congrFun (up2_n _ _ (by omega)) _)))
                have hp_93 : (im_80 23 6).toInt = ((j1 23 6) : Int32).toInt := congrArg Int32.toInt (((congrFun (hfr_81 23 (by omega)) _).trans (congrFun (up2_n _ _ (by omega)) _)))
                have hp_94 : (im_80 23 7).toInt = ((j1 23 7) : Int32).toInt := congrArg Int32.toInt (((congrFun (hfr_81 23 (by omega)) _).trans (congrFun (up2_n _ _ (by omega)) _)))
                have hp_95 : (im_80 23 8).toInt = ((j1 23 8) : Int32).toInt := congrArg Int32.toInt (((congrFun (hfr_81 23 (by omega)) _).trans (congrFun (up2_n _ _ (by omega)) _)))
                have hp_96 : (im_80 23 10).toInt = ((j1 23 10) : Int32).toInt := congrArg Int32.toInt (((congrFun (hfr_81 23 (by omega)) _).trans (congrFun (up2_n _ _ (by omega)) _)))
                have hp_97 : (im_80 23 1).toInt = ((j1 23 1) : Int32).toInt := congrArg Int32.toInt (((congrFun (hfr_81 23 (by omega)) _).trans (congrFun (up2_n _ _ (by omega)) _)))
                have hp_98 : (im_80 23 2).toInt = ((j1 23 2) : Int32).toInt := congrArg Int32.toInt (((congrFun (hfr_81 23 (by omega)) _).trans (congrFun (up2_n _ _ (by omega)) _)))
                have hp_99 : (im_80 23 4).toInt = ((j1 23 4) : Int32).toInt := congrArg Int32.toInt (((congrFun (hfr_81 23 (by omega)) _).trans (congrFun (up2_n _ _ (by omega)) _)))
                have hp_100 : (im_80 23 5).toInt = ((j1 23 5) : Int32).toInt := congrArg Int32.toInt (((congrFun (hfr_81 23 (by omega)) _).trans (congrFun (up2_n _ _ (by omega)) _)))
                have hp_101 : (im_80 23 6).toInt = ((j1 23 6) : Int32).toInt := congrArg Int32.toInt (((congrFun (hfr_81 23 (by omega)) _).trans (congrFun (up2_n _ _ (by omega)) _)))
                have hp_102 : (im_80 23 7).toInt = ((j1 23 7) : Int32).toInt := congrArg Int32.toInt (((congrFun (hfr_81 23 (by omega)) _).trans (congrFun (up2_n _ _ (by omega)) _)))
                have hp_103 : (im_80 23 8).toInt = ((j1 23 8) : Int32).toInt := congrArg Int32.toInt (((congrFun (hfr_81 23 (by omega)) _).trans (congrFun (up2_n _ _ (by omega)) _)))
                have hp_104 : (im_80 23 10).toInt = ((j1 23 10) : Int32).toInt := congrArg Int32.toInt (((congrFun (hfr_81 23 (by omega)) _).trans (congrFun (up2_n _ _ (by omega)) _)))
                have hp_105 : (im_80 23 1).toInt = ((j1 23 1) : Int32).toInt := congrArg Int32.toInt (((congrFun (hfr_81 23 (by omega)) _).trans (congrFun (up2_n _ _ (by omega)) _)))
                have hp_106 : (im_80 23 2).toInt = ((j1 23 2) : Int32).toInt := congrArg Int32.toInt (((congrFun (hfr_81 23 (by omega)) _).trans (congrFun (up2_n _ _ (by omega)) _)))
                have hp_107 : (im_80 23 4).toInt = ((j1 23 4) : Int32).toInt := congrArg Int32.toInt (((congrFun (hfr_81 23 (by omega)) _).trans (congrFun (up2_n _ _ (by omega)) _)))
                have hp_108 : (im_80 23 5).toInt = ((j1 23 5) : Int32).toInt := congrArg Int32.toInt (((congrFun (hfr_81 23 (by omega)) _).trans (congrFun (up2_n _ _ (by omega)) _)))
                have hp_109 : (im_80 23 6).toInt = ((j1 23 6) : Int32).toInt := congrArg Int32.toInt (((congrFun (hfr_81 23 (by omega)) _).trans (congrFun (up2_n _ _ (by omega)) _)))
                have hp_110 : (im_80 23 7).toInt = ((j1 23 7) : Int32).toInt := congrArg Int32.toInt (((congrFun (hfr_81 23 (by omega)) _).trans (congrFun (up2_n _ _ (by omega)) _)))
                have hp_111 : (im_80 23 8).toInt = ((j1 23 8) : Int32).toInt := congrArg Int32.toInt (((congrFun (hfr_81 23 (by omega)) _).trans (congrFun (up2_n _ _ (by omega)) _)))
                have hp_112 : (im_80 23 10).toInt = ((j1 23 10) : Int32).toInt := congrArg Int32.toInt (((congrFun (hfr_81 23 (by omega)) _).trans (congrFun (up2_n _ _ (by omega)) _)))
                have hno : tgH i a9 (ctag i f.toInt.toNat) = false := by
                    cases q : tgH i a9 (ctag i f.toInt.toNat) with
                    | true => rw [q] at hv9; simp at hv9; omega
                    | false => rfl
                have hp_113 : (im_80 23 1).toInt = ((j1 23 1) : Int32).toInt := congrArg Int32.toInt (((congrFun (hfr_81 23 (by omega)) _).trans (congrFun (up2_n _ _ (by omega)) _)))
                have hp_114 : (im_80 23 2).toInt = ((j1 23 2) : Int32).toInt := congrArg Int32.toInt (((congrFun (hfr_81 23 (by omega)) _).trans (congrFun (up2_n _ _ (by omega)) _)))
                have hp_115 : (im_80 23 4).toInt = ((j1 23 4) : Int32).toInt := congrArg Int32.toInt (((congrFun (hfr_81 23 (by omega)) _).trans (congrFun (up2_n _ _ (by omega)) _)))
                have hp_116 : (im_80 23 5).toInt = ((j1 23 5) : Int32).toInt := congrArg Int32.toInt (((congrFun (hfr_81 23 (by omega)) _).trans (congrFun (up2_n _ _ (by omega)) _)))
                have hp_117 : (im_80 23 6).toInt = ((j1 23 6) : Int32).toInt := congrArg Int32.toInt (((congrFun (hfr_81 23 (by omega)) _).trans (congrFun (up2_n _ _ (by omega)) _)))
                have hp_118 : (im_80 23 7).toInt = ((j1 23 7) : Int32).toInt := congrArg Int32.toInt (((congrFun (hfr_81 23 (by omega)) _).trans (congrFun (up2_n _ _ (by omega)) _)))
                have hp_119 : (im_80 23 8).toInt = ((j1 23 8) : Int32).toInt := congrArg Int32.toInt (((congrFun (hfr_81 23 (by omega)) _).trans (congrFun (up2_n _ _ (by omega)) _)))
                have hp_120 : (im_80 23 10).toInt = ((j1 23 10) : Int32).toInt := congrArg Int32.toInt (((congrFun (hfr_81 23 (by omega)) _).trans (congrFun (up2_n _ _ (by omega)) _)))
                have hp_121 : (im_80 23 1).toInt = ((j1 23 1) : Int32).toInt := congrArg Int32.toInt (((congrFun (hfr_81 23 (by omega)) _).trans (congrFun (up2_n _ _ (by omega)) _)))
                have hp_122 : (im_80 23 2).toInt = ((j1 23 2) : Int32).toInt := congrArg Int32.toInt (((congrFun (hfr_81 23 (by omega)) _).trans (congrFun (up2_n _ _ (by omega)) _)))
                have hp_123 : (im_80 23 4).toInt = ((j1 23 4) : Int32).toInt := congrArg Int32.toInt (((congrFun (hfr_81 23 (by omega)) _).trans (congrFun (up2_n _ _ (by omega)) _)))
                have hp_124 : (im_80 23 5).toInt = ((j1 23 5) : Int32).toInt := congrArg Int32.toInt (((congrFun (hfr_81 23 (by omega)) _).trans (congrFun (up2_n _ _ (by omega)) _)))
                have hp_125 : (im_80 23 6).toInt = ((j1 23 6) : Int32).toInt := congrArg Int32.toInt (((congrFun (hfr_81 23 (by omega)) _).trans (congrFun (up2_n _ _ (by omega)) _)))
                have hp_126 : (im_80 23 7).toInt = ((j1 23 7) : Int32).toInt := congrArg Int32.toInt (((congrFun (hfr_81 23 (by omega)) _).trans (congrFun (up2_n _ _ (by omega)) _)))
                have hp_127 : (im_80 23 8).toInt = ((j1 23 8) : Int32).toInt := congrArg Int32.toInt (((congrFun (hfr_81 23 (by omega)) _).trans (congrFun (up2_n _ _ (by omega)) _)))
                have hp_128 : (im_80 23 10).toInt = ((j1 23 10) : Int32).toInt := congrArg Int32.toInt (((congrFun (hfr_81 23 (by omega)) _).trans (congrFun (up2_n _ _ (by omega)) _)))
                exact ih_lp_17 z_88 _ _ _ ls (by omega) (by omega) (by omega) (quI_n hi_lp_17_1 (by omega) hz_88 hno (by omega) (((hfr_81 28 (by omega)).trans (up2_n _ _ (by omega))))) (hi_lp_17_2.trans ((show SC j1 (up2 j1 (216 + 1 * j_75) 4 (-1)) from ⟨up2_n _ _ (by omega), congrArg Int32.toInt (up2_o _ _ (by omega)), tgE.of (fun a ha => up2_n _ _ (by omega)), fun c9 hc9 => up2_o _ _ (by omega), fun a ha => up2_n _ _ (by omega)⟩).trans (show SC (up2 j1 (216 + 1 * j_75) 4 (-1)) im_80 from ⟨hfr_81 33 (by omega), congrArg Int32.toInt (congrFun (hfr_81 0 (by omega)) 11), tgE.one (by omega) hfr_81 he_84.1, fun c9 hc9 => congrFun (hfr_81 (216 + 1 * c9) (by omega)) 3, fun a ha => hfr_81 a (by omega)⟩))) (by omega) (cnl_k hi_lp_17_4 hv9 (by omega) (by omega)) hO_82 (fun a ha => ((hfr_81 a (by omega)).trans ((up2_n _ _ (by omega)).trans (hfr_j1 a (by omega))))) (lv_sub hl [0, 2, 3] rfl) hH hS
              · skip
                have h_129 := s_ne (rfl : r_78.toInt = _) (show (0 : Int32).toInt = 0 from rfl) c_86
                refine lv_aload_n hx hb dX11_start_86 rfl (lv_at hl 2 rfl) ?_
                refine h_getr (ci := 11) (C := RX11) (F := TX11) (N := 14) hx hb hts in11 hown hK hH (by decide) (rfl : kd 0 = 11) (by decide) rfl 4 (by decide) wd0 (fun _ h9 => h9) (by decide) rfl (t := 23) (hR 0 4 rfl) (by decide) dX11_start_87 ?_
                refine lv_iload_n hx hb dX11_start_90 rfl (lv_at hl 1 rfl) ?_
                have hp_130 : (im_80 23 1).toInt = ((j1 23 1) : Int32).toInt := congrArg Int32.toInt (((congrFun (hfr_81 23 (by omega)) _).trans (congrFun (up2_n _ _ (by omega)) _)))
                have hp_131 : (im_80 23 2).toInt = ((j1 23 2) : Int32).toInt := congrArg Int32.toInt (((congrFun (hfr_81 23 (by omega)) _).trans (congrFun (up2_n _ _ (by omega)) _)))
                have hp_132 : (im_80 23 4).toInt = ((j1 23 4) : Int32).toInt := congrArg Int32.toInt (((congrFun (hfr_81 23 (by omega)) _).trans (congrFun (up2_n _ _ (by omega)) _)))
                have hp_133 : (im_80 23 5).toInt = ((j1 23 5) : Int32).toInt := congrArg Int32.toInt (((congrFun (hfr_81 23 (by omega)) _).trans (congrFun (up2_n _ _ (by omega)) _)))
                have hp_134 : (im_80 23 6).toInt = ((j1 23 6) : Int32).toInt := congrArg Int32.toInt (((congrFun (hfr_81 23 (by omega)) _).trans (congrFun (up2_n _ _ (by omega)) _)))
                have hp_135 : (im_80 23 7).toInt = ((j1 23 7) : Int32).toInt := congrArg Int32.toInt (((congrFun (hfr_81 23 (by omega)) _).trans (congrFun (up2_n _ _ (by omega)) _)))
                have hp_136 : (im_80 23 8).toInt = ((j1 23 8) : Int32).toInt := congrArg Int32.toInt (((congrFun (hfr_81 23 (by omega)) _).trans (congrFun (up2_n _ _ (by omega)) _)))
                have hp_137 : (im_80 23 10).toInt = ((j1 23 10) : Int32).toInt := congrArg Int32.toInt (((congrFun (hfr_81 23 (by omega)) _).trans (congrFun (up2_n _ _ (by omega)) _)))
                have hqu := hi_lp_17_1.1.2
                refine x_callv (va_runV (As := [.int f]) (rest := []) ⟨hx, hb, hml, hown, hts⟩ (k_enqueue l D g ka ad im_80 r L d f hO_82 hR H.size (by first | omega | decide) (by first | omega | decide) (by first | omega | decide)) (cwV 1 hts gX11_start_X7_enqueue rfl rfl rfl (by decide +kernel) ⟨(Nat.le_of_ble_eq_true rfl), (Nat.le_of_ble_eq_true rfl)⟩) (x_preV (q := (RX7, TX7, 11)) hH hK (q_obj (by decide) (rfl : kd 23 = 7) (by decide)) rfl gxb (gxw hE hS (x_F hH hS hA))) rfl rfl hl.1 rfl (lv_room (Nat.le_of_ble_eq_true rfl)) dX11_start_91 ⟨(Nat.le_of_ble_eq_true rfl), (Nat.le_of_ble_eq_true rfl)⟩) hH hS hA rfl rfl (fun im_140 H locs hw_139 hH hS => ?_)
                have hH : sj_H D A (hwc g ka im_140 r L d) H := hH
                obtain ⟨hO_142, hfr_141, he_143, hx2_144, hx2_145⟩ := hw_139
                obtain ⟨z_146, ez_146, hz_146⟩ := s_add (rfl : f.toInt = _) (show (1 : Int32).toInt = 1 from rfl) (by omega) (by omega)
                refine lv_iinc (v := z_146) (lv' := [(2, .int z_146), (3, .ref (g (216 + 1 * j_75))), (0, .ref (g 0)), (1, .int x)]) hx hb dX11_start_94 hl (k := 1) rfl ez_146 (by decide) rfl (fun ls hl => ?_)
                refine lv_goto (tgt := 46) hx hb dX11_start_97 (by decide) ?_
                have hp_147 : (im_140 23 1).toInt = ((im_140 23 1) : Int32).toInt := rfl
                have hp_148 : (im_140 23 2).toInt = ((im_140 23 2) : Int32).toInt := rfl
                have hp_149 : (im_140 23 4).toInt = ((im_140 23 4) : Int32).toInt := rfl
                have hp_150 : (im_140 23 5).toInt = ((im_140 23 5) : Int32).toInt := rfl
                have hp_151 : (im_140 23 6).toInt = ((im_140 23 6) : Int32).toInt := rfl
                have hp_152 : (im_140 23 7).toInt = ((im_140 23 7) : Int32).toInt := rfl
                have hp_153 : (im_140 23 8).toInt = ((im_140 23 8) : Int32).toInt := rfl
                have hp_154 : (im_140 23 10).toInt = ((im_140 23 10) : Int32).toInt := rfl
                have hp_155 : (im_140 23 1).toInt = ((im_140 23 1) : Int32).toInt := rfl
                have hp_156 : (im_140 23 2).toInt = ((im_140 23 2) : Int32).toInt := rfl
                have hp_157 : (im_140 23 4).toInt = ((im_140 23 4) : Int32).toInt := rfl
                have hp_158 : (im_140 23 5).toInt = ((im_140 23 5) : Int32).toInt := rfl
                have hp_159 : (im_140 23 6).toInt = ((im_140 23 6) : Int32).toInt := rfl
                have hp_160 : (im_140 23 7).toInt = ((im_140 23 7) : Int32).toInt := rfl
                have hp_161 : (im_140 23 8).toInt = ((im_140 23 8) : Int32).toInt := rfl
                have hp_162 : (im_140 23 10).toInt = ((im_140 23 10) : Int32).toInt := rfl
                have hp_163 : (im_140 23 1).toInt = ((im_140 23 1) : Int32).toInt := rfl
                have hp_164 : (im_140 23 2).toInt = ((im_140 23 2) : Int32).toInt := rfl
                have hp_165 : (im_140 23 4).toInt = ((im_140 23 4) : Int32).toInt := rfl
                have hp_166 : (im_140 23 5).toInt = ((im_140 23 5) : Int32).toInt := rfl
                have hp_167 : (im_140 23 6).toInt = ((im_140 23 6) : Int32).toInt := rfl
                have hp_168 : (im_140 23 7).toInt = ((im_140 23 7) : Int32).toInt := rfl
                have hp_169 : (im_140 23 8).toInt = ((im_140 23 8) : Int32).toInt := rfl
                have hp_170 : (im_140 23 10).toInt = ((im_140 23 10) : Int32).toInt := rfl
                have hyes : tgH i a9 (ctag i f.toInt.toNat) = true := by
                    cases q : tgH i a9 (ctag i f.toInt.toNat) with
                    | true => rfl
                    | false => rw [q] at hv9; simp at hv9; omega
                have hz28 : im_140 28 (j1 23 4).toInt.toNat = f := by have h9 := hx2_144; rw [(show (im_80 23 4).toInt = (j1 23 4).toInt from congrArg Int32.toInt (((congrFun (hfr_81 23 (by omega)) _).trans (congrFun (up2_n _ _ (by omega)) _))))] at h9; exact h9
                have hz29 : ∀ k : Nat, k ≠ (j1 23 4).toInt.toNat → im_140 28 k = j1 28 k := fun k hk => by have h9 := hx2_145 k (by rw [(show (im_80 23 4).toInt = (j1 23 4).toInt from congrArg Int32.toInt (((congrFun (hfr_81 23 (by omega)) _).trans (congrFun (up2_n _ _ (by omega)) _))))]; exact hk); rw [h9, (show im_80 28 = j1 28 from ((hfr_81 28 (by omega)).trans (up2_n _ _ (by omega))))]
                have hp_171 : (im_140 23 1).toInt = ((im_140 23 1) : Int32).toInt := rfl
                have hp_172 : (im_140 23 2).toInt = ((im_140 23 2) : Int32).toInt := rfl
                have hp_173 : (im_140 23 4).toInt = ((im_140 23 4) : Int32).toInt := rfl
                have hp_174 : (im_140 23 5).toInt = ((im_140 23 5) : Int32).toInt := rfl
                have hp_175 : (im_140 23 6).toInt = ((im_140 23 6) : Int32).toInt := rfl
                have hp_176 : (im_140 23 7).toInt = ((im_140 23 7) : Int32).toInt := rfl
                have hp_177 : (im_140 23 8).toInt = ((im_140 23 8) : Int32).toInt := rfl
                have hp_178 : (im_140 23 10).toInt = ((im_140 23 10) : Int32).toInt := rfl
                have hp_179 : (im_140 23 1).toInt = ((im_140 23 1) : Int32).toInt := rfl
                have hp_180 : (im_140 23 2).toInt = ((im_140 23 2) : Int32).toInt := rfl
                have hp_181 : (im_140 23 4).toInt = ((im_140 23 4) : Int32).toInt := rfl
                have hp_182 : (im_140 23 5).toInt = ((im_140 23 5) : Int32).toInt := rfl
                have hp_183 : (im_140 23 6).toInt = ((im_140 23 6) : Int32).toInt := rfl
                have hp_184 : (im_140 23 7).toInt = ((im_140 23 7) : Int32).toInt := rfl
                have hp_185 : (im_140 23 8).toInt = ((im_140 23 8) : Int32).toInt := rfl
                have hp_186 : (im_140 23 10).toInt = ((im_140 23 10) : Int32).toInt := rfl
                exact ih_lp_17 z_146 _ _ _ ls (by omega) (by omega) (by omega) (quI_y hi_lp_17_1 (by omega) hz_146 hyes (by omega) rfl hz28 hz29) (hi_lp_17_2.trans (((show SC j1 (up2 j1 (216 + 1 * j_75) 4 (-1)) from ⟨up2_n _ _ (by omega), congrArg Int32.toInt (up2_o _ _ (by omega)), tgE.of (fun a ha => up2_n _ _ (by omega)), fun c9 hc9 => up2_o _ _ (by omega), fun a ha => up2_n _ _ (by omega)⟩).trans (show SC (up2 j1 (216 + 1 * j_75) 4 (-1)) im_80 from ⟨hfr_81 33 (by omega), congrArg Int32.toInt (congrFun (hfr_81 0 (by omega)) 11), tgE.one (by omega) hfr_81 he_84.1, fun c9 hc9 => congrFun (hfr_81 (216 + 1 * c9) (by omega)) 3, fun a ha => hfr_81 a (by omega)⟩)).trans (show SC im_80 im_140 from ⟨hfr_141 33 (by omega), congrArg Int32.toInt (congrFun (hfr_141 0 (by omega)) 11), tgE.of (fun a ha => hfr_141 a (by omega)), fun c9 hc9 => congrFun (hfr_141 (216 + 1 * c9) (by omega)) 3, fun a ha => hfr_141 a (by omega)⟩))) (by omega) (cnl_k hi_lp_17_4 hv9 (by omega) (by omega)) hO_142 (fun a ha => ((hfr_141 a (by omega)).trans ((hfr_81 a (by omega)).trans ((up2_n _ _ (by omega)).trans (hfr_j1 a (by omega)))))) (lv_sub hl [0, 2, 3] rfl) hH hS
        have hl_187 : (0 : Int32).toInt = 0 := rfl
        have hp_188 : (im_13 23 1).toInt = ((im_13 23 1) : Int32).toInt := rfl
        have hp_189 : (im_13 23 2).toInt = ((im_13 23 2) : Int32).toInt := rfl
        have hp_190 : (im_13 23 4).toInt = ((im_13 23 4) : Int32).toInt := rfl
        have hp_191 : (im_13 23 5).toInt = ((im_13 23 5) : Int32).toInt := rfl
        have hp_192 : (im_13 23 6).toInt = ((im_13 23 6) : Int32).toInt := rfl
        have hp_193 : (im_13 23 7).toInt = ((im_13 23 7) : Int32).toInt := rfl
        have hp_194 : (im_13 23 8).toInt = ((im_13 23 8) : Int32).toInt := rfl
        have hp_195 : (im_13 23 10).toInt = ((im_13 23 10) : Int32).toInt := rfl
        have hp_196 : (im_13 23 1).toInt = ((im_13 23 1) : Int32).toInt := rfl
        have hp_197 : (im_13 23 2).toInt = ((im_13 23 2) : Int32).toInt := rfl
        have hp_198 : (im_13 23 4).toInt = ((im_13 23 4) : Int32).toInt := rfl
        have hp_199 : (im_13 23 5).toInt = ((im_13 23 5) : Int32).toInt := rfl
        have hp_200 : (im_13 23 6).toInt = ((im_13 23 6) : Int32).toInt := rfl
        have hp_201 : (im_13 23 7).toInt = ((im_13 23 7) : Int32).toInt := rfl
        have hp_202 : (im_13 23 8).toInt = ((im_13 23 8) : Int32).toInt := rfl
        have hp_203 : (im_13 23 10).toInt = ((im_13 23 10) : Int32).toInt := rfl
        have hp_204 : (im_13 23 1).toInt = ((im_13 23 1) : Int32).toInt := rfl
        have hp_205 : (im_13 23 2).toInt = ((im_13 23 2) : Int32).toInt := rfl
        have hp_206 : (im_13 23 4).toInt = ((im_13 23 4) : Int32).toInt := rfl
        have hp_207 : (im_13 23 5).toInt = ((im_13 23 5) : Int32).toInt := rfl
        have hp_208 : (im_13 23 6).toInt = ((im_13 23 6) : Int32).toInt := rfl
        have hp_209 : (im_13 23 7).toInt = ((im_13 23 7) : Int32).toInt := rfl
        have hp_210 : (im_13 23 8).toInt = ((im_13 23 8) : Int32).toInt := rfl
        have hp_211 : (im_13 23 10).toInt = ((im_13 23 10) : Int32).toInt := rfl
        have hp_212 : (im_13 23 1).toInt = ((im_13 23 1) : Int32).toInt := rfl
        have hp_213 : (im_13 23 2).toInt = ((im_13 23 2) : Int32).toInt := rfl
        have hp_214 : (im_13 23 4).toInt = ((im_13 23 4) : Int32).toInt := rfl
        have hp_215 : (im_13 23 5).toInt = ((im_13 23 5) : Int32).toInt := rfl
        have hp_216 : (im_13 23 6).toInt = ((im_13 23 6) : Int32).toInt := rfl
        have hp_217 : (im_13 23 7).toInt = ((im_13 23 7) : Int32).toInt := rfl
        have hp_218 : (im_13 23 8).toInt = ((im_13 23 8) : Int32).toInt := rfl
        have hp_219 : (im_13 23 10).toInt = ((im_13 23 10) : Int32).toInt := rfl
        have hp_220 : (im_13 23 1).toInt = ((im_13 23 1) : Int32).toInt := rfl
        have hp_221 : (im_13 23 2).toInt = ((im_13 23 2) : Int32).toInt := rfl
        have hp_222 : (im_13 23 4).toInt = ((im_13 23 4) : Int32).toInt := rfl
        have hp_223 : (im_13 23 5).toInt = ((im_13 23 5) : Int32).toInt := rfl
        have hp_224 : (im_13 23 6).toInt = ((im_13 23 6) : Int32).toInt := rfl
        have hp_225 : (im_13 23 7).toInt = ((im_13 23 7) : Int32).toInt := rfl
        have hp_226 : (im_13 23 8).toInt = ((im_13 23 8) : Int32).toInt := rfl
        have hp_227 : (im_13 23 10).toInt = ((im_13 23 10) : Int32).toInt := rfl
        exact lp_17 _ 0 _ _ _ ls (Nat.lt_succ_self _) (by omega) (by omega) (quI_0 (by omega) (by rfl)) (show SC i im_13 from ⟨hfr_14 33 (by omega), congrArg Int32.toInt (congrFun (hfr_14 0 (by omega)) 11), tgE.of (fun a ha => hfr_14 a (by omega)), fun c9 hc9 => congrFun (hfr_14 (216 + 1 * c9) (by omega)) 3, fun a ha => hfr_14 a (by omega)⟩) (by omega) (cnl_k0 (by omega) (by first | rfl | omega)) hO_15 (fun a ha => rfl) (lv_sub hl [0, 1, 2] rfl) hH hS
      · skip
        have h_228 := s_nle (rfl : x.toInt = _) (show (3 : Int32).toInt = 3 from rfl) c_9
        have hV_229 : i = i ∧ ((i 23 8).toInt = 1 ∨ ((i 23 8).toInt = 0 ∧ (x.toInt < 1 ∨ 3 < x.toInt))) := ⟨rfl, by omega⟩
        have hpx : (fun (E : String) (u : (Nat → Nat → Int32)) => (E = "java/lang/IllegalStateException" ∨ E = "java/lang/IllegalArgumentException") ∧ OkI u ∧ (∀ a, ¬ (a = 23 ∨ (25 ≤ a ∧ a < 28) ∨ a = 28 ∨ a = 29 ∨ (216 ≤ a ∧ a < 240) ∨ (375 ≤ a ∧ a < 379)) → u a = i a) ∧ (u = i ∧ ((i 23 8).toInt = 1 ∨ ((i 23 8).toInt = 0 ∧ (x.toInt < 1 ∨ 3 < x.toInt)))) ∧ (eX E ((i 23 8).toInt = 1) ((i 23 8).toInt = 0 ∧ (x.toInt < 1 ∨ 3 < x.toInt)) (False) (False))) "java/lang/IllegalArgumentException" i := ⟨(Or.inr rfl), hO, (fun a ha => rfl), hV_229, (eX_iae ⟨by omega, by omega⟩)⟩
        have hHx : sj_H D A ((fun (u : (Nat → Nat → Int32)) => hwc g ka u r L d) i) s.heap := hH
        exact x_throw (px := (fun (E : String) (u : (Nat → Nat → Int32)) => (E = "java/lang/IllegalStateException" ∨ E = "java/lang/IllegalArgumentException") ∧ OkI u ∧ (∀ a, ¬ (a = 23 ∨ (25 ≤ a ∧ a < 28) ∨ a = 28 ∨ a = 29 ∨ (216 ≤ a ∧ a < 240) ∨ (375 ≤ a ∧ a < 379)) → u a = i a) ∧ (u = i ∧ ((i 23 8).toInt = 1 ∨ ((i 23 8).toInt = 0 ∧ (x.toInt < 1 ∨ 3 < x.toInt)))) ∧ (eX E ((i 23 8).toInt = 1) ((i 23 8).toInt = 0 ∧ (x.toInt < 1 ∨ 3 < x.toInt)) (False) (False)))) (W1 := (fun (u : (Nat → Nat → Int32)) => hwc g ka u r L d)) hx hb hst (ik := 124) (ic := 126) (cls := "java/lang/IllegalArgumentException") i hpx hown (by decide) wd2 wd3 (fun w h => hts w (thr_126 w h)) (by decide +kernel) (by decide +kernel) (gx_iae hE) hS hHx hK (hl.1.trans hml.symm) dX11_start_28 dX11_start_31 dX11_start_32 dX11_start_35 hnt (Nat.le_of_ble_eq_true rfl) (Nat.le_of_ble_eq_true rfl) (Nat.le_of_ble_eq_true rfl) (Nat.le_of_ble_eq_true rfl) hlocks (Nat.le_of_ble_eq_true rfl) (Nat.le_of_ble_eq_true rfl)
  · skip
    have h_230 := s_ne (rfl : (i 23 8).toInt = _) (show (0 : Int32).toInt = 0 from rfl) c_3
    have hV_231 : i = i ∧ ((i 23 8).toInt = 1 ∨ ((i 23 8).toInt = 0 ∧ (x.toInt < 1 ∨ 3 < x.toInt))) := ⟨rfl, by omega⟩
    have hpx : (fun (E : String) (u : (Nat → Nat → Int32)) => (E = "java/lang/IllegalStateException" ∨ E = "java/lang/IllegalArgumentException") ∧ OkI u ∧ (∀ a, ¬ (a = 23 ∨ (25 ≤ a ∧ a < 28) ∨ a = 28 ∨ a = 29 ∨ (216 ≤ a ∧ a < 240) ∨ (375 ≤ a ∧ a < 379)) → u a = i a) ∧ (u = i ∧ ((i 23 8).toInt = 1 ∨ ((i 23 8).toInt = 0 ∧ (x.toInt < 1 ∨ 3 < x.toInt)))) ∧ (eX E ((i 23 8).toInt = 1) ((i 23 8).toInt = 0 ∧ (x.toInt < 1 ∨ 3 < x.toInt)) (False) (False))) "java/lang/IllegalStateException" i := ⟨(Or.inl rfl), hO, (fun a ha => rfl), hV_231, (eX_ise (by omega))⟩
    have hHx : sj_H D A ((fun (u : (Nat → Nat → Int32)) => hwc g ka u r L d) i) s.heap := hH
    exact x_throw (px := (fun (E : String) (u : (Nat → Nat → Int32)) => (E = "java/lang/IllegalStateException" ∨ E = "java/lang/IllegalArgumentException") ∧ OkI u ∧ (∀ a, ¬ (a = 23 ∨ (25 ≤ a ∧ a < 28) ∨ a = 28 ∨ a = 29 ∨ (216 ≤ a ∧ a < 240) ∨ (375 ≤ a ∧ a < 379)) → u a = i a) ∧ (u = i ∧ ((i 23 8).toInt = 1 ∨ ((i 23 8).toInt = 0 ∧ (x.toInt < 1 ∨ 3 < x.toInt)))) ∧ (eX E ((i 23 8).toInt = 1) ((i 23 8).toInt = 0 ∧ (x.toInt < 1 ∨ 3 < x.toInt)) (False) (False)))) (W1 := (fun (u : (Nat → Nat → Int32)) => hwc g ka u r L d)) hx hb hst (ik := 92) (ic := 94) (cls := "java/lang/IllegalStateException") i hpx hown (by decide) wd11 wd12 (fun w h => hts w (thr_94 w h)) (by decide +kernel) (by decide +kernel) (gx_ise hE) hS hHx hK (hl.1.trans hml.symm) dX11_start_10 dX11_start_13 dX11_start_14 dX11_start_17 hnt (Nat.le_of_ble_eq_true rfl) (Nat.le_of_ble_eq_true rfl) (Nat.le_of_ble_eq_true rfl) (Nat.le_of_ble_eq_true rfl) hlocks (Nat.le_of_ble_eq_true rfl) (Nat.le_of_ble_eq_true rfl)
