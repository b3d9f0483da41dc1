
set_option maxHeartbeats 2000000 in
set_option maxRecDepth 100000 in
theorem kv_error (l : Launch) (D : va_G) (g : Nat → Nat) (ka : Nat → ClassId) (ad : Nat → Nat) (i : Nat → Nat → Int32) (r : Nat → Nat → Nat) (L : Nat → Nat → Int64) (d : Nat → Nat → UInt64) (x : Int32) (y : Int32) (hO : OkI i) (hR : RS r) (sz : Nat) (hst : l.stackTraces = false) : vx_Met l yX11_error wsX11_error ({ frames := 6, cells := 1, slots := 6, locals := 90 }) (va_Pc [.ref (g 0), .int x, .int y] (sj_B D (hwc g ka i r L d) (hT ka) sz (gx ad (va_A (hwc g ka i r L d) sz)))) (sj_Qi (S := Unit) D (fun v u => ((0 ≤ x.toInt ∧ x.toInt < (i 3 4).toInt) ∧ ((y.toInt = 0 ∧ v.toInt = (i 6 x.toInt.toNat).toInt) ∨ (y.toInt = 1 ∧ v.toInt = (i 7 x.toInt.toNat).toInt)))) (fun _ => hwc g ka i r L d) (fun _ => []) (va_A (hwc g ka i r L d) sz)) (x_XC (S := Unit) D (fun (E : String) _ => (E = "java/lang/IndexOutOfBoundsException") ∧ (eX E (False) (False) (False) (x.toInt < 0 ∨ (i 3 4).toInt ≤ x.toInt ∨ y.toInt < 0 ∨ 1 < y.toInt))) (fun _ => hwc g ka i r L d) (va_A (hwc g ka i r L d) sz)) 1 6 (va_A (hwc g ka i r L d) sz) := by
  refine x_vmet (Ex := gx ad) (XC := x_XC (S := Unit) D (fun (E : String) _ => (E = "java/lang/IndexOutOfBoundsException") ∧ (eX E (False) (False) (False) (x.toInt < 0 ∨ (i 3 4).toInt ≤ x.toInt ∨ y.toInt < 0 ∨ 1 < y.toInt))) (fun _ => hwc g ka i r L d)) (cc := cX11_error) (maxL := 3) (ret := (some .int)) (by decide) rfl (Nat.le_of_ble_eq_true rfl) ?_
  intro p e s m below meth c A ls hx hb hr hml hts hown hlocks hnt hA hS hH hK hE hl
  have hown : s.vm.findClass RX11 = some m.cls := hown
  have in5 : ∀ w ∈ wsX50, w ∈ wsX11_error := (fun _ h => (List.mem_cons_of_mem _ (List.mem_append_left _ (List.mem_append_right _ h))))
  have in11 : ∀ w ∈ wsX110, w ∈ wsX11_error := (fun _ h => (List.mem_cons_of_mem _ (List.mem_append_left _ (List.mem_append_left _ (List.mem_append_right _ h)))))
  have wd0 := hts (.classLink RX11 105 "java/lang/IndexOutOfBoundsException") (List.mem_cons_of_mem _ (List.mem_append_left _ (List.mem_append_left _ (List.mem_append_left _ lm0))))
  have wd1 := hts (.initialized "java/lang/IndexOutOfBoundsException") (List.mem_cons_of_mem _ (List.mem_append_left _ (List.mem_append_left _ (List.mem_append_left _ lm1))))
  have wd2 := hts (.fieldLink RX11 21 "StoryDesk" "reading" "LStoryDesk$Reading;") (List.mem_cons_of_mem _ (List.mem_append_left _ (List.mem_append_left _ (List.mem_append_left _ lm2))))
  have wd3 := hts (.fieldLink RX11 102 "StoryDesk$Reading" "errors" "I") (List.mem_cons_of_mem _ (List.mem_append_left _ (List.mem_append_left _ (List.mem_append_left _ lm3))))
  have wd4 := hts (.fieldLink RX11 111 "StoryDesk$Reading" "errorNumbers" "[I") (List.mem_cons_of_mem _ (List.mem_append_left _ (List.mem_append_left _ (List.mem_append_left _ lm5))))
  have wd5 := hts (.fieldLink RX11 108 "StoryDesk$Reading" "errorLines" "[I") (List.mem_cons_of_mem _ (List.mem_append_left _ (List.mem_append_left _ (List.mem_append_left _ lm4))))
  have thr_107 : ∀ w ∈ (vx_at0 RX11 107 "java/lang/IndexOutOfBoundsException" ["java/lang/RuntimeException", "java/lang/Exception"]).filter goodWord, w ∈ wsX11_error := by decide +kernel
  have hl : lv_has ls 3 [(0, .ref (g 0)), (1, .int x), (2, .int y)] := hl
  have hK : va_K D vwCl (hT ka) s := hK
  have hg_1 := s_rng x
  have hg_2 := s_rng y
  have hb13 : (0 : Int) ≤ (i 13 4).toInt ∧ (i 13 4).toInt ≤ 24 := hO 13 4
  refine lv_iload_n hx hb dX11_error_0 rfl (lv_at hl 1 rfl) ?_
  refine lv_if_lt (tgt := 24) hx hb dX11_error_1 (by decide) (fun c_3 => ?_) (fun c_3 => ?_)
  · skip
    have h_4 := s_lt (rfl : x.toInt = _) (show (0 : Int32).toInt = 0 from rfl) c_3
    have hpx : (fun (E : String) (_ : Unit) => (E = "java/lang/IndexOutOfBoundsException") ∧ (eX E (False) (False) (False) (x.toInt < 0 ∨ (i 3 4).toInt ≤ x.toInt ∨ y.toInt < 0 ∨ 1 < y.toInt))) "java/lang/IndexOutOfBoundsException" () := ⟨rfl, (eX_iob (by omega))⟩
    have hHx : sj_H D A ((fun (_ : Unit) => hwc g ka i r L d) ()) s.heap := hH
    exact x_throw (px := (fun (E : String) (_ : Unit) => (E = "java/lang/IndexOutOfBoundsException") ∧ (eX E (False) (False) (False) (x.toInt < 0 ∨ (i 3 4).toInt ≤ x.toInt ∨ y.toInt < 0 ∨ 1 < y.toInt)))) (W1 := (fun (_ : Unit) => hwc g ka i r L d)) hx hb hst (ik := 105) (ic := 107) (cls := "java/lang/IndexOutOfBoundsException") () hpx hown (by decide) wd0 wd1 (fun w h => hts w (thr_107 w h)) (by decide +kernel) (by decide +kernel) (gx_iob hE) hS hHx hK (hl.1.trans hml.symm) dX11_error_24 dX11_error_27 dX11_error_28 dX11_error_31 hnt (Nat.le_of_ble_eq_true rfl) (Nat.le_of_ble_eq_true rfl) (Nat.le_of_ble_eq_true rfl) (Nat.le_of_ble_eq_true rfl) hlocks (Nat.le_of_ble_eq_true rfl) (Nat.le_of_ble_eq_true rfl)
  · skip
    have h_5 := s_nlt (rfl : x.toInt = _) (show (0 : Int32).toInt = 0 from rfl) c_3
    refine lv_iload_n hx hb dX11_error_4 rfl (lv_at hl 1 rfl) ?_
    refine lv_aload_n hx hb dX11_error_5 rfl (lv_at hl 0 rfl) ?_
    refine h_getr (ci := 11) (C := RX11) (F := TX11) (N := 14) hx hb hts in11 hown hK hH (by decide) (rfl : kd 0 = 11) (by decide) rfl 1 (by decide) wd2 (fun _ h9 => h9) (by decide) rfl (t := 3) (hR 0 1 rfl) (by decide) dX11_error_6 ?_
    have bx_6 : (0 : Int) ≤ (i 3 4).toInt ∧ (i 3 4).toInt ≤ 20 := hO 3 4
    refine h_geti (ci := 5) (C := RX5) (F := TX5) (N := 19) hx hb hts in5 hown hK hH (by decide) (rfl : kd 3 = 5) (by decide) rfl 4 (by decide) wd3 (fun _ h9 => h9) (by decide) rfl dX11_error_9 ?_
    refine lv_icmp_ge (tgt := 24) hx hb dX11_error_12 (by decide) (fun c_7 => ?_) (fun c_7 => ?_)
    · skip
      have h_8 := s_le (rfl : (i 3 4).toInt = _) (rfl : x.toInt = _) c_7
      have hpx : (fun (E : String) (_ : Unit) => (E = "java/lang/IndexOutOfBoundsException") ∧ (eX E (False) (False) (False) (x.toInt < 0 ∨ (i 3 4).toInt ≤ x.toInt ∨ y.toInt < 0 ∨ 1 < y.toInt))) "java/lang/IndexOutOfBoundsException" () := ⟨rfl, (eX_iob (by omega))⟩
      have hHx : sj_H D A ((fun (_ : Unit) => hwc g ka i r L d) ()) s.heap := hH
      exact x_throw (px := (fun (E : String) (_ : Unit) => (E = "java/lang/IndexOutOfBoundsException") ∧ (eX E (False) (False) (False) (x.toInt < 0 ∨ (i 3 4).toInt ≤ x.toInt ∨ y.toInt < 0 ∨ 1 < y.toInt)))) (W1 := (fun (_ : Unit) => hwc g ka i r L d)) hx hb hst (ik := 105) (ic := 107) (cls := "java/lang/IndexOutOfBoundsException") () hpx hown (by decide) wd0 wd1 (fun w h => hts w (thr_107 w h)) (by decide +kernel) (by decide +kernel) (gx_iob hE) hS hHx hK (hl.1.trans hml.symm) dX11_error_24 dX11_error_27 dX11_error_28 dX11_error_31 hnt (Nat.le_of_ble_eq_true rfl) (Nat.le_of_ble_eq_true rfl) (Nat.le_of_ble_eq_true rfl) (Nat.le_of_ble_eq_true rfl) hlocks (Nat.le_of_ble_eq_true rfl) (Nat.le_of_ble_eq_true rfl)
    · skip
      have h_9 := s_nle (rfl : (i 3 4).toInt = _) (rfl : x.toInt = _) c_7
      refine lv_iload_n hx hb dX11_error_15 rfl (lv_at hl 2 rfl) ?_
      refine lv_if_lt (tgt := 24) hx hb dX11_error_16 (by decide) (fun c_10 => ?_) (fun c_10 => ?_)
      · skip
        have h_11 := s_lt (rfl : y.toInt = _) (show (0 : Int32).toInt = 0 from rfl) c_10
        have hpx : (fun (E : String) (_ : Unit) => (E = "java/lang/IndexOutOfBoundsException") ∧ (eX E (False) (False) (False) (x.toInt < 0 ∨ (i 3 4).toInt ≤ x.toInt ∨ y.toInt < 0 ∨ 1 < y.toInt))) "java/lang/IndexOutOfBoundsException" () := ⟨rfl, (eX_iob (by omega))⟩
        have hHx : sj_H D A ((fun (_ : Unit) => hwc g ka i r L d) ()) s.heap := hH
        exact x_throw (px := (fun (E : String) (_ : Unit) => (E = "java/lang/IndexOutOfBoundsException") ∧ (eX E (False) (False) (False) (x.toInt < 0 ∨ (i 3 4).toInt ≤ x.toInt ∨ y.toInt < 0 ∨ 1 < y.toInt)))) (W1 := (fun (_ : Unit) => hwc g ka i r L d)) hx hb hst (ik := 105) (ic := 107) (cls := "java/lang/IndexOutOfBoundsException") () hpx hown (by decide) wd0 wd1 (fun w h => hts w (thr_107 w h)) (by decide +kernel) (by decide +kernel) (gx_iob hE) hS hHx hK (hl.1.trans hml.symm) dX11_error_24 dX11_error_27 dX11_error_28 dX11_error_31 hnt (Nat.le_of_ble_eq_true rfl) (Nat.le_of_ble_eq_true rfl) (Nat.le_of_ble_eq_true rfl) (Nat.le_of_ble_eq_true rfl) hlocks (Nat.le_of_ble_eq_true rfl) (Nat.le_of_ble_eq_true rfl)
      · skip
        have h_12 := s_nlt (rfl : y.toInt = _) (show (0 : Int32).toInt = 0 from rfl) c_10
        refine lv_iload_n hx hb dX11_error_19 rfl (lv_at hl 2 rfl) ?_
        refine lv_iconst (v := 1) hx hb dX11_error_20 (by decide) ?_
        refine lv_icmp_le (tgt := 32) hx hb dX11_error_21 (by decide) (fun c_13 => ?_) (fun c_13 => ?_)
        · skip
          have h_14 := s_le (rfl : y.toInt = _) (show (1 : Int32).toInt = 1 from rfl) c_13
          refine lv_iload_n hx hb dX11_error_32 rfl (lv_at hl 2 rfl) ?_
          refine lv_if_ne (tgt := 48) hx hb dX11_error_33 (by decide) (fun c_15 => ?_) (fun c_15 => ?_)
          · skip
            have h_16 := s_ne (rfl : y.toInt = _) (show (0 : Int32).toInt = 0 from rfl) c_15
            refine lv_aload_n hx hb dX11_error_48 rfl (lv_at hl 0 rfl) ?_
            refine h_getr (ci := 11) (C := RX11) (F := TX11) (N := 14) hx hb hts in11 hown hK hH (by decide) (rfl : kd 0 = 11) (by decide) rfl 1 (by decide) wd2 (fun _ h9 => h9) (by decide) rfl (t := 3) (hR 0 1 rfl) (by decide) dX11_error_49 ?_
            refine h_getr (ci := 5) (C := RX5) (F := TX5) (N := 19) hx hb hts in5 hown hK hH (by decide) (rfl : kd 3 = 5) (by decide) rfl 3 (by decide) wd4 (fun _ h9 => h9) (by decide) rfl (t := 7) (hR 3 3 rfl) (by decide) dX11_error_52 ?_
            refine lv_iload_n hx hb dX11_error_55 rfl (lv_at hl 1 rfl) ?_
            refine h_iald hx hb hK hH (by decide) (rfl : kd 7 = 13) (s_vin (N := 20) (rfl : x.toInt = _) (rfl : ln 7 = 20) (by omega) (by omega)) dX11_error_56 ?_
            have ek_17 : x.toNatClampNeg = (x.toInt).toNat := (s_cl (show x.toInt = x.toInt by omega))
            refine sj_i (y := (i 7 (x.toInt).toNat)) (by rw [ek_17]) ?_
            have hV_18 : (0 ≤ x.toInt ∧ x.toInt < (i 3 4).toInt) ∧ ((y.toInt = 0 ∧ ((i 7 (x.toInt).toNat) : Int32).toInt = (i 6 x.toInt.toNat).toInt) ∨ (y.toInt = 1 ∧ ((i 7 (x.toInt).toNat) : Int32).toInt = (i 7 x.toInt.toNat).toInt)) := ⟨⟨by omega, by omega⟩, by omega⟩
            refine vx_ret ?_
            exact sj_zret hx hb hr hlocks rfl hS () hV_18 hH (sj_Knil hK) (Nat.le_of_ble_eq_true rfl) (Nat.le_of_ble_eq_true rfl) dX11_error_57
          · skip
            have h_19 := s_eq (rfl : y.toInt = _) (show (0 : Int32).toInt = 0 from rfl) c_15
            refine lv_aload_n hx hb dX11_error_36 rfl (lv_at hl 0 rfl) ?_
            refine h_getr (ci := 11) (C := RX11) (F := TX11) (N := 14) hx hb hts in11 hown hK hH (by decide) (rfl : kd 0 = 11) (by decide) rfl 1 (by decide) wd2 (fun _ h9 => h9) (by decide) rfl (t := 3) (hR 0 1 rfl) (by decide) dX11_error_37 ?_
            refine h_getr (ci := 5) (C := RX5) (F := TX5) (N := 19) hx hb hts in5 hown hK hH (by decide) (rfl : kd 3 = 5) (by decide) rfl 2 (by decide) wd5 (fun _ h9 => h9) (by decide) rfl (t := 6) (hR 3 2 rfl) (by decide) dX11_error_40 ?_
            refine lv_iload_n hx hb dX11_error_43 rfl (lv_at hl 1 rfl) ?_
            refine h_iald hx hb hK hH (by decide) (rfl : kd 6 = 13) (s_vin (N := 20) (rfl : x.toInt = _) (rfl : ln 6 = 20) (by omega) (by omega)) dX11_error_44 ?_
            have ek_20 : x.toNatClampNeg = (x.toInt).toNat := (s_cl (show x.toInt = x.toInt by omega))
            refine sj_i (y := (i 6 (x.toInt).toNat)) (by rw [ek_20]) ?_
            refine lv_goto (tgt := 57) hx hb dX11_error_45 (by decide) ?_
            have hV_21 : (0 ≤ x.toInt ∧ x.toInt < (i 3 4).toInt) ∧ ((y.toInt = 0 ∧ ((i 6 (x.toInt).toNat) : Int32).toInt = (i 6 x.toInt.toNat).toInt) ∨ (y.toInt = 1 ∧ ((i 6 (x.toInt).toNat) : Int32).toInt = (i 7 x.toInt.toNat).toInt)) := ⟨⟨by omega, by omega⟩, by omega⟩
            refine vx_ret ?_
            exact sj_zret hx hb hr hlocks rfl hS () hV_21 hH (sj_Knil hK) (Nat.le_of_ble_eq_true rfl) (Nat.le_of_ble_eq_true rfl) dX11_error_57
        · skip
          have h_22 := s_nle (rfl : y.toInt = _) (show (1 : Int32).toInt = 1 from rfl) c_13
          have hpx : (fun (E : String) (_ : Unit) => (E = "java/lang/IndexOutOfBoundsException") ∧ (eX E (False) (False) (False) (x.toInt < 0 ∨ (i 3 4).toInt ≤ x.toInt ∨ y.toInt < 0 ∨ 1 < y.toInt))) "java/lang/IndexOutOfBoundsException" () := ⟨rfl, (eX_iob (by omega))⟩
          have hHx : sj_H D A ((fun (_ : Unit) => hwc g ka i r L d) ()) s.heap := hH
          exact x_throw (px := (fun (E : String) (_ : Unit) => (E = "java/lang/IndexOutOfBoundsException") ∧ (eX E (False) (False) (False) (x.toInt < 0 ∨ (i 3 4).toInt ≤ x.toInt ∨ y.toInt < 0 ∨ 1 < y.toInt)))) (W1 := (fun (_ : Unit) => hwc g ka i r L d)) hx hb hst (ik := 105) (ic := 107) (cls := "java/lang/IndexOutOfBoundsException") () hpx hown (by decide) wd0 wd1 (fun w h => hts w (thr_107 w h)) (by decide +kernel) (by decide +kernel) (gx_iob hE) hS hHx hK (hl.1.trans hml.symm) dX11_error_24 dX11_error_27 dX11_error_28 dX11_error_31 hnt (Nat.le_of_ble_eq_true rfl) (Nat.le_of_ble_eq_true rfl) (Nat.le_of_ble_eq_true rfl) (Nat.le_of_ble_eq_true rfl) hlocks (Nat.le_of_ble_eq_true rfl) (Nat.le_of_ble_eq_true rfl)
set_option maxHeartbeats 2000000 in
set_option maxRecDepth 100000 in
theorem kv_read (l : Launch) (D : va_G) (g : Nat → Nat) (ka : Nat → ClassId) (ad : Nat → Nat) (i : Nat → Nat → Int32) (r : Nat → Nat → Nat) (L : Nat → Nat → Int64) (d : Nat → Nat → UInt64)  (hO : OkI i) (hR : RS r) (sz : Nat) (hst : l.stackTraces = false) (hPC : PC i r) (hPO : PO i) (hPW : PW i) (hRO : (37 ≤ r 3 17 ∧ r 3 17 < 54) ∧ (54 ≤ r 3 18 ∧ r 3 18 < 96)) : vx_Met l yX11_read wsX11_read ({ frames := 7, cells := 1, slots := 6, locals := 172 }) (va_Pc [.ref (g 0)] (sj_B D (hwc g ka i r L d) (hT ka) sz (gx ad (va_A (hwc g ka i r L d) sz)))) (sj_Qi (S := (Nat → Nat → Int32) × (Nat → Nat → Nat)) D (fun v u => OkI u.1 ∧ (∀ a, ¬ (a = 1 ∨ a = 3 ∨ a = 4 ∨ a = 5 ∨ a = 6 ∨ a = 7 ∨ a = 13 ∨ (37 ≤ a ∧ a < 96) ∨ (96 ≤ a ∧ a < 216) ∨ (216 ≤ a ∧ a < 240)) → u.1 a = i a) ∧ RS u.2 ∧ (∀ a b, ¬ ((a = 3 ∧ (b = 17 ∨ b = 18)) ∨ (216 ≤ a ∧ a < 240)) → u.2 a b = r a b) ∧ ((i 23 8).toInt = 0 ∧ (u.1 1 1).toInt = 0) ∧ (rdC i r u.1 u.2) ∧ (PC u.1 u.2) ∧ (PO u.1) ∧ (PW u.1) ∧ ((i 23 8).toInt = 0 ∧ v.toInt = (u.1 3 4).toInt)) (fun u => hwc g ka u.1 u.2 L d) (fun _ => []) (va_A (hwc g ka i r L d) sz)) (x_XC (S := (Nat → Nat → Int32) × (Nat → Nat → Nat)) D (fun (E : String) u => (E = "java/lang/IllegalStateException") ∧ OkI u.1 ∧ (∀ a, ¬ (a = 1 ∨ a = 3 ∨ a = 4 ∨ a = 5 ∨ a = 6 ∨ a = 7 ∨ a = 13 ∨ (37 ≤ a ∧ a < 96) ∨ (96 ≤ a ∧ a < 216) ∨ (216 ≤ a ∧ a < 240)) → u.1 a = i a) ∧ RS u.2 ∧ (∀ a b, ¬ ((a = 3 ∧ (b = 17 ∨ b = 18)) ∨ (216 ≤ a ∧ a < 240)) → u.2 a b = r a b) ∧ ((i 23 8).toInt = 1 ∧ u.1 = i ∧ u.2 = r) ∧ (eX E ((i 23 8).toInt = 1) (False) (False) (False))) (fun u => hwc g ka u.1 u.2 L d) (va_A (hwc g ka i r L d) sz)) 1 6 (va_A (hwc g ka i r L d) sz) := by
  refine x_vmet (Ex := gx ad) (XC := x_XC (S := (Nat → Nat → Int32) × (Nat → Nat → Nat)) D (fun (E : String) u => (E = "java/lang/IllegalStateException") ∧ OkI u.1 ∧ (∀ a, ¬ (a = 1 ∨ a = 3 ∨ a = 4 ∨ a = 5 ∨ a = 6 ∨ a = 7 ∨ a = 13 ∨ (37 ≤ a ∧ a < 96) ∨ (96 ≤ a ∧ a < 216) ∨ (216 ≤ a ∧ a < 240)) → u.1 a = i a) ∧ RS u.2 ∧ (∀ a b, ¬ ((a = 3 ∧ (b = 17 ∨ b = 18)) ∨ (216 ≤ a ∧ a < 240)) → u.2 a b = r a b) ∧ ((i 23 8).toInt = 1 ∧ u.1 = i ∧ u.2 = r) ∧ (eX E ((i 23 8).toInt = 1) (False) (False) (False))) (fun u => hwc g ka u.1 u.2 L d)) (cc := cX11_read) (maxL := 1) (ret := (some .int)) (by decide) rfl (Nat.le_of_ble_eq_true rfl) ?_
  intro p e s m below meth c A ls hx hb hr hml hts hown hlocks hnt hA hS hH hK hE hl
  have hown : s.vm.findClass RX11 = some m.cls := hown
  have in3 : ∀ w ∈ wsX30, w ∈ wsX11_read := (fun _ h => (List.mem_cons_of_mem _ (List.mem_append_left _ (List.mem_append_left _ (List.mem_append_left _ (List.mem_append_left _ (List.mem_append_left _ (List.mem_append_left _ (List.mem_append_right _ h)))))))))
  have in5 : ∀ w ∈ wsX50, w ∈ wsX11_read := (fun _ h => (List.mem_cons_of_mem _ (List.mem_append_left _ (List.mem_append_left _ (List.mem_append_left _ (List.mem_append_left _ (List.mem_append_left _ (List.mem_append_right _ h))))))))
  have in7 : ∀ w ∈ wsX70, w ∈ wsX11_read := (fun _ h => (List.mem_cons_of_mem _ (List.mem_append_left _ (List.mem_append_left _ (List.mem_append_left _ (List.mem_append_left _ (List.mem_append_left _ (List.mem_append_left _ (List.mem_append_left _ (List.mem_append_right _ h))))))))))
  have in11 : ∀ w ∈ wsX110, w ∈ wsX11_read := (fun _ h => (List.mem_cons_of_mem _ (List.mem_append_left _ (List.mem_append_left _ (List.mem_append_left _ (List.mem_append_left _ (List.mem_append_left _ (List.mem_append_left _ (List.mem_append_left _ (List.mem_append_left _ (List.mem_append_right _ h)))))))))))
  have wd0 := hts (.fieldLink RX11 44 "StoryDesk" "run" "LStoryDesk$Run;") (List.mem_cons_of_mem _ (List.mem_append_left _ (List.mem_append_left _ (List.mem_append_left _ (List.mem_append_left _ (List.mem_append_left _ (List.mem_append_left _ (List.mem_append_left _ (List.mem_append_left _ (List.mem_append_left _ (List.mem_append_left _ lm2)))))))))))
  have wd1 := hts (.fieldLink RX11 88 "StoryDesk$Run" "underWay" "Z") (List.mem_cons_of_mem _ (List.mem_append_left _ (List.mem_append_left _ (List.mem_append_left _ (List.mem_append_left _ (List.mem_append_left _ (List.mem_append_left _ (List.mem_append_left _ (List.mem_append_left _ (List.mem_append_left _ (List.mem_append_left _ lm3)))))))))))
  have wd2 := hts (.fieldLink RX11 21 "StoryDesk" "reading" "LStoryDesk$Reading;") (List.mem_cons_of_mem _ (List.mem_append_left _ (List.mem_append_left _ (List.mem_append_left _ (List.mem_append_left _ (List.mem_append_left _ (List.mem_append_left _ (List.mem_append_left _ (List.mem_append_left _ (List.mem_append_left _ (List.mem_append_left _ lm4)))))))))))
  have wd3 := hts (.fieldLink RX11 14 "StoryDesk" "text" "LStoryDesk$Letters;") (List.mem_cons_of_mem _ (List.mem_append_left _ (List.mem_append_left _ (List.mem_append_left _ (List.mem_append_left _ (List.mem_append_left _ (List.mem_append_left _ (List.mem_append_left _ (List.mem_append_left _ (List.mem_append_left _ (List.mem_append_left _ lm5)))))))))))
  have wd4 := hts (.fieldLink RX11 80 "StoryDesk$Letters" "length" "I") (List.mem_cons_of_mem _ (List.mem_append_left _ (List.mem_append_left _ (List.mem_append_left _ (List.mem_append_left _ (List.mem_append_left _ (List.mem_append_left _ (List.mem_append_left _ (List.mem_append_left _ (List.mem_append_left _ (List.mem_append_left _ lm6)))))))))))
  have wd5 := hts (.fieldLink RX11 30 "StoryDesk" "cases" "LStoryDesk$Cases;") (List.mem_cons_of_mem _ (List.mem_append_left _ (List.mem_append_left _ (List.mem_append_left _ (List.mem_append_left _ (List.mem_append_left _ (List.mem_append_left _ (List.mem_append_left _ (List.mem_append_left _ (List.mem_append_left _ (List.mem_append_left _ lm7)))))))))))
  have wd6 := hts (.fieldLink RX11 102 "StoryDesk$Reading" "errors" "I") (List.mem_cons_of_mem _ (List.mem_append_left _ (List.mem_append_left _ (List.mem_append_left _ (List.mem_append_left _ (List.mem_append_left _ (List.mem_append_left _ (List.mem_append_left _ (List.mem_append_left _ (List.mem_append_left _ (List.mem_append_left _ lm8)))))))))))
  have wd7 := hts (.classLink RX11 92 "java/lang/IllegalStateException") (List.mem_cons_of_mem _ (List.mem_append_left _ (List.mem_append_left _ (List.mem_append_left _ (List.mem_append_left _ (List.mem_append_left _ (List.mem_append_left _ (List.mem_append_left _ (List.mem_append_left _ (List.mem_append_left _ (List.mem_append_left _ lm0)))))))))))
  have wd8 := hts (.initialized "java/lang/IllegalStateException") (List.mem_cons_of_mem _ (List.mem_append_left _ (List.mem_append_left _ (List.mem_append_left _ (List.mem_append_left _ (List.mem_append_left _ (List.mem_append_left _ (List.mem_append_left _ (List.mem_append_left _ (List.mem_append_left _ (List.mem_append_left _ lm1)))))))))))
  have thr_94 : ∀ w ∈ (vx_at0 RX11 94 "java/lang/IllegalStateException" ["java/lang/RuntimeException", "java/lang/Exception"]).filter goodWord, w ∈ wsX11_read := by decide +kernel
  have hl : lv_has ls 1 [(0, .ref (g 0))] := hl
  have hK : va_K D vwCl (hT ka) s := hK
  have hbu8 : (0 : Int) ≤ (i 23 8).toInt ∧ (i 23 8).toInt ≤ 1 := hO 23 8
  refine lv_aload_n hx hb dX11_read_0 rfl (lv_at hl 0 rfl) ?_
  refine h_getr (ci := 11) (C := RX11) (F := TX11) (N := 14) hx hb hts in11 hown hK hH (by decide) (rfl : kd 0 = 11) (by decide) rfl 4 (by decide) wd0 (fun _ h9 => h9) (by decide) rfl (t := 23) (hR 0 4 rfl) (by decide) dX11_read_1 ?_
  have bx_1 : (0 : Int) ≤ (i 23 8).toInt ∧ (i 23 8).toInt ≤ 1 := hO 23 8
  refine h_geti (ci := 7) (C := RX7) (F := TX7) (N := 11) hx hb hts in7 hown hK hH (by decide) (rfl : kd 23 = 7) (by decide) rfl 8 (by decide) wd1 (fun _ h9 => h9) (by decide) rfl dX11_read_4 ?_
  refine lv_if_eq (tgt := 18) hx hb dX11_read_7 (by decide) (fun c_2 => ?_) (fun c_2 => ?_)
  · skip
    have h_3 := s_eq (rfl : (i 23 8).toInt = _) (show (0 : Int32).toInt = 0 from rfl) c_2
    refine lv_aload_n hx hb dX11_read_18 rfl (lv_at hl 0 rfl) ?_
    refine h_getr (ci := 11) (C := RX11) (F := TX11) (N := 14) hx hb hts in11 hown hK hH (by decide) (rfl : kd 0 = 11) (by decide) rfl 1 (by decide) wd2 (fun _ h9 => h9) (by decide) rfl (t := 3) (hR 0 1 rfl) (by decide) dX11_read_19 ?_
    refine lv_aload_n hx hb dX11_read_22 rfl (lv_at hl 0 rfl) ?_
    refine h_getr (ci := 11) (C := RX11) (F := TX11) (N := 14) hx hb hts in11 hown hK hH (by decide) (rfl : kd 0 = 11) (by decide) rfl 0 (by decide) wd3 (fun _ h9 => h9) (by decide) rfl (t := 1) (hR 0 0 rfl) (by decide) dX11_read_23 ?_
    refine x_callv (va_runV (As := [.ref (g 1)]) (rest := []) ⟨hx, hb, hml, hown, hts⟩ (k_rtake l D g ka ad i r L d  hO hR s.heap.size hPO hPW (by first | omega | decide)) (cwV 1 hts gX11_read_X5_take rfl rfl rfl (by decide +kernel) ⟨(Nat.le_of_ble_eq_true rfl), (Nat.le_of_ble_eq_true rfl)⟩) (x_preV (q := (RX5, TX5, 19)) hH hK (q_obj (by decide) (rfl : kd 3 = 5) (by decide)) rfl gxb (gxw hE hS (x_F hH hS hA))) rfl rfl hl.1 rfl (lv_room (Nat.le_of_ble_eq_true rfl)) dX11_read_26 ⟨(Nat.le_of_ble_eq_true rfl), (Nat.le_of_ble_eq_true rfl)⟩) hH hS hA rfl rfl (fun u_8 H locs hw_5 hH hS => ?_)
    obtain ⟨im_6, rm_7⟩ := u_8
    try dsimp only at hw_5
    have hH : sj_H D A (hwc g ka im_6 rm_7 L d) H := hH
    obtain ⟨hO_10, hfr_9, hRS_11, hfr_12, hx2_13, hx2_14, hx2_15⟩ := hw_5
    refine lv_aload_n hx hb dX11_read_29 rfl (lv_at hl 0 rfl) ?_
    refine h_getr (ci := 11) (C := RX11) (F := TX11) (N := 14) hx hb hts in11 hown hK hH (by decide) (rfl : kd 0 = 11) (by decide) rfl 0 (by decide) wd3 (fun _ h9 => h9) (by decide) rfl (t := 1) (hRS_11 0 0 rfl) (by decide) dX11_read_30 ?_
    refine lv_iconst (v := 0) hx hb dX11_read_33 (by decide) ?_
    have hO_16 := okp hO_10 (n := 1) (k := 1) (v := 0) (show (0 : Int) ≤ (0 : Int32).toInt ∧ (0 : Int32).toInt ≤ 480 from ⟨by decide, by decide⟩)
    refine h_puti (ty := .int) (ci := 3) (C := RX3) (F := TX3) (N := 2) hx hb hts in3 tyX3 tyX3_ok nmX3 hown hK hH hS (by decide) (rfl : kd 1 = 3) (by decide) rfl 1 (by decide) wd4 (fun _ h9 => h9) rfl (by decide +kernel) rfl rfl (by decide) rfl dX11_read_34 (fun H locs hH hS => ?_)
    refine lv_aload_n hx hb dX11_read_37 rfl (lv_at hl 0 rfl) ?_
    refine h_getr (ci := 11) (C := RX11) (F := TX11) (N := 14) hx hb hts in11 hown hK hH (by decide) (rfl : kd 0 = 11) (by decide) rfl 2 (by decide) wd5 (fun _ h9 => h9) (by decide) rfl (t := 13) (hRS_11 0 2 rfl) (by decide) dX11_read_38 ?_
    refine x_callv (va_runV (As := []) (rest := []) ⟨hx, hb, hml, hown, hts⟩ (k_build l D g ka ad (up2 im_6 1 1 0) rm_7 L d  hO_16 hRS_11 H.size (PC_fr hPC (fun a ha => ((up2_n _ _ (by omega)).trans (hfr_9 a (by omega)))) (fun a b ha => (hfr_12 a b (by omega)))) (PO_fr hx2_14 (fun a ha => (up2_n _ _ (by omega))))) (cwV 0 hts gX11_read_X1_build rfl rfl rfl (by decide +kernel) ⟨(Nat.le_of_ble_eq_true rfl), (Nat.le_of_ble_eq_true rfl)⟩) (x_preV (q := (RX1, TX1, 5)) hH hK (q_obj (by decide) (rfl : kd 13 = 1) (by decide)) rfl gxb (gxw hE hS (x_F hH hS hA))) rfl rfl hl.1 rfl (lv_room (Nat.le_of_ble_eq_true rfl)) dX11_read_41 ⟨(Nat.le_of_ble_eq_true rfl), (Nat.le_of_ble_eq_true rfl)⟩) hH hS hA rfl rfl (fun u_21 H locs hw_18 hH hS => ?_)
    obtain ⟨im_19, rm_20⟩ := u_21
    try dsimp only at hw_18
    have hH : sj_H D A (hwc g ka im_19 rm_20 L d) H := hH
    obtain ⟨hO_23, hfr_22, hRS_24, hfr_25, hx2_26, hx2_27⟩ := hw_18
    refine lv_aload_n hx hb dX11_read_44 rfl (lv_at hl 0 rfl) ?_
    refine h_getr (ci := 11) (C := RX11) (F := TX11) (N := 14) hx hb hts in11 hown hK hH (by decide) (rfl : kd 0 = 11) (by decide) rfl 1 (by decide) wd2 (fun _ h9 => h9) (by decide) rfl (t := 3) (hRS_24 0 1 rfl) (by decide) dX11_read_45 ?_
    have bx_28 : (0 : Int) ≤ (im_6 3 4).toInt ∧ (im_6 3 4).toInt ≤ 20 := hO_10 3 4
    refine h_geti (ci := 5) (C := RX5) (F := TX5) (N := 19) hx hb hts in5 hown hK hH (by decide) (rfl : kd 3 = 5) (by decide) rfl 4 (by decide) wd6 (fun _ h9 => h9) (by decide) rfl dX11_read_48 ?_
    refine sj_i (y := (im_6 3 4)) ((congrFun (hfr_22 3 (by omega)) _).trans (congrFun (up2_n _ _ (by decide)) _)) ?_
    have hp_29 : (im_19 1 1).toInt = (0 : Int32).toInt := congrArg Int32.toInt (((congrFun (hfr_22 1 (by omega)) _).trans (up2_at _ _ _ _)))
    have hl_30 : (0 : Int32).toInt = 0 := rfl
    have hV_31 : (i 23 8).toInt = 0 ∧ (im_19 1 1).toInt = 0 := ⟨by omega, by omega⟩
    have hcs := hx2_27
    rw [(show ((up2 im_6 1 1 0) 3 4).toInt = (im_6 3 4).toInt from congrArg Int32.toInt ((congrFun (up2_n _ _ (by omega)) _))), (show ((up2 im_6 1 1 0) 3 8).toInt = (im_6 3 8).toInt from congrArg Int32.toInt ((congrFun (up2_n _ _ (by omega)) _))), csA_fr (i := im_6) (u := (up2 im_6 1 1 0)) (fun a ha => (up2_n _ _ (by omega)))] at hcs
    have hV_32 : rdC i r im_19 rm_20 := ⟨im_6, rm_7, hO_10, hx2_13, hcs, fun a ha => ((hfr_22 a (by omega)).trans (up2_n _ _ (by omega))), (hfr_25 3 17 (by omega)), (hfr_25 3 18 (by omega))⟩
    have hV_33 : PC im_19 rm_20 := hx2_26
    have hV_34 : PO im_19 := (PO_fr hx2_14 (fun a ha => ((hfr_22 a (by omega)).trans (up2_n _ _ (by omega)))))
    have hV_35 : PW im_19 := (PW_fr hx2_15 (fun a ha => ((hfr_22 a (by omega)).trans (up2_n _ _ (by omega)))))
    have hp_36 : (im_19 3 4).toInt = ((im_6 3 4) : Int32).toInt := congrArg Int32.toInt (((congrFun (hfr_22 3 (by omega)) _).trans (congrFun (up2_n _ _ (by decide)) _)))
    have hV_37 : (i 23 8).toInt = 0 ∧ ((im_6 3 4) : Int32).toInt = (im_19 3 4).toInt := ⟨by omega, by omega⟩
    refine vx_ret ?_
    exact sj_zret hx hb hr hlocks rfl hS (im_19, rm_20) ⟨hO_23, (fun a ha => ((hfr_22 a (by omega)).trans ((up2_n _ _ (by omega)).trans (hfr_9 a (by omega))))), hRS_24, (fun a b ha => ((hfr_25 a b (by omega)).trans (hfr_12 a b (by omega)))), hV_31, hV_32, hV_33, hV_34, hV_35, hV_37⟩ hH (sj_Knil hK) (Nat.le_of_ble_eq_true rfl) (Nat.le_of_ble_eq_true rfl) dX11_read_51
  · skip
    have h_38 := s_ne (rfl : (i 23 8).toInt = _) (show (0 : Int32).toInt = 0 from rfl) c_2
    have hV_39 : (i 23 8).toInt = 1 ∧ i = i ∧ r = r := ⟨by omega, rfl, rfl⟩
    have hpx : (fun (E : String) (u : (Nat → Nat → Int32) × (Nat → Nat → Nat)) => (E = "java/lang/IllegalStateException") ∧ OkI u.1 ∧ (∀ a, ¬ (a = 1 ∨ a = 3 ∨ a = 4 ∨ a = 5 ∨ a = 6 ∨ a = 7 ∨ a = 13 ∨ (37 ≤ a ∧ a < 96) ∨ (96 ≤ a ∧ a < 216) ∨ (216 ≤ a ∧ a < 240)) → u.1 a = i a) ∧ RS u.2 ∧ (∀ a b, ¬ ((a = 3 ∧ (b = 17 ∨ b = 18)) ∨ (216 ≤ a ∧ a < 240)) → u.2 a b = r a b) ∧ ((i 23 8).toInt = 1 ∧ u.1 = i ∧ u.2 = r) ∧ (eX E ((i 23 8).toInt = 1) (False) (False) (False))) "java/lang/IllegalStateException" (i, r) := ⟨rfl, hO, (fun a ha => rfl), hR, (fun a b ha => rfl), hV_39, (eX_ise (by omega))⟩
    have hHx : sj_H D A ((fun (u : (Nat → Nat → Int32) × (Nat → Nat → Nat)) => hwc g ka u.1 u.2 L d) (i, r)) s.heap := hH
    exact x_throw (px := (fun (E : String) (u : (Nat → Nat → Int32) × (Nat → Nat → Nat)) => (E = "java/lang/IllegalStateException") ∧ OkI u.1 ∧ (∀ a, ¬ (a = 1 ∨ a = 3 ∨ a = 4 ∨ a = 5 ∨ a = 6 ∨ a = 7 ∨ a = 13 ∨ (37 ≤ a ∧ a < 96) ∨ (96 ≤ a ∧ a < 216) ∨ (216 ≤ a ∧ a < 240)) → u.1 a = i a) ∧ RS u.2 ∧ (∀ a b, ¬ ((a = 3 ∧ (b = 17 ∨ b = 18)) ∨ (216 ≤ a ∧ a < 240)) → u.2 a b = r a b) ∧ ((i 23 8).toInt = 1 ∧ u.1 = i ∧ u.2 = r) ∧ (eX E ((i 23 8).toInt = 1) (False) (False) (False)))) (W1 := (fun (u : (Nat → Nat → Int32) × (Nat → Nat → Nat)) => hwc g ka u.1 u.2 L d)) hx hb hst (ik := 92) (ic := 94) (cls := "java/lang/IllegalStateException") (i, r) hpx hown (by decide) wd7 wd8 (fun w h => hts w (thr_94 w h)) (by decide +kernel) (by decide +kernel) (gx_ise hE) hS hHx hK (hl.1.trans hml.symm) dX11_read_10 dX11_read_13 dX11_read_14 dX11_read_17 hnt (Nat.le_of_ble_eq_true rfl) (Nat.le_of_ble_eq_true rfl) (Nat.le_of_ble_eq_true rfl) (Nat.le_of_ble_eq_true rfl) hlocks (Nat.le_of_ble_eq_true rfl) (Nat.le_of_ble_eq_true rfl)
set_option maxHeartbeats 2000000 in
set_option maxRecDepth 100000 in
theorem kv_hook (l : Launch) (D : va_G) (g : Nat → Nat) (ka : Nat → ClassId) (ad : Nat → Nat) (i : Nat → Nat → Int32) (r : Nat → Nat → Nat) (L : Nat → Nat → Int64) (d : Nat → Nat → UInt64) (x : Int32) (y : Int32) (hO : OkI i) (hR : RS r) (sz : Nat) (hst : l.stackTraces = false) (hPK : PK i) (hx0 : 0 ≤ x.toInt) (hx1 : x.toInt ≤ 1) : vx_Met l yX11_hook wsX11_hook ({ frames := 125, cells := 1, slots := 6, locals := 4947 }) (va_Pc [.ref (g 0), .int x, .int y] (sj_B D (hwc g ka i r L d) (hT ka) sz (gx ad (va_A (hwc g ka i r L d) sz)))) (sj_Qi (S := (Nat → Nat → Int32)) D (fun v u => OkI u ∧ (∀ a, ¬ (a = 0 ∨ a = 1 ∨ a = 33 ∨ a = 34 ∨ (357 ≤ a ∧ a < 375)) → u a = i a) ∧ ((i 23 8).toInt = 0 ∧ (u 1 1).toInt = 0) ∧ (hkC i u x.toInt y.toInt) ∧ (PK u) ∧ (((u 0 7).toInt = (i 0 7).toInt)) ∧ ((i 23 8).toInt = 0 ∧ (cTk i ∧ (0 ≤ y.toInt ∧ y.toInt < 8) ∧ (i 0 11).toInt < 8) ∧ v.toInt = (i 0 11).toInt)) (fun u => hwc g ka u r L d) (fun _ => []) (va_A (hwc g ka i r L d) sz)) (x_XC (S := (Nat → Nat → Int32)) D (fun (E : String) u => (E = "java/lang/IllegalStateException" ∨ E = "java/lang/IllegalArgumentException" ∨ E = "java/lang/UnsupportedOperationException") ∧ OkI u ∧ (∀ a, ¬ (a = 0 ∨ a = 1 ∨ a = 33 ∨ a = 34 ∨ (357 ≤ a ∧ a < 375)) → u a = i a) ∧ (((i 23 8).toInt = 1 ∧ u = i) ∨ ((i 23 8).toInt = 0 ∧ (u 1 1).toInt = 0 ∧ hkC i u x.toInt y.toInt)) ∧ (PK u) ∧ (((u 0 7).toInt = (i 0 7).toInt)) ∧ (eX E ((i 23 8).toInt = 1) ((i 23 8).toInt = 0 ∧ ¬ (cTk i ∧ (0 ≤ y.toInt ∧ y.toInt < 8))) ((i 23 8).toInt = 0 ∧ (cTk i ∧ (0 ≤ y.toInt ∧ y.toInt < 8)) ∧ (i 0 11).toInt = 8) (False))) (fun u => hwc g ka u r L d) (va_A (hwc g ka i r L d) sz)) 1 6 (va_A (hwc g ka i r L d) sz) := by
  refine x_vmet (Ex := gx ad) (XC := x_XC (S := (Nat → Nat → Int32)) D (fun (E : String) u => (E = "java/lang/IllegalStateException" ∨ E = "java/lang/IllegalArgumentException" ∨ E = "java/lang/UnsupportedOperationException") ∧ OkI u ∧ (∀ a, ¬ (a = 0 ∨ a = 1 ∨ a = 33 ∨ a = 34 ∨ (357 ≤ a ∧ a < 375)) → u a = i a) ∧ (((i 23 8).toInt = 1 ∧ u = i) ∨ ((i 23 8).toInt = 0 ∧ (u 1 1).toInt = 0 ∧ hkC i u x.toInt y.toInt)) ∧ (PK u) ∧ (((u 0 7).toInt = (i 0 7).toInt)) ∧ (eX E ((i 23 8).toInt = 1) ((i 23 8).toInt = 0 ∧ ¬ (cTk i ∧ (0 ≤ y.toInt ∧ y.toInt < 8))) ((i 23 8).toInt = 0 ∧ (cTk i ∧ (0 ≤ y.toInt ∧ y.toInt < 8)) ∧ (i 0 11).toInt = 8) (False))) (fun u => hwc g ka u r L d)) (cc := cX11_hook) (maxL := 4) (ret := (some .int)) (by decide) rfl (Nat.le_of_ble_eq_true rfl) ?_
  intro p e s m below meth c A ls hx hb hr hml hts hown hlocks hnt hA hS hH hK hE hl
  have hown : s.vm.findClass RX11 = some m.cls := hown
  have in3 : ∀ w ∈ wsX30, w ∈ wsX11_hook := (fun _ h => (List.mem_cons_of_mem _ (List.mem_append_left _ (List.mem_append_left _ (List.mem_append_left _ (List.mem_append_left _ (List.mem_append_right _ h)))))))
  have in7 : ∀ w ∈ wsX70, w ∈ wsX11_hook := (fun _ h => (List.mem_cons_of_mem _ (List.mem_append_left _ (List.mem_append_left _ (List.mem_append_left _ (List.mem_append_left _ (List.mem_append_left _ (List.mem_append_right _ h))))))))
  have in11 : ∀ w ∈ wsX110, w ∈ wsX11_hook := (fun _ h => (List.mem_cons_of_mem _ (List.mem_append_left _ (List.mem_append_left _ (List.mem_append_left _ (List.mem_append_left _ (List.mem_append_left _ (List.mem_append_left _ (List.mem_append_right _ h)))))))))
  have wd0 := hts (.fieldLink RX11 44 "StoryDesk" "run" "LStoryDesk$Run;") (List.mem_cons_of_mem _ (List.mem_append_left _ (List.mem_append_left _ (List.mem_append_left _ (List.mem_append_left _ (List.mem_append_left _ (List.mem_append_left _ (List.mem_append_left _ (List.mem_append_left _ lm6)))))))))
  have wd1 := hts (.fieldLink RX11 88 "StoryDesk$Run" "underWay" "Z") (List.mem_cons_of_mem _ (List.mem_append_left _ (List.mem_append_left _ (List.mem_append_left _ (List.mem_append_left _ (List.mem_append_left _ (List.mem_append_left _ (List.mem_append_left _ (List.mem_append_left _ lm7)))))))))
  have wd2 := hts (.fieldLink RX11 61 "StoryDesk" "hookTags" "[LStoryDesk$TagExpression;") (List.mem_cons_of_mem _ (List.mem_append_left _ (List.mem_append_left _ (List.mem_append_left _ (List.mem_append_left _ (List.mem_append_left _ (List.mem_append_left _ (List.mem_append_left _ (List.mem_append_left _ lm8)))))))))
  have wd3 := hts (.fieldLink RX11 130 "StoryDesk" "hookCount" "I") (List.mem_cons_of_mem _ (List.mem_append_left _ (List.mem_append_left _ (List.mem_append_left _ (List.mem_append_left _ (List.mem_append_left _ (List.mem_append_left _ (List.mem_append_left _ (List.mem_append_left _ lm9)))))))))
  have wd4 := hts (.fieldLink RX11 14 "StoryDesk" "text" "LStoryDesk$Letters;") (List.mem_cons_of_mem _ (List.mem_append_left _ (List.mem_append_left _ (List.mem_append_left _ (List.mem_append_left _ (List.mem_append_left _ (List.mem_append_left _ (List.mem_append_left _ (List.mem_append_left _ lm10)))))))))
  have wd5 := hts (.fieldLink RX11 80 "StoryDesk$Letters" "length" "I") (List.mem_cons_of_mem _ (List.mem_append_left _ (List.mem_append_left _ (List.mem_append_left _ (List.mem_append_left _ (List.mem_append_left _ (List.mem_append_left _ (List.mem_append_left _ (List.mem_append_left _ lm11)))))))))
  have wd6 := hts (.classLink RX11 124 "java/lang/IllegalArgumentException") (List.mem_cons_of_mem _ (List.mem_append_left _ (List.mem_append_left _ (List.mem_append_left _ (List.mem_append_left _ (List.mem_append_left _ (List.mem_append_left _ (List.mem_append_left _ (List.mem_append_left _ lm2)))))))))
  have wd7 := hts (.initialized "java/lang/IllegalArgumentException") (List.mem_cons_of_mem _ (List.mem_append_left _ (List.mem_append_left _ (List.mem_append_left _ (List.mem_append_left _ (List.mem_append_left _ (List.mem_append_left _ (List.mem_append_left _ (List.mem_append_left _ lm3)))))))))
  have wd8 := hts (.fieldLink RX11 37 "StoryDesk" "scripts" "LStoryDesk$Scripts;") (List.mem_cons_of_mem _ (List.mem_append_left _ (List.mem_append_left _ (List.mem_append_left _ (List.mem_append_left _ (List.mem_append_left _ (List.mem_append_left _ (List.mem_append_left _ (List.mem_append_left _ lm12)))))))))
  have wd9 := hts (.fieldLink RX11 66 "StoryDesk" "hookBefore" "[Z") (List.mem_cons_of_mem _ (List.mem_append_left _ (List.mem_append_left _ (List.mem_append_left _ (List.mem_append_left _ (List.mem_append_left _ (List.mem_append_left _ (List.mem_append_left _ (List.mem_append_left _ lm13)))))))))
  have wd10 := hts (.fieldLink RX11 70 "StoryDesk" "hookScripts" "[I") (List.mem_cons_of_mem _ (List.mem_append_left _ (List.mem_append_left _ (List.mem_append_left _ (List.mem_append_left _ (List.mem_append_left _ (List.mem_append_left _ (List.mem_append_left _ (List.mem_append_left _ lm14)))))))))
  have wd11 := hts (.classLink RX11 127 "java/lang/UnsupportedOperationException") (List.mem_cons_of_mem _ (List.mem_append_left _ (List.mem_append_left _ (List.mem_append_left _ (List.mem_append_left _ (List.mem_append_left _ (List.mem_append_left _ (List.mem_append_left _ (List.mem_append_left _ lm4)))))))))
  have wd12 := hts (.initialized "java/lang/UnsupportedOperationException") (List.mem_cons_of_mem _ (List.mem_append_left _ (List.mem_append_left _ (List.mem_append_left _ (List.mem_append_left _ (List.mem_append_left _ (List.mem_append_left _ (List.mem_append_left _ (List.mem_append_left _ lm5)))))))))
  have wd13 := hts (.classLink RX11 92 "java/lang/IllegalStateException") (List.mem_cons_of_mem _ (List.mem_append_left _ (List.mem_append_left _ (List.mem_append_left _ (List.mem_append_left _ (List.mem_append_left _ (List.mem_append_left _ (List.mem_append_left _ (List.mem_append_left _ lm0)))))))))
  have wd14 := hts (.initialized "java/lang/IllegalStateException") (List.mem_cons_of_mem _ (List.mem_append_left _ (List.mem_append_left _ (List.mem_append_left _ (List.mem_append_left _ (List.mem_append_left _ (List.mem_append_left _ (List.mem_append_left _ (List.mem_append_left _ lm1)))))))))
  have thr_94 : ∀ w ∈ (vx_at0 RX11 94 "java/lang/IllegalStateException" ["java/lang/RuntimeException", "java/lang/Exception"]).filter goodWord, w ∈ wsX11_hook := by decide +kernel
  have thr_126 : ∀ w ∈ (vx_at0 RX11 126 "java/lang/IllegalArgumentException" ["java/lang/RuntimeException", "java/lang/Exception"]).filter goodWord, w ∈ wsX11_hook := by decide +kernel
  have thr_129 : ∀ w ∈ (vx_at0 RX11 129 "java/lang/UnsupportedOperationException" ["java/lang/RuntimeException", "java/lang/Exception"]).filter goodWord, w ∈ wsX11_hook := by decide +kernel
  have hl : lv_has ls 4 [(0, .ref (g 0)), (1, .int x), (2, .int y)] := hl
  have hK : va_K D vwCl (hT ka) s := hK
  have hg_1 := s_rng y
  have hbu8 : (0 : Int) ≤ (i 23 8).toInt ∧ (i 23 8).toInt ≤ 1 := hO 23 8
  have hb11 : (0 : Int) ≤ (i 0 11).toInt ∧ (i 0 11).toInt ≤ 8 := hO 0 11
  refine lv_aload_n hx hb dX11_hook_0 rfl (lv_at hl 0 rfl) ?_
  refine h_getr (ci := 11) (C := RX11) (F := TX11) (N := 14) hx hb hts in11 hown hK hH (by decide) (rfl : kd 0 = 11) (by decide) rfl 4 (by decide) wd0 (fun _ h9 => h9) (by decide) rfl (t := 23) (hR 0 4 rfl) (by decide) dX11_hook_1 ?_
  have bx_2 : (0 : Int) ≤ (i 23 8).toInt ∧ (i 23 8).toInt ≤ 1 := hO 23 8
  refine h_geti (ci := 7) (C := RX7) (F := TX7) (N := 11) hx hb hts in7 hown hK hH (by decide) (rfl : kd 23 = 7) (by decide) rfl 8 (by decide) wd1 (fun _ h9 => h9) (by decide) rfl dX11_hook_4 ?_
  refine lv_if_eq (tgt := 18) hx hb dX11_hook_7 (by decide) (fun c_3 => ?_) (fun c_3 => ?_)
  · skip
    have h_4 := s_eq (rfl : (i 23 8).toInt = _) (show (0 : Int32).toInt = 0 from rfl) c_3
    refine lv_aload_n hx hb dX11_hook_18 rfl (lv_at hl 0 rfl) ?_
    refine h_getr (ci := 11) (C := RX11) (F := TX11) (N := 14) hx hb hts in11 hown hK hH (by decide) (rfl : kd 0 = 11) (by decide) rfl 8 (by decide) wd2 (fun _ h9 => h9) (by decide) rfl (t := 32) (hR 0 8 rfl) (by decide) dX11_hook_19 ?_
    refine lv_aload_n hx hb dX11_hook_22 rfl (lv_at hl 0 rfl) ?_
    have bx_5 : (0 : Int) ≤ (i 0 11).toInt ∧ (i 0 11).toInt ≤ 8 := hO 0 11
    refine h_geti (ci := 11) (C := RX11) (F := TX11) (N := 14) hx hb hts in11 hown hK hH (by decide) (rfl : kd 0 = 11) (by decide) rfl 11 (by decide) wd3 (fun _ h9 => h9) (by decide) rfl dX11_hook_23 ?_
    obtain ⟨j_6, ej_6, hj_6⟩ : ∃ j : Nat, ((i 0 11)).toNatClampNeg = j ∧ (j : Int) = (i 0 11).toInt := ⟨_, rfl, by rw [s_cl (rfl : (i 0 11).toInt = _)]; omega⟩
    have lj_6 : j_6 < 9 := by omega
    have mj_6 : j_6 < 11 := by omega
    refine h_qald hx hb hK hH (by decide) (rfl : kd 32 = 27) (by decide) rfl (s_vin (N := 9) (rfl : (i 0 11).toInt = _) (rfl : ln 32 = 9) (by omega) (by omega)) (t := (357 + 2 * j_6)) (by rw [ej_6]; exact (hR 32 j_6 rfl)) (lt_nK (by omega)) dX11_hook_26 ?_
    refine lv_aload_n hx hb dX11_hook_27 rfl (lv_at hl 0 rfl) ?_
    refine h_getr (ci := 11) (C := RX11) (F := TX11) (N := 14) hx hb hts in11 hown hK hH (by decide) (rfl : kd 0 = 11) (by decide) rfl 0 (by decide) wd4 (fun _ h9 => h9) (by decide) rfl (t := 1) (hR 0 0 rfl) (by decide) dX11_hook_28 ?_
    refine x_calli (va_runV (As := [.ref (g 1)]) (rest := []) ⟨hx, hb, hml, hown, hts⟩ (k_tagTake l D g ka ad i r L d j_6 hO hR s.heap.size (by first | omega | decide)) (cwV 1 hts gX11_hook_X9_take rfl rfl rfl (by decide +kernel) ⟨(Nat.le_of_ble_eq_true rfl), (Nat.le_of_ble_eq_true rfl)⟩) (x_preV (q := (RX9, TX9, 4)) hH hK (q_obj (lt_nK (by omega)) (kd_tag mj_6) (by decide)) rfl gxb (gxw hE hS (x_F hH hS hA))) rfl rfl hl.1 rfl (lv_room (Nat.le_of_ble_eq_true rfl)) dX11_hook_31 ⟨(Nat.le_of_ble_eq_true rfl), (Nat.le_of_ble_eq_true rfl)⟩) hH hS hA rfl rfl (fun r_7 im_9 H locs hw_8 hH hS => ?_)
    have hH : sj_H D A (hwc g ka im_9 r L d) H := hH
    obtain ⟨hO_11, hfr_10, hr_12, hx2_13, hx2_14, hx2_15⟩ := hw_8
    have hr_12 : (0 : Int) ≤ r_7.toInt ∧ r_7.toInt ≤ 1 := hr_12
    have hb9 : (0 : Int) ≤ (im_9 (357 + 2 * j_6) 1).toInt := by have h9 := hO_11 (357 + 2 * j_6) 1; rw [bx_tag (by omega) 1] at h9; exact h9.1
    have hct := cTk_v (i := i) (u := im_9) (v := r_7.toInt) hb9 hx2_13 hx2_14 hx2_15
    refine lv_istore_n (lv' := [(3, .int r_7), (0, .ref (g 0)), (1, .int x), (2, .int y)]) hx hb dX11_hook_34 rfl hl (by decide) rfl (fun ls hl => ?_)
    refine lv_aload_n hx hb dX11_hook_35 rfl (lv_at hl 1 rfl) ?_
    refine h_getr (ci := 11) (C := RX11) (F := TX11) (N := 14) hx hb hts in11 hown hK hH (by decide) (rfl : kd 0 = 11) (by decide) rfl 0 (by decide) wd4 (fun _ h9 => h9) (by decide) rfl (t := 1) (hR 0 0 rfl) (by decide) dX11_hook_36 ?_
    refine lv_iconst (v := 0) hx hb dX11_hook_39 (by decide) ?_
    have hO_16 := okp hO_11 (n := 1) (k := 1) (v := 0) (show (0 : Int) ≤ (0 : Int32).toInt ∧ (0 : Int32).toInt ≤ 480 from ⟨by decide, by decide⟩)
    refine h_puti (ty := .int) (ci := 3) (C := RX3) (F := TX3) (N := 2) hx hb hts in3 tyX3 tyX3_ok nmX3 hown hK hH hS (by decide) (rfl : kd 1 = 3) (by decide) rfl 1 (by decide) wd5 (fun _ h9 => h9) rfl (by decide +kernel) rfl rfl (by decide) rfl dX11_hook_40 (fun H locs hH hS => ?_)
    refine lv_iload_n hx hb dX11_hook_43 rfl (lv_at hl 0 rfl) ?_
    refine lv_if_eq (tgt := 58) hx hb dX11_hook_44 (by decide) (fun c_17 => ?_) (fun c_17 => ?_)
    · skip
      have h_18 := s_eq (rfl : r_7.toInt = _) (show (0 : Int32).toInt = 0 from rfl) c_17
      have hp_19 : ((up2 im_9 1 1 0) 1 1).toInt = (0 : Int32).toInt := congrArg Int32.toInt ((up2_at _ _ _ _))
      have hl_20 : (0 : Int32).toInt = 0 := rfl
      have hp_21 : ((up2 im_9 1 1 0) 0 11).toInt = ((i 0 11) : Int32).toInt := congrArg Int32.toInt (((congrFun (up2_n _ _ (by decide)) _).trans (congrFun (hfr_10 0 (by omega)) _)))
      have hV_22 : ((i 23 8).toInt = 1 ∧ (up2 im_9 1 1 0) = i) ∨ ((i 23 8).toInt = 0 ∧ ((up2 im_9 1 1 0) 1 1).toInt = 0 ∧ hkC i (up2 im_9 1 1 0) x.toInt y.toInt) := (Or.inr ⟨by omega, by omega, ⟨(fun h h8 h9 => ⟨(by unfold tgJ; rw [show (up2 im_9 1 1 0) (357 + 2 * h + 1) = i (357 + 2 * h + 1) from ((up2_n _ _ (by omega)).trans (hfr_10 (357 + 2 * h + 1) (by omega))), show (up2 im_9 1 1 0) (357 + 2 * h) = i (357 + 2 * h) from ((up2_n _ _ (by omega)).trans (hfr_10 (357 + 2 * h) (by omega)))]), ((congrFun (up2_n _ _ (by omega)) _).trans (congrFun (hfr_10 33 (by omega)) _))⟩), Or.inl ⟨fun q => by have q1 := q.2.1; have q2 := q.2.2; rcases hct with hq | hq; have := hq.1; omega; exact hq.2 q.1, by omega⟩⟩⟩)
      have hV_23 : PK (up2 im_9 1 1 0) := (fun h9 hh => tgO_J ((up2_n _ _ (by omega)).trans (hfr_10 (357 + 2 * h9 + 1) (by omega))) ((up2_n _ _ (by omega)).trans (hfr_10 (357 + 2 * h9) (by omega))) (hPK h9 (by omega)))
      have hp_24 : ((up2 im_9 1 1 0) 0 7).toInt = ((i 0 7) : Int32).toInt := congrArg Int32.toInt (((congrFun (up2_n _ _ (by decide)) _).trans (congrFun (hfr_10 0 (by omega)) _)))
      have hV_25 : (((up2 im_9 1 1 0) 0 7).toInt = (i 0 7).toInt) := (by omega)
      have hpx : (fun (E : String) (u : (Nat → Nat → Int32)) => (E = "java/lang/IllegalStateException" ∨ E = "java/lang/IllegalArgumentException" ∨ E = "java/lang/UnsupportedOperationException") ∧ OkI u ∧ (∀ a, ¬ (a = 0 ∨ a = 1 ∨ a = 33 ∨ a = 34 ∨ (357 ≤ a ∧ a < 375)) → u a = i a) ∧ (((i 23 8).toInt = 1 ∧ u = i) ∨ ((i 23 8).toInt = 0 ∧ (u 1 1).toInt = 0 ∧ hkC i u x.toInt y.toInt)) ∧ (PK u) ∧ (((u 0 7).toInt = (i 0 7).toInt)) ∧ (eX E ((i 23 8).toInt = 1) ((i 23 8).toInt = 0 ∧ ¬ (cTk i ∧ (0 ≤ y.toInt ∧ y.toInt < 8))) ((i 23 8).toInt = 0 ∧ (cTk i ∧ (0 ≤ y.toInt ∧ y.toInt < 8)) ∧ (i 0 11).toInt = 8) (False))) "java/lang/IllegalArgumentException" (up2 im_9 1 1 0) := ⟨(Or.inr (Or.inl rfl)), hO_16, (fun a ha => ((up2_n _ _ (by omega)).trans (hfr_10 a (by omega)))), hV_22, hV_23, hV_25, (eX_iae ⟨by omega, fun q => by have q1 := q.2; rcases hct with hq | hq; have := hq.1; omega; exact hq.2 q.1⟩)⟩
      have hHx : sj_H D A ((fun (u : (Nat → Nat → Int32)) => hwc g ka u r L d) (up2 im_9 1 1 0)) H := hH
      exact x_throw (px := (fun (E : String) (u : (Nat → Nat → Int32)) => (E = "java/lang/IllegalStateException" ∨ E = "java/lang/IllegalArgumentException" ∨ E = "java/lang/UnsupportedOperationException") ∧ OkI u ∧ (∀ a, ¬ (a = 0 ∨ a = 1 ∨ a = 33 ∨ a = 34 ∨ (357 ≤ a ∧ a < 375)) → u a = i a) ∧ (((i 23 8).toInt = 1 ∧ u = i) ∨ ((i 23 8).toInt = 0 ∧ (u 1 1).toInt = 0 ∧ hkC i u x.toInt y.toInt)) ∧ (PK u) ∧ (((u 0 7).toInt = (i 0 7).toInt)) ∧ (eX E ((i 23 8).toInt = 1) ((i 23 8).toInt = 0 ∧ ¬ (cTk i ∧ (0 ≤ y.toInt ∧ y.toInt < 8))) ((i 23 8).toInt = 0 ∧ (cTk i ∧ (0 ≤ y.toInt ∧ y.toInt < 8)) ∧ (i 0 11).toInt = 8) (False)))) (W1 := (fun (u : (Nat → Nat → Int32)) => hwc g ka u r L d)) hx hb hst (ik := 124) (ic := 126) (cls := "java/lang/IllegalArgumentException") (up2 im_9 1 1 0) hpx hown (by decide) wd6 wd7 (fun w h => hts w (thr_126 w h)) (by decide +kernel) (by decide +kernel) (gx_iae hE) hS hHx hK (hl.1.trans hml.symm) dX11_hook_58 dX11_hook_61 dX11_hook_62 dX11_hook_65 hnt (Nat.le_of_ble_eq_true rfl) (Nat.le_of_ble_eq_true rfl) (Nat.le_of_ble_eq_true rfl) (Nat.le_of_ble_eq_true rfl) hlocks (Nat.le_of_ble_eq_true rfl) (Nat.le_of_ble_eq_true rfl)
    · skip
      have h_26 := s_ne (rfl : r_7.toInt = _) (show (0 : Int32).toInt = 0 from rfl) c_17
      refine lv_aload_n hx hb dX11_hook_47 rfl (lv_at hl 1 rfl) ?_
      refine h_getr (ci := 11) (C := RX11) (F := TX11) (N := 14) hx hb hts in11 hown hK hH (by decide) (rfl : kd 0 = 11) (by decide) rfl 3 (by decide) wd8 (fun _ h9 => h9) (by decide) rfl (t := 19) (hR 0 3 rfl) (by decide) dX11_hook_48 ?_
      refine lv_iload_n hx hb dX11_hook_51 rfl (lv_at hl 3 rfl) ?_
      refine x_calli (va_runV (As := [.int y]) (rest := []) ⟨hx, hb, hml, hown, hts⟩ (k_has l D g ka ad (up2 im_9 1 1 0) r L d y hO_16 hR H.size ) (cwV 1 hts gX11_hook_X8_has rfl rfl rfl (by decide +kernel) ⟨(Nat.le_of_ble_eq_true rfl), (Nat.le_of_ble_eq_true rfl)⟩) (x_preV (q := (RX8, TX8, 3)) hH hK (q_obj (by decide) (rfl : kd 19 = 8) (by decide)) rfl gxb (gxw hE hS (x_F hH hS hA))) rfl rfl hl.1 rfl (lv_room (Nat.le_of_ble_eq_true rfl)) dX11_hook_52 ⟨(Nat.le_of_ble_eq_true rfl), (Nat.le_of_ble_eq_true rfl)⟩) hH hS hA rfl rfl (fun r_27 _ H locs hw_28 hH hS => ?_)
      obtain ⟨hr_30, he_31⟩ := hw_28
      have hr_30 : (0 : Int) ≤ r_27.toInt ∧ r_27.toInt ≤ 1 := hr_30
      refine lv_if_ne (tgt := 66) hx hb dX11_hook_55 (by decide) (fun c_32 => ?_) (fun c_32 => ?_)
      · skip
        have h_33 := s_ne (rfl : r_27.toInt = _) (show (0 : Int32).toInt = 0 from rfl) c_32
        refine lv_aload_n hx hb dX11_hook_66 rfl (lv_at hl 1 rfl) ?_
        refine h_geti (ci := 11) (C := RX11) (F := TX11) (N := 14) hx hb hts in11 hown hK hH (by decide) (rfl : kd 0 = 11) (by decide) rfl 11 (by decide) wd3 (fun _ h9 => h9) (by decide) rfl dX11_hook_67 ?_
        refine sj_i (y := (i 0 11)) ((congrFun (up2_n _ _ (by decide)) _).trans (congrFun (hfr_10 0 (by omega)) _)) ?_
        refine lv_bipush (v := 8) hx hb dX11_hook_70 (by decide) ?_
        refine lv_icmp_lt (tgt := 83) hx hb dX11_hook_72 (by decide) (fun c_34 => ?_) (fun c_34 => ?_)
        · skip
          have h_35 := s_lt (rfl : (i 0 11).toInt = _) (show (8 : Int32).toInt = 8 from rfl) c_34
          refine lv_aload_n hx hb dX11_hook_83 rfl (lv_at hl 1 rfl) ?_
          refine h_getr (ci := 11) (C := RX11) (F := TX11) (N := 14) hx hb hts in11 hown hK hH (by decide) (rfl : kd 0 = 11) (by decide) rfl 9 (by decide) wd9 (fun _ h9 => h9) (by decide) rfl (t := 33) (hR 0 9 rfl) (by decide) dX11_hook_84 ?_
          refine lv_aload_n hx hb dX11_hook_87 rfl (lv_at hl 1 rfl) ?_
          refine h_geti (ci := 11) (C := RX11) (F := TX11) (N := 14) hx hb hts in11 hown hK hH (by decide) (rfl : kd 0 = 11) (by decide) rfl 11 (by decide) wd3 (fun _ h9 => h9) (by decide) rfl dX11_hook_88 ?_
          refine sj_i (y := (i 0 11)) ((congrFun (up2_n _ _ (by decide)) _).trans (congrFun (hfr_10 0 (by omega)) _)) ?_
          refine lv_iload_n hx hb dX11_hook_91 rfl (lv_at hl 2 rfl) ?_
          obtain ⟨z_36, ez_36⟩ : ∃ z, vp_nar .boolean x = z := ⟨_, rfl⟩
          have hz_36 : z_36.toInt = x.toInt := by rw [← ez_36, s_narb (rfl : x.toInt = _) (by omega) (by omega)] <;> exact (rfl : x.toInt = _)
          have hO_37 := okp hO_16 (n := 33) (k := ((i 0 11).toInt).toNat) (v := z_36) (show (0 : Int) ≤ (z_36 : Int32).toInt ∧ (z_36 : Int32).toInt ≤ 1 from ⟨by omega, by omega⟩)
          refine h_zast hx hb hK hH hS (by decide) (rfl : kd 33 = 15) (s_vin (N := 8) (rfl : (i 0 11).toInt = _) (rfl : ln 33 = 8) (by omega) (by omega)) dX11_hook_92 (fun H locs hH hS => ?_)
          rw [ez_36] at hH
          rw [s_cl (show (i 0 11).toInt = (i 0 11).toInt by omega)] at hH
          refine lv_aload_n hx hb dX11_hook_93 rfl (lv_at hl 1 rfl) ?_
          refine h_getr (ci := 11) (C := RX11) (F := TX11) (N := 14) hx hb hts in11 hown hK hH (by decide) (rfl : kd 0 = 11) (by decide) rfl 10 (by decide) wd10 (fun _ h9 => h9) (by decide) rfl (t := 34) (hR 0 10 rfl) (by decide) dX11_hook_94 ?_
          refine lv_aload_n hx hb dX11_hook_97 rfl (lv_at hl 1 rfl) ?_
          refine h_geti (ci := 11) (C := RX11) (F := TX11) (N := 14) hx hb hts in11 hown hK hH (by decide) (rfl : kd 0 = 11) (by decide) rfl 11 (by decide) wd3 (fun _ h9 => h9) (by decide) rfl dX11_hook_98 ?_
          refine sj_i (y := (i 0 11)) ((congrFun (up2_n _ _ (by decide)) _).trans ((congrFun (up2_n _ _ (by decide)) _).trans (congrFun (hfr_10 0 (by omega)) _))) ?_
          refine lv_iload_n hx hb dX11_hook_101 rfl (lv_at hl 3 rfl) ?_
          have hO_38 := okp hO_37 (n := 34) (k := ((i 0 11).toInt).toNat) (v := y) (show (0 : Int) ≤ (y : Int32).toInt ∧ (y : Int32).toInt ≤ 7 from ⟨by omega, by omega⟩)
          refine h_iast hx hb hK hH hS (by decide) (rfl : kd 34 = 13) (s_vin (N := 8) (rfl : (i 0 11).toInt = _) (rfl : ln 34 = 8) (by omega) (by omega)) dX11_hook_102 (fun H locs hH hS => ?_)
          rw [s_cl (show (i 0 11).toInt = (i 0 11).toInt by omega)] at hH
          refine lv_aload_n hx hb dX11_hook_103 rfl (lv_at hl 1 rfl) ?_
          refine lv_dup hx hb dX11_hook_104 rfl ?_
          refine h_geti (ci := 11) (C := RX11) (F := TX11) (N := 14) hx hb hts in11 hown hK hH (by decide) (rfl : kd 0 = 11) (by decide) rfl 11 (by decide) wd3 (fun _ h9 => h9) (by decide) rfl dX11_hook_105 ?_
          refine sj_i (y := (i 0 11)) ((congrFun (up2_n _ _ (by decide)) _).trans ((congrFun (up2_n _ _ (by decide)) _).trans ((congrFun (up2_n _ _ (by decide)) _).trans (congrFun (hfr_10 0 (by omega)) _)))) ?_
          refine lv_iconst (v := 1) hx hb dX11_hook_108 (by decide) ?_
          refine lv_iadd hx hb dX11_hook_109 ?_
          obtain ⟨z_39, ez_39, hz_39⟩ := s_add (rfl : (i 0 11).toInt = _) (show (1 : Int32).toInt = 1 from rfl) (by omega) (by omega)
          refine sj_i ez_39 ?_
          have hO_40 := okp hO_38 (n := 0) (k := 11) (v := z_39) (show (0 : Int) ≤ (z_39 : Int32).toInt ∧ (z_39 : Int32).toInt ≤ 8 from ⟨by omega, by omega⟩)
          refine h_puti (ty := .int) (ci := 11) (C := RX11) (F := TX11) (N := 14) hx hb hts in11 tyX11 tyX11_ok nmX11 hown hK hH hS (by decide) (rfl : kd 0 = 11) (by decide) rfl 11 (by decide) wd3 (fun _ h9 => h9) rfl (by decide +kernel) rfl rfl (by decide) rfl dX11_hook_110 (fun H locs hH hS => ?_)
          refine lv_aload_n hx hb dX11_hook_113 rfl (lv_at hl 1 rfl) ?_
          refine h_geti (ci := 11) (C := RX11) (F := TX11) (N := 14) hx hb hts in11 hown hK hH (by decide) (rfl : kd 0 = 11) (by decide) rfl 11 (by decide) wd3 (fun _ h9 => h9) (by decide) rfl dX11_hook_114 ?_
          refine sj_i (y := z_39) (up2_at _ _ _ _) ?_
          refine lv_iconst (v := 1) hx hb dX11_hook_117 (by decide) ?_
          refine lv_isub hx hb dX11_hook_118 ?_
          obtain ⟨z_41, ez_41, hz_41⟩ := s_sub (rfl : z_39.toInt = _) (show (1 : Int32).toInt = 1 from rfl) (by omega) (by omega)
          refine sj_i ez_41 ?_
          have hp_42 : ((up2 (up2 (up2 (up2 im_9 1 1 0) 33 ((i 0 11).toInt).toNat z_36) 34 ((i 0 11).toInt).toNat y) 0 11 z_39) 1 1).toInt = (0 : Int32).toInt := congrArg Int32.toInt (((congrFun (up2_n _ _ (by decide)) _).trans ((congrFun (up2_n _ _ (by decide)) _).trans ((congrFun (up2_n _ _ (by decide)) _).trans (up2_at _ _ _ _)))))
          have hl_43 : (0 : Int32).toInt = 0 := rfl
          have hV_44 : (i 23 8).toInt = 0 ∧ ((up2 (up2 (up2 (up2 im_9 1 1 0) 33 ((i 0 11).toInt).toNat z_36) 34 ((i 0 11).toInt).toNat y) 0 11 z_39) 1 1).toInt = 0 := ⟨by omega, by omega⟩
          have hp_45 : ((up2 (up2 (up2 (up2 im_9 1 1 0) 33 ((i 0 11).toInt).toNat z_36) 34 ((i 0 11).toInt).toNat y) 0 11 z_39) 0 11).toInt = (z_39 : Int32).toInt := congrArg Int32.toInt ((up2_at _ _ _ _))
          have hcy := hct.resolve_right (fun q => by have := q.1; omega)
          have hjh : (i 0 11).toInt.toNat = j_6 := by omega
          have hq33 : ((up2 (up2 (up2 (up2 im_9 1 1 0) 33 ((i 0 11).toInt).toNat z_36) 34 ((i 0 11).toInt).toNat y) 0 11 z_39) 33 (i 0 11).toInt.toNat).toInt = (z_36 : Int32).toInt := congrArg Int32.toInt (((congrFun (up2_n _ _ (by decide)) _).trans ((congrFun (up2_n _ _ (by decide)) _).trans (up2_at _ _ _ _))))
          have hV_46 : hkC i (up2 (up2 (up2 (up2 im_9 1 1 0) 33 ((i 0 11).toInt).toNat z_36) 34 ((i 0 11).toInt).toNat y) 0 11 z_39) x.toInt y.toInt := ⟨(fun h h8 h9 => ⟨(by unfold tgJ; rw [show (up2 (up2 (up2 (up2 im_9 1 1 0) 33 ((i 0 11).toInt).toNat z_36) 34 ((i 0 11).toInt).toNat y) 0 11 z_39) (357 + 2 * h + 1) = i (357 + 2 * h + 1) from ((up2_n _ _ (by omega)).trans ((up2_n _ _ (by omega)).trans ((up2_n _ _ (by omega)).trans ((up2_n _ _ (by omega)).trans (hfr_10 (357 + 2 * h + 1) (by omega)))))), show (up2 (up2 (up2 (up2 im_9 1 1 0) 33 ((i 0 11).toInt).toNat z_36) 34 ((i 0 11).toInt).toNat y) 0 11 z_39) (357 + 2 * h) = i (357 + 2 * h) from ((up2_n _ _ (by omega)).trans ((up2_n _ _ (by omega)).trans ((up2_n _ _ (by omega)).trans ((up2_n _ _ (by omega)).trans (hfr_10 (357 + 2 * h) (by omega))))))]), ((congrFun (up2_n _ _ (by omega)) _).trans ((congrFun (up2_n _ _ (by omega)) _).trans ((up2_k _ _ (by omega)).trans ((congrFun (up2_n _ _ (by omega)) _).trans (congrFun (hfr_10 33 (by omega)) _)))))⟩), Or.inr ⟨⟨hcy.2.1, ⟨by omega, by omega⟩, by omega⟩, by omega, (congrArg (tgJ (up2 (up2 (up2 (up2 im_9 1 1 0) 33 ((i 0 11).toInt).toNat z_36) 34 ((i 0 11).toInt).toNat y) 0 11 z_39)) hjh).trans (by unfold tgJ; rw [show (up2 (up2 (up2 (up2 im_9 1 1 0) 33 ((i 0 11).toInt).toNat z_36) 34 ((i 0 11).toInt).toNat y) 0 11 z_39) (357 + 2 * j_6 + 1) = im_9 (357 + 2 * j_6 + 1) from ((up2_n _ _ (by omega)).trans ((up2_n _ _ (by omega)).trans ((up2_n _ _ (by omega)).trans (up2_n _ _ (by omega))))), show (up2 (up2 (up2 (up2 im_9 1 1 0) 33 ((i 0 11).toInt).toNat z_36) 34 ((i 0 11).toInt).toNat y) 0 11 z_39) (357 + 2 * j_6) = im_9 (357 + 2 * j_6) from ((up2_n _ _ (by omega)).trans ((up2_n _ _ (by omega)).trans ((up2_n _ _ (by omega)).trans (up2_n _ _ (by omega)))))]; exact hcy.2.2.1), by omega⟩⟩
          have hV_47 : PK (up2 (up2 (up2 (up2 im_9 1 1 0) 33 ((i 0 11).toInt).toNat z_36) 34 ((i 0 11).toInt).toNat y) 0 11 z_39) := (fun h9 hh => by
                by_cases q : h9 = j_6
                · rw [q]; exact tgO_J ((up2_n _ _ (by omega)).trans ((up2_n _ _ (by omega)).trans ((up2_n _ _ (by omega)).trans (up2_n _ _ (by omega))))) ((up2_n _ _ (by omega)).trans ((up2_n _ _ (by omega)).trans ((up2_n _ _ (by omega)).trans (up2_n _ _ (by omega))))) hcy.2.2.2
                · exact tgO_J ((up2_n _ _ (by omega)).trans ((up2_n _ _ (by omega)).trans ((up2_n _ _ (by omega)).trans ((up2_n _ _ (by omega)).trans (hfr_10 (357 + 2 * h9 + 1) (by omega)))))) ((up2_n _ _ (by omega)).trans ((up2_n _ _ (by omega)).trans ((up2_n _ _ (by omega)).trans ((up2_n _ _ (by omega)).trans (hfr_10 (357 + 2 * h9) (by omega)))))) (hPK h9 (by omega)))
          have hp_48 : ((up2 (up2 (up2 (up2 im_9 1 1 0) 33 ((i 0 11).toInt).toNat z_36) 34 ((i 0 11).toInt).toNat y) 0 11 z_39) 0 7).toInt = ((i 0 7) : Int32).toInt := congrArg Int32.toInt (((up2_k _ _ (by decide)).trans ((congrFun (up2_n _ _ (by decide)) _).trans ((congrFun (up2_n _ _ (by decide)) _).trans ((congrFun (up2_n _ _ (by decide)) _).trans (congrFun (hfr_10 0 (by omega)) _))))))
          have hV_49 : (((up2 (up2 (up2 (up2 im_9 1 1 0) 33 ((i 0 11).toInt).toNat z_36) 34 ((i 0 11).toInt).toNat y) 0 11 z_39) 0 7).toInt = (i 0 7).toInt) := (by omega)
          have hV_50 : (i 23 8).toInt = 0 ∧ (cTk i ∧ (0 ≤ y.toInt ∧ y.toInt < 8) ∧ (i 0 11).toInt < 8) ∧ (z_41 : Int32).toInt = (i 0 11).toInt := ⟨by omega, ⟨hcy.2.1, ⟨by omega, by omega⟩, by omega⟩, by omega⟩
          refine vx_ret ?_
          exact sj_zret hx hb hr hlocks rfl hS (up2 (up2 (up2 (up2 im_9 1 1 0) 33 ((i 0 11).toInt).toNat z_36) 34 ((i 0 11).toInt).toNat y) 0 11 z_39) ⟨hO_40, (fun a ha => ((up2_n _ _ (by omega)).trans ((up2_n _ _ (by omega)).trans ((up2_n _ _ (by omega)).trans ((up2_n _ _ (by omega)).trans (hfr_10 a (by omega))))))), hV_44, hV_46, hV_47, hV_49, hV_50⟩ hH (sj_Knil hK) (Nat.le_of_ble_eq_true rfl) (Nat.le_of_ble_eq_true rfl) dX11_hook_119
        · skip
          have h_51 := s_nlt (rfl : (i 0 11).toInt = _) (show (8 : Int32).toInt = 8 from rfl) c_34
          have hp_52 : ((up2 im_9 1 1 0) 1 1).toInt = (0 : Int32).toInt := congrArg Int32.toInt ((up2_at _ _ _ _))
          have hl_53 : (0 : Int32).toInt = 0 := rfl
          have hp_54 : ((up2 im_9 1 1 0) 0 11).toInt = ((i 0 11) : Int32).toInt := congrArg Int32.toInt (((congrFun (up2_n _ _ (by decide)) _).trans (congrFun (hfr_10 0 (by omega)) _)))
          have hV_55 : ((i 23 8).toInt = 1 ∧ (up2 im_9 1 1 0) = i) ∨ ((i 23 8).toInt = 0 ∧ ((up2 im_9 1 1 0) 1 1).toInt = 0 ∧ hkC i (up2 im_9 1 1 0) x.toInt y.toInt) := (Or.inr ⟨by omega, by omega, ⟨(fun h h8 h9 => ⟨(by unfold tgJ; rw [show (up2 im_9 1 1 0) (357 + 2 * h + 1) = i (357 + 2 * h + 1) from ((up2_n _ _ (by omega)).trans (hfr_10 (357 + 2 * h + 1) (by omega))), show (up2 im_9 1 1 0) (357 + 2 * h) = i (357 + 2 * h) from ((up2_n _ _ (by omega)).trans (hfr_10 (357 + 2 * h) (by omega)))]), ((congrFun (up2_n _ _ (by omega)) _).trans (congrFun (hfr_10 33 (by omega)) _))⟩), Or.inl ⟨fun q => by have q1 := q.2.1; have q2 := q.2.2; rcases hct with hq | hq; have := hq.1; omega; exact hq.2 q.1, by omega⟩⟩⟩)
          have hV_56 : PK (up2 im_9 1 1 0) := (fun h9 hh => tgO_J ((up2_n _ _ (by omega)).trans (hfr_10 (357 + 2 * h9 + 1) (by omega))) ((up2_n _ _ (by omega)).trans (hfr_10 (357 + 2 * h9) (by omega))) (hPK h9 (by omega)))
          have hp_57 : ((up2 im_9 1 1 0) 0 7).toInt = ((i 0 7) : Int32).toInt := congrArg Int32.toInt (((congrFun (up2_n _ _ (by decide)) _).trans (congrFun (hfr_10 0 (by omega)) _)))
          have hV_58 : (((up2 im_9 1 1 0) 0 7).toInt = (i 0 7).toInt) := (by omega)
          have hpx : (fun (E : String) (u : (Nat → Nat → Int32)) => (E = "java/lang/IllegalStateException" ∨ E = "java/lang/IllegalArgumentException" ∨ E = "java/lang/UnsupportedOperationException") ∧ OkI u ∧ (∀ a, ¬ (a = 0 ∨ a = 1 ∨ a = 33 ∨ a = 34 ∨ (357 ≤ a ∧ a < 375)) → u a = i a) ∧ (((i 23 8).toInt = 1 ∧ u = i) ∨ ((i 23 8).toInt = 0 ∧ (u 1 1).toInt = 0 ∧ hkC i u x.toInt y.toInt)) ∧ (PK u) ∧ (((u 0 7).toInt = (i 0 7).toInt)) ∧ (eX E ((i 23 8).toInt = 1) ((i 23 8).toInt = 0 ∧ ¬ (cTk i ∧ (0 ≤ y.toInt ∧ y.toInt < 8))) ((i 23 8).toInt = 0 ∧ (cTk i ∧ (0 ≤ y.toInt ∧ y.toInt < 8)) ∧ (i 0 11).toInt = 8) (False))) "java/lang/UnsupportedOperationException" (up2 im_9 1 1 0) := ⟨(Or.inr (Or.inr rfl)), hO_16, (fun a ha => ((up2_n _ _ (by omega)).trans (hfr_10 a (by omega)))), hV_55, hV_56, hV_58, (eX_uoe ⟨by omega, ⟨(hct.resolve_right (fun q => by have := q.1; omega)).2.1, by omega, by omega⟩, by omega⟩)⟩
          have hHx : sj_H D A ((fun (u : (Nat → Nat → Int32)) => hwc g ka u r L d) (up2 im_9 1 1 0)) H := hH
          exact x_throw (px := (fun (E : String) (u : (Nat → Nat → Int32)) => (E = "java/lang/IllegalStateException" ∨ E = "java/lang/IllegalArgumentException" ∨ E = "java/lang/UnsupportedOperationException") ∧ OkI u ∧ (∀ a, ¬ (a = 0 ∨ a = 1 ∨ a = 33 ∨ a = 34 ∨ (357 ≤ a ∧ a < 375)) → u a = i a) ∧ (((i 23 8).toInt = 1 ∧ u = i) ∨ ((i 23 8).toInt = 0 ∧ (u 1 1).toInt = 0 ∧ hkC i u x.toInt y.toInt)) ∧ (PK u) ∧ (((u 0 7).toInt = (i 0 7).toInt)) ∧ (eX E ((i 23 8).toInt = 1) ((i 23 8).toInt = 0 ∧ ¬ (cTk i ∧ (0 ≤ y.toInt ∧ y.toInt < 8))) ((i 23 8).toInt = 0 ∧ (cTk i ∧ (0 ≤ y.toInt ∧ y.toInt < 8)) ∧ (i 0 11).toInt = 8) (False)))) (W1 := (fun (u : (Nat → Nat → Int32)) => hwc g ka u r L d)) hx hb hst (ik := 127) (ic := 129) (cls := "java/lang/UnsupportedOperationException") (up2 im_9 1 1 0) hpx hown (by decide) wd11 wd12 (fun w h => hts w (thr_129 w h)) (by decide +kernel) (by decide +kernel) (gx_uoe hE) hS hHx hK (hl.1.trans hml.symm) dX11_hook_75 dX11_hook_78 dX11_hook_79 dX11_hook_82 hnt (Nat.le_of_ble_eq_true rfl) (Nat.le_of_ble_eq_true rfl) (Nat.le_of_ble_eq_true rfl) (Nat.le_of_ble_eq_true rfl) hlocks (Nat.le_of_ble_eq_true rfl) (Nat.le_of_ble_eq_true rfl)
      · skip
        have h_59 := s_eq (rfl : r_27.toInt = _) (show (0 : Int32).toInt = 0 from rfl) c_32
        have hp_60 : ((up2 im_9 1 1 0) 1 1).toInt = (0 : Int32).toInt := congrArg Int32.toInt ((up2_at _ _ _ _))
        have hl_61 : (0 : Int32).toInt = 0 := rfl
        have hp_62 : ((up2 im_9 1 1 0) 0 11).toInt = ((i 0 11) : Int32).toInt := congrArg Int32.toInt (((congrFun (up2_n _ _ (by decide)) _).trans (congrFun (hfr_10 0 (by omega)) _)))
        have hV_63 : ((i 23 8).toInt = 1 ∧ (up2 im_9 1 1 0) = i) ∨ ((i 23 8).toInt = 0 ∧ ((up2 im_9 1 1 0) 1 1).toInt = 0 ∧ hkC i (up2 im_9 1 1 0) x.toInt y.toInt) := (Or.inr ⟨by omega, by omega, ⟨(fun h h8 h9 => ⟨(by unfold tgJ; rw [show (up2 im_9 1 1 0) (357 + 2 * h + 1) = i (357 + 2 * h + 1) from ((up2_n _ _ (by omega)).trans (hfr_10 (357 + 2 * h + 1) (by omega))), show (up2 im_9 1 1 0) (357 + 2 * h) = i (357 + 2 * h) from ((up2_n _ _ (by omega)).trans (hfr_10 (357 + 2 * h) (by omega)))]), ((congrFun (up2_n _ _ (by omega)) _).trans (congrFun (hfr_10 33 (by omega)) _))⟩), Or.inl ⟨fun q => by have q1 := q.2.1; have q2 := q.2.2; rcases hct with hq | hq; have := hq.1; omega; exact hq.2 q.1, by omega⟩⟩⟩)
        have hV_64 : PK (up2 im_9 1 1 0) := (fun h9 hh => tgO_J ((up2_n _ _ (by omega)).trans (hfr_10 (357 + 2 * h9 + 1) (by omega))) ((up2_n _ _ (by omega)).trans (hfr_10 (357 + 2 * h9) (by omega))) (hPK h9 (by omega)))
        have hp_65 : ((up2 im_9 1 1 0) 0 7).toInt = ((i 0 7) : Int32).toInt := congrArg Int32.toInt (((congrFun (up2_n _ _ (by decide)) _).trans (congrFun (hfr_10 0 (by omega)) _)))
        have hV_66 : (((up2 im_9 1 1 0) 0 7).toInt = (i 0 7).toInt) := (by omega)
        have hpx : (fun (E : String) (u : (Nat → Nat → Int32)) => (E = "java/lang/IllegalStateException" ∨ E = "java/lang/IllegalArgumentException" ∨ E = "java/lang/UnsupportedOperationException") ∧ OkI u ∧ (∀ a, ¬ (a = 0 ∨ a = 1 ∨ a = 33 ∨ a = 34 ∨ (357 ≤ a ∧ a < 375)) → u a = i a) ∧ (((i 23 8).toInt = 1 ∧ u = i) ∨ ((i 23 8).toInt = 0 ∧ (u 1 1).toInt = 0 ∧ hkC i u x.toInt y.toInt)) ∧ (PK u) ∧ (((u 0 7).toInt = (i 0 7).toInt)) ∧ (eX E ((i 23 8).toInt = 1) ((i 23 8).toInt = 0 ∧ ¬ (cTk i ∧ (0 ≤ y.toInt ∧ y.toInt < 8))) ((i 23 8).toInt = 0 ∧ (cTk i ∧ (0 ≤ y.toInt ∧ y.toInt < 8)) ∧ (i 0 11).toInt = 8) (False))) "java/lang/IllegalArgumentException" (up2 im_9 1 1 0) := ⟨(Or.inr (Or.inl rfl)), hO_16, (fun a ha => ((up2_n _ _ (by omega)).trans (hfr_10 a (by omega)))), hV_63, hV_64, hV_66, (eX_iae ⟨by omega, fun q => by have q1 := q.2; rcases hct with hq | hq; have := hq.1; omega; exact hq.2 q.1⟩)⟩
        have hHx : sj_H D A ((fun (u : (Nat → Nat → Int32)) => hwc g ka u r L d) (up2 im_9 1 1 0)) H := hH
        exact x_throw (px := (fun (E : String) (u : (Nat → Nat → Int32)) => (E = "java/lang/IllegalStateException" ∨ E = "java/lang/IllegalArgumentException" ∨ E = "java/lang/UnsupportedOperationException") ∧ OkI u ∧ (∀ a, ¬ (a = 0 ∨ a = 1 ∨ a = 33 ∨ a = 34 ∨ (357 ≤ a ∧ a < 375)) → u a = i a) ∧ (((i 23 8).toInt = 1 ∧ u = i) ∨ ((i 23 8).toInt = 0 ∧ (u 1 1).toInt = 0 ∧ hkC i u x.toInt y.toInt)) ∧ (PK u) ∧ (((u 0 7).toInt = (i 0 7).toInt)) ∧ (eX E ((i 23 8).toInt = 1) ((i 23 8).toInt = 0 ∧ ¬ (cTk i ∧ (0 ≤ y.toInt ∧ y.toInt < 8))) ((i 23 8).toInt = 0 ∧ (cTk i ∧ (0 ≤ y.toInt ∧ y.toInt < 8)) ∧ (i 0 11).toInt = 8) (False)))) (W1 := (fun (u : (Nat → Nat → Int32)) => hwc g ka u r L d)) hx hb hst (ik := 124) (ic := 126) (cls := "java/lang/IllegalArgumentException") (up2 im_9 1 1 0) hpx hown (by decide) wd6 wd7 (fun w h => hts w (thr_126 w h)) (by decide +kernel) (by decide +kernel) (gx_iae hE) hS hHx hK (hl.1.trans hml.symm) dX11_hook_58 dX11_hook_61 dX11_hook_62 dX11_hook_65 hnt (Nat.le_of_ble_eq_true rfl) (Nat.le_of_ble_eq_true rfl) (Nat.le_of_ble_eq_true rfl) (Nat.le_of_ble_eq_true rfl) hlocks (Nat.le_of_ble_eq_true rfl) (Nat.le_of_ble_eq_true rfl)
  · skip
    have h_67 := s_ne (rfl : (i 23 8).toInt = _) (show (0 : Int32).toInt = 0 from rfl) c_3
    have hV_68 : ((i 23 8).toInt = 1 ∧ i = i) ∨ ((i 23 8).toInt = 0 ∧ (i 1 1).toInt = 0 ∧ hkC i i x.toInt y.toInt) := (Or.inl ⟨by omega, rfl⟩)
    have hV_69 : PK i := hPK
    have hp_70 : (i 0 7).toInt = ((i 0 7) : Int32).toInt := rfl
    have hV_71 : ((i 0 7).toInt = (i 0 7).toInt) := (by omega)
    have hpx : (fun (E : String) (u : (Nat → Nat → Int32)) => (E = "java/lang/IllegalStateException" ∨ E = "java/lang/IllegalArgumentException" ∨ E = "java/lang/UnsupportedOperationException") ∧ OkI u ∧ (∀ a, ¬ (a = 0 ∨ a = 1 ∨ a = 33 ∨ a = 34 ∨ (357 ≤ a ∧ a < 375)) → u a = i a) ∧ (((i 23 8).toInt = 1 ∧ u = i) ∨ ((i 23 8).toInt = 0 ∧ (u 1 1).toInt = 0 ∧ hkC i u x.toInt y.toInt)) ∧ (PK u) ∧ (((u 0 7).toInt = (i 0 7).toInt)) ∧ (eX E ((i 23 8).toInt = 1) ((i 23 8).toInt = 0 ∧ ¬ (cTk i ∧ (0 ≤ y.toInt ∧ y.toInt < 8))) ((i 23 8).toInt = 0 ∧ (cTk i ∧ (0 ≤ y.toInt ∧ y.toInt < 8)) ∧ (i 0 11).toInt = 8) (False))) "java/lang/IllegalStateException" i := ⟨(Or.inl rfl), hO, (fun a ha => rfl), hV_68, hV_69, hV_71, (eX_ise (by omega))⟩
    have hHx : sj_H D A ((fun (u : (Nat → Nat → Int32)) => hwc g ka u r L d) i) s.heap := hH
    exact x_throw (px := (fun (E : String) (u : (Nat → Nat → Int32)) => (E = "java/lang/IllegalStateException" ∨ E = "java/lang/IllegalArgumentException" ∨ E = "java/lang/UnsupportedOperationException") ∧ OkI u ∧ (∀ a, ¬ (a = 0 ∨ a = 1 ∨ a = 33 ∨ a = 34 ∨ (357 ≤ a ∧ a < 375)) → u a = i a) ∧ (((i 23 8).toInt = 1 ∧ u = i) ∨ ((i 23 8).toInt = 0 ∧ (u 1 1).toInt = 0 ∧ hkC i u x.toInt y.toInt)) ∧ (PK u) ∧ (((u 0 7).toInt = (i 0 7).toInt)) ∧ (eX E ((i 23 8).toInt = 1) ((i 23 8).toInt = 0 ∧ ¬ (cTk i ∧ (0 ≤ y.toInt ∧ y.toInt < 8))) ((i 23 8).toInt = 0 ∧ (cTk i ∧ (0 ≤ y.toInt ∧ y.toInt < 8)) ∧ (i 0 11).toInt = 8) (False)))) (W1 := (fun (u : (Nat → Nat → Int32)) => hwc g ka u r L d)) hx hb hst (ik := 92) (ic := 94) (cls := "java/lang/IllegalStateException") i hpx hown (by decide) wd13 wd14 (fun w h => hts w (thr_94 w h)) (by decide +kernel) (by decide +kernel) (gx_ise hE) hS hHx hK (hl.1.trans hml.symm) dX11_hook_10 dX11_hook_13 dX11_hook_14 dX11_hook_17 hnt (Nat.le_of_ble_eq_true rfl) (Nat.le_of_ble_eq_true rfl) (Nat.le_of_ble_eq_true rfl) (Nat.le_of_ble_eq_true rfl) hlocks (Nat.le_of_ble_eq_true rfl) (Nat.le_of_ble_eq_true rfl)
set_option maxHeartbeats 2000000 in
set_option maxRecDepth 100000 in
theorem kv_append (l : Launch) (D : va_G) (g : Nat → Nat) (ka : Nat → ClassId) (ad : Nat → Nat) (i : Nat → Nat → Int32) (r : Nat → Nat → Nat) (L : Nat → Nat → Int64) (d : Nat → Nat → UInt64) (x : Int32) (y : Int32) (z : Int32) (hO : OkI i) (hR : RS r) (sz : Nat)  : Met l yX8_append wsX8_append ({ frames := 1, cells := 0, slots := 0, locals := 21 }) (va_Pc [.ref (g 19), .int x, .int y, .int z] (sj_B D (hwc g ka i r L d) (hT ka) sz (gx ad (va_A (hwc g ka i r L d) sz)))) (sj_Qi (S := (Nat → Nat → Int32)) D (fun v u => OkI u ∧ (∀ a, ¬ (a = 20 ∨ a = 21 ∨ a = 22) → u a = i a) ∧ ((0 : Int) ≤ v.toInt ∧ v.toInt ≤ 1) ∧ ((v.toInt = 1 ∧ cmO 22 i x.toInt y.toInt ∧ cmA 22 20 21 i u x.toInt y.toInt z.toInt) ∨ (v.toInt = 0 ∧ ¬ cmO 22 i x.toInt y.toInt ∧ u = i))) (fun u => hwc g ka u r L d) (fun _ => []) (va_A (hwc g ka i r L d) sz)) 0 0 (va_A (hwc g ka i r L d) sz) := by
  refine x_met (Ex := gx ad) (cc := cX8_append) (maxL := 5) (ret := (some .boolean)) (by decide) rfl (Nat.le_of_ble_eq_true rfl) ?_
  intro p e s m below meth c A ls hx hb hr hml hts hown hlocks hA hS hH hK hE hl
  have hown : s.vm.findClass RX8 = some m.cls := hown
  have in8 : ∀ w ∈ wsX80, w ∈ wsX8_append := (fun _ h => (List.mem_cons_of_mem _ (List.mem_append_right _ h)))
  have wd0 := hts (.fieldLink RX8 18 "StoryDesk$Scripts" "counts" "[I") (List.mem_cons_of_mem _ (List.mem_append_left _ lm0))
  have wd1 := hts (.fieldLink RX8 11 "StoryDesk$Scripts" "commands" "[I") (List.mem_cons_of_mem _ (List.mem_append_left _ lm1))
  have wd2 := hts (.fieldLink RX8 15 "StoryDesk$Scripts" "amounts" "[I") (List.mem_cons_of_mem _ (List.mem_append_left _ lm2))
  have hl : lv_has ls 5 [(0, .ref (g 19)), (1, .int x), (2, .int y), (3, .int z)] := hl
  have hK : va_K D vwCl (hT ka) s := hK
  have hg_1 := s_rng x
  have hg_2 := s_rng y
  have hg_3 := s_rng z
  have hb22 := hO 22 x.toInt.toNat
  refine lv_aload_n hx hb dX8_append_0 rfl (lv_at hl 0 rfl) ?_
  refine lv_iload_n hx hb dX8_append_1 rfl (lv_at hl 1 rfl) ?_
  refine x_calli (va_runV (As := [.int x]) (rest := []) ⟨hx, hb, hml, hown, hts⟩ (k_has l D g ka ad i r L d x hO hR s.heap.size ) (cwV 1 hts gX8_append_X8_has rfl rfl rfl (by decide +kernel) ⟨(Nat.le_of_ble_eq_true rfl), (Nat.le_of_ble_eq_true rfl)⟩) (x_preV (q := (RX8, TX8, 3)) hH hK (q_obj (by decide) (rfl : kd 19 = 8) (by decide)) rfl gxb (gxw hE hS (x_F hH hS hA))) rfl rfl hl.1 rfl (lv_room (Nat.le_of_ble_eq_true rfl)) dX8_append_2 ⟨(Nat.le_of_ble_eq_true rfl), (Nat.le_of_ble_eq_true rfl)⟩) hH hS hA rfl rfl (fun r_4 _ H locs hw_5 hH hS => ?_)
  obtain ⟨hr_7, he_8⟩ := hw_5
  have hr_7 : (0 : Int) ≤ r_4.toInt ∧ r_4.toInt ≤ 1 := hr_7
  refine lv_if_eq (tgt := 28) hx hb dX8_append_5 (by decide) (fun c_9 => ?_) (fun c_9 => ?_)
  · skip
    have h_10 := s_eq (rfl : r_4.toInt = _) (show (0 : Int32).toInt = 0 from rfl) c_9
    refine lv_iconst (v := 0) hx hb dX8_append_28 (by decide) ?_
    have hV_11 : ((0 : Int32).toInt = 1 ∧ cmO 22 i x.toInt y.toInt ∧ cmA 22 20 21 i i x.toInt y.toInt z.toInt) ∨ ((0 : Int32).toInt = 0 ∧ ¬ cmO 22 i x.toInt y.toInt ∧ i = i) := (Or.inr ⟨rfl, fun q => by unfold cmO at q; omega, rfl⟩)
    exact sj_zret hx hb hr hlocks (by decide +kernel) hS i ⟨hO, (fun a ha => rfl), ⟨by decide, by decide⟩, hV_11⟩ hH (sj_Knil hK) (Nat.le_of_ble_eq_true rfl) (Nat.le_of_ble_eq_true rfl) dX8_append_29
  · skip
    have h_12 := s_ne (rfl : r_4.toInt = _) (show (0 : Int32).toInt = 0 from rfl) c_9
    refine lv_iload_n hx hb dX8_append_8 rfl (lv_at hl 2 rfl) ?_
    refine lv_if_lt (tgt := 28) hx hb dX8_append_9 (by decide) (fun c_13 => ?_) (fun c_13 => ?_)
    · skip
      have h_14 := s_lt (rfl : y.toInt = _) (show (0 : Int32).toInt = 0 from rfl) c_13
      refine lv_iconst (v := 0) hx hb dX8_append_28 (by decide) ?_
      have hV_15 : ((0 : Int32).toInt = 1 ∧ cmO 22 i x.toInt y.toInt ∧ cmA 22 20 21 i i x.toInt y.toInt z.toInt) ∨ ((0 : Int32).toInt = 0 ∧ ¬ cmO 22 i x.toInt y.toInt ∧ i = i) := (Or.inr ⟨rfl, fun q => by unfold cmO at q; omega, rfl⟩)
      exact sj_zret hx hb hr hlocks (by decide +kernel) hS i ⟨hO, (fun a ha => rfl), ⟨by decide, by decide⟩, hV_15⟩ hH (sj_Knil hK) (Nat.le_of_ble_eq_true rfl) (Nat.le_of_ble_eq_true rfl) dX8_append_29
    · skip
      have h_16 := s_nlt (rfl : y.toInt = _) (show (0 : Int32).toInt = 0 from rfl) c_13
      refine lv_iload_n hx hb dX8_append_12 rfl (lv_at hl 2 rfl) ?_
      refine lv_bipush (v := 8) hx hb dX8_append_13 (by decide) ?_
      refine lv_icmp_gt (tgt := 28) hx hb dX8_append_15 (by decide) (fun c_17 => ?_) (fun c_17 => ?_)
      · skip
        have h_18 := s_lt (show (8 : Int32).toInt = 8 from rfl) (rfl : y.toInt = _) c_17
        refine lv_iconst (v := 0) hx hb dX8_append_28 (by decide) ?_
        have hV_19 : ((0 : Int32).toInt = 1 ∧ cmO 22 i x.toInt y.toInt ∧ cmA 22 20 21 i i x.toInt y.toInt z.toInt) ∨ ((0 : Int32).toInt = 0 ∧ ¬ cmO 22 i x.toInt y.toInt ∧ i = i) := (Or.inr ⟨rfl, fun q => by unfold cmO at q; omega, rfl⟩)
        exact sj_zret hx hb hr hlocks (by decide +kernel) hS i ⟨hO, (fun a ha => rfl), ⟨by decide, by decide⟩, hV_19⟩ hH (sj_Knil hK) (Nat.le_of_ble_eq_true rfl) (Nat.le_of_ble_eq_true rfl) dX8_append_29
      · skip
        have h_20 := s_nlt (show (8 : Int32).toInt = 8 from rfl) (rfl : y.toInt = _) c_17
        refine lv_aload_n hx hb dX8_append_18 rfl (lv_at hl 0 rfl) ?_
        refine h_getr (ci := 8) (C := RX8) (F := TX8) (N := 3) hx hb hts in8 hown hK hH (by decide) (rfl : kd 19 = 8) (by decide) rfl 2 (by decide) wd0 (fun _ h9 => h9) (by decide) rfl (t := 22) (hR 19 2 rfl) (by decide) dX8_append_19 ?_
        refine lv_iload_n hx hb dX8_append_22 rfl (lv_at hl 1 rfl) ?_
        have bx_21 : (0 : Int) ≤ (i 22 (x.toInt).toNat).toInt ∧ (i 22 (x.toInt).toNat).toInt ≤ 4 := hO 22 (x.toInt).toNat
        refine h_iald hx hb hK hH (by decide) (rfl : kd 22 = 13) (s_vin (N := 8) (rfl : x.toInt = _) (rfl : ln 22 = 8) (by omega) (by omega)) dX8_append_23 ?_
        have ek_22 : x.toNatClampNeg = (x.toInt).toNat := (s_cl (show x.toInt = x.toInt by omega))
        refine sj_i (y := (i 22 (x.toInt).toNat)) (by rw [ek_22]) ?_
        refine lv_iconst (v := 4) hx hb dX8_append_24 (by decide) ?_
        refine lv_icmp_lt (tgt := 30) hx hb dX8_append_25 (by decide) (fun c_23 => ?_) (fun c_23 => ?_)
        · skip
          have h_24 := s_lt (rfl : (i 22 (x.toInt).toNat).toInt = _) (show (4 : Int32).toInt = 4 from rfl) c_23
          refine lv_iload_n hx hb dX8_append_30 rfl (lv_at hl 1 rfl) ?_
          refine lv_iconst (v := 4) hx hb dX8_append_31 (by decide) ?_
          refine lv_imul hx hb dX8_append_32 ?_
          obtain ⟨z_25, ez_25, hz_25⟩ := s_mul (rfl : x.toInt = _) (show (4 : Int32).toInt = 4 from rfl) (by omega) (by omega)
          refine sj_i ez_25 ?_
          refine lv_aload_n hx hb dX8_append_33 rfl (lv_at hl 0 rfl) ?_
          refine h_getr (ci := 8) (C := RX8) (F := TX8) (N := 3) hx hb hts in8 hown hK hH (by decide) (rfl : kd 19 = 8) (by decide) rfl 2 (by decide) wd0 (fun _ h9 => h9) (by decide) rfl (t := 22) (hR 19 2 rfl) (by decide) dX8_append_34 ?_
          refine lv_iload_n hx hb dX8_append_37 rfl (lv_at hl 1 rfl) ?_
          refine h_iald hx hb hK hH (by decide) (rfl : kd 22 = 13) (s_vin (N := 8) (rfl : x.toInt = _) (rfl : ln 22 = 8) (by omega) (by omega)) dX8_append_38 ?_
          have ek_26 : x.toNatClampNeg = (x.toInt).toNat := (s_cl (show x.toInt = x.toInt by omega))
          refine sj_i (y := (i 22 (x.toInt).toNat)) (by rw [ek_26]) ?_
          refine lv_iadd hx hb dX8_append_39 ?_
          obtain ⟨z_27, ez_27, hz_27⟩ := s_add (rfl : z_25.toInt = _) (rfl : (i 22 (x.toInt).toNat).toInt = _) (by omega) (by omega)
          refine sj_i ez_27 ?_
          refine lv_istore (lv' := [(4, .int z_27), (0, .ref (g 19)), (1, .int x), (2, .int y), (3, .int z)]) hx hb dX8_append_40 hl (by decide) rfl (fun ls hl => ?_)
          refine lv_aload_n hx hb dX8_append_42 rfl (lv_at hl 1 rfl) ?_
          refine h_getr (ci := 8) (C := RX8) (F := TX8) (N := 3) hx hb hts in8 hown hK hH (by decide) (rfl : kd 19 = 8) (by decide) rfl 0 (by decide) wd1 (fun _ h9 => h9) (by decide) rfl (t := 20) (hR 19 0 rfl) (by decide) dX8_append_43 ?_
          refine lv_iload hx hb dX8_append_46 (lv_at hl 0 rfl) ?_
          refine lv_iload_n hx hb dX8_append_48 rfl (lv_at hl 3 rfl) ?_
          have hO_28 := okp hO (n := 20) (k := ((i 22 (x.toInt).toNat).toInt + 4 * x.toInt).toNat) (v := y) (show (0 : Int) ≤ (y : Int32).toInt ∧ (y : Int32).toInt ≤ 8 from ⟨by omega, by omega⟩)
          refine h_iast hx hb hK hH hS (by decide) (rfl : kd 20 = 13) (s_vin (N := 32) (rfl : z_27.toInt = _) (rfl : ln 20 = 32) (by omega) (by omega)) dX8_append_49 (fun H locs hH hS => ?_)
          rw [s_cl (show z_27.toInt = (i 22 (x.toInt).toNat).toInt + 4 * x.toInt by omega)] at hH
          refine lv_aload_n hx hb dX8_append_50 rfl (lv_at hl 1 rfl) ?_
          refine h_getr (ci := 8) (C := RX8) (F := TX8) (N := 3) hx hb hts in8 hown hK hH (by decide) (rfl : kd 19 = 8) (by decide) rfl 1 (by decide) wd2 (fun _ h9 => h9) (by decide) rfl (t := 21) (hR 19 1 rfl) (by decide) dX8_append_51 ?_
          refine lv_iload hx hb dX8_append_54 (lv_at hl 0 rfl) ?_
          refine lv_iload_n hx hb dX8_append_56 rfl (lv_at hl 4 rfl) ?_
          have hO_29 := okp hO_28 (n := 21) (k := ((i 22 (x.toInt).toNat).toInt + 4 * x.toInt).toNat) (v := z) (show (-2147483648 : Int) ≤ (z : Int32).toInt ∧ (z : Int32).toInt ≤ 2147483647 from s_rng z)
          refine h_iast hx hb hK hH hS (by decide) (rfl : kd 21 = 13) (s_vin (N := 32) (rfl : z_27.toInt = _) (rfl : ln 21 = 32) (by omega) (by omega)) dX8_append_57 (fun H locs hH hS => ?_)
          rw [s_cl (show z_27.toInt = (i 22 (x.toInt).toNat).toInt + 4 * x.toInt by omega)] at hH
          refine lv_aload_n hx hb dX8_append_58 rfl (lv_at hl 1 rfl) ?_
          refine h_getr (ci := 8) (C := RX8) (F := TX8) (N := 3) hx hb hts in8 hown hK hH (by decide) (rfl : kd 19 = 8) (by decide) rfl 2 (by decide) wd0 (fun _ h9 => h9) (by decide) rfl (t := 22) (hR 19 2 rfl) (by decide) dX8_append_59 ?_
          refine lv_iload_n hx hb dX8_append_62 rfl (lv_at hl 2 rfl) ?_
          refine lv_dup2_11 hx hb dX8_append_63 rfl rfl ?_
          refine h_iald hx hb hK hH (by decide) (rfl : kd 22 = 13) (s_vin (N := 8) (rfl : x.toInt = _) (rfl : ln 22 = 8) (by omega) (by omega)) dX8_append_64 ?_
          have ek_30 : x.toNatClampNeg = (x.toInt).toNat := (s_cl (show x.toInt = x.toInt by omega))
          refine sj_i (y := (i 22 (x.toInt).toNat)) (by rw [ek_30]; exact ((congrFun (up2_n _ _ (by decide)) _).trans (congrFun (up2_n _ _ (by decide)) _))) ?_
          refine lv_iconst (v := 1) hx hb dX8_append_65 (by decide) ?_
          refine lv_iadd hx hb dX8_append_66 ?_
          obtain ⟨z_31, ez_31, hz_31⟩ := s_add (rfl : (i 22 (x.toInt).toNat).toInt = _) (show (1 : Int32).toInt = 1 from rfl) (by omega) (by omega)
          refine sj_i ez_31 ?_
          have hO_32 := okp hO_29 (n := 22) (k := (x.toInt).toNat) (v := z_31) (show (0 : Int) ≤ (z_31 : Int32).toInt ∧ (z_31 : Int32).toInt ≤ 4 from ⟨by omega, by omega⟩)
          refine h_iast hx hb hK hH hS (by decide) (rfl : kd 22 = 13) (s_vin (N := 8) (rfl : x.toInt = _) (rfl : ln 22 = 8) (by omega) (by omega)) dX8_append_67 (fun H locs hH hS => ?_)
          rw [s_cl (show x.toInt = x.toInt by omega)] at hH
          refine lv_iconst (v := 1) hx hb dX8_append_68 (by decide) ?_
          have hpz : ((i 22 (x.toInt).toNat).toInt + 4 * x.toInt).toNat = (4 * x.toInt + (i 22 (x.toInt).toNat).toInt).toNat := by omega
          have hpk : (x.toInt).toNat = (x.toInt).toNat := by omega
          have hV_33 : ((1 : Int32).toInt = 1 ∧ cmO 22 i x.toInt y.toInt ∧ cmA 22 20 21 i (up2 (up2 (up2 i 20 ((i 22 (x.toInt).toNat).toInt + 4 * x.toInt).toNat y) 21 ((i 22 (x.toInt).toNat).toInt + 4 * x.toInt).toNat z) 22 (x.toInt).toNat z_31) x.toInt y.toInt z.toInt) ∨ ((1 : Int32).toInt = 0 ∧ ¬ cmO 22 i x.toInt y.toInt ∧ (up2 (up2 (up2 i 20 ((i 22 (x.toInt).toNat).toInt + 4 * x.toInt).toNat y) 21 ((i 22 (x.toInt).toNat).toInt + 4 * x.toInt).toNat z) 22 (x.toInt).toNat z_31) = i) := (Or.inl ⟨rfl, by unfold cmO; omega, ⟨(by rw [← hpk]; exact (congrArg Int32.toInt ((up2_at _ _ _ _))).trans (by omega)), (by rw [← hpz]; exact (congrArg Int32.toInt (((congrFun (up2_n _ _ (by decide)) _).trans ((congrFun (up2_n _ _ (by decide)) _).trans (up2_at _ _ _ _))))).trans (by omega)), (by rw [← hpz]; exact (congrArg Int32.toInt (((congrFun (up2_n _ _ (by decide)) _).trans (up2_at _ _ _ _)))).trans (by omega)), fun k hk => (by rw [← hpk] at hk; exact ((up2_k _ _ (by omega)).trans ((congrFun (up2_n _ _ (by omega)) _).trans (congrFun (up2_n _ _ (by omega)) _)))), fun k hk => (by rw [← hpz] at hk; exact ⟨((congrFun (up2_n _ _ (by omega)) _).trans ((congrFun (up2_n _ _ (by omega)) _).trans (up2_k _ _ (by omega)))), ((congrFun (up2_n _ _ (by omega)) _).trans ((up2_k _ _ (by omega)).trans (congrFun (up2_n _ _ (by omega)) _)))⟩)⟩⟩)
          exact sj_zret hx hb hr hlocks (by decide +kernel) hS (up2 (up2 (up2 i 20 ((i 22 (x.toInt).toNat).toInt + 4 * x.toInt).toNat y) 21 ((i 22 (x.toInt).toNat).toInt + 4 * x.toInt).toNat z) 22 (x.toInt).toNat z_31) ⟨hO_32, (fun a ha => ((up2_n _ _ (by omega)).trans ((up2_n _ _ (by omega)).trans (up2_n _ _ (by omega))))), ⟨by decide, by decide⟩, hV_33⟩ hH (sj_Knil hK) (Nat.le_of_ble_eq_true rfl) (Nat.le_of_ble_eq_true rfl) dX8_append_69
        · skip
          have h_34 := s_nlt (rfl : (i 22 (x.toInt).toNat).toInt = _) (show (4 : Int32).toInt = 4 from rfl) c_23
          refine lv_iconst (v := 0) hx hb dX8_append_28 (by decide) ?_
          have hV_35 : ((0 : Int32).toInt = 1 ∧ cmO 22 i x.toInt y.toInt ∧ cmA 22 20 21 i i x.toInt y.toInt z.toInt) ∨ ((0 : Int32).toInt = 0 ∧ ¬ cmO 22 i x.toInt y.toInt ∧ i = i) := (Or.inr ⟨rfl, fun q => by unfold cmO at q; omega, rfl⟩)
          exact sj_zret hx hb hr hlocks (by decide +kernel) hS i ⟨hO, (fun a ha => rfl), ⟨by decide, by decide⟩, hV_35⟩ hH (sj_Knil hK) (Nat.le_of_ble_eq_true rfl) (Nat.le_of_ble_eq_true rfl) dX8_append_29
set_option maxHeartbeats 2000000 in
set_option maxRecDepth 100000 in
theorem kv_command (l : Launch) (D : va_G) (g : Nat → Nat) (ka : Nat → ClassId) (ad : Nat → Nat) (i : Nat → Nat → Int32) (r : Nat → Nat → Nat) (L : Nat → Nat → Int64) (d : Nat → Nat → UInt64) (x : Int32) (y : Int32) (z : Int32) (hO : OkI i) (hR : RS r) (sz : Nat)  : Met l yX11_command wsX11_command ({ frames := 2, cells := 0, slots := 0, locals := 45 }) (va_Pc [.ref (g 0), .int x, .int y, .int z] (sj_B D (hwc g ka i r L d) (hT ka) sz (gx ad (va_A (hwc g ka i r L d) sz)))) (sj_Qi (S := (Nat → Nat → Int32)) D (fun v u => OkI u ∧ (∀ a, ¬ (a = 20 ∨ a = 21 ∨ a = 22) → u a = i a) ∧ ((0 : Int) ≤ v.toInt ∧ v.toInt ≤ 1) ∧ ((v.toInt = 1 ∧ ((i 23 8).toInt = 0 ∧ cmO 22 i x.toInt y.toInt) ∧ cmA 22 20 21 i u x.toInt y.toInt z.toInt) ∨ (v.toInt = 0 ∧ ¬ ((i 23 8).toInt = 0 ∧ cmO 22 i x.toInt y.toInt) ∧ u = i))) (fun u => hwc g ka u r L d) (fun _ => []) (va_A (hwc g ka i r L d) sz)) 0 0 (va_A (hwc g ka i r L d) sz) := by
  refine x_met (Ex := gx ad) (cc := cX11_command) (maxL := 4) (ret := (some .boolean)) (by decide) rfl (Nat.le_of_ble_eq_true rfl) ?_
  intro p e s m below meth c A ls hx hb hr hml hts hown hlocks hA hS hH hK hE hl
  have hown : s.vm.findClass RX11 = some m.cls := hown
  have in7 : ∀ w ∈ wsX70, w ∈ wsX11_command := (fun _ h => (List.mem_cons_of_mem _ (List.mem_append_left _ (List.mem_append_right _ h))))
  have in11 : ∀ w ∈ wsX110, w ∈ wsX11_command := (fun _ h => (List.mem_cons_of_mem _ (List.mem_append_left _ (List.mem_append_left _ (List.mem_append_right _ h)))))
  have wd0 := hts (.fieldLink RX11 44 "StoryDesk" "run" "LStoryDesk$Run;") (List.mem_cons_of_mem _ (List.mem_append_left _ (List.mem_append_left _ (List.mem_append_left _ lm0))))
  have wd1 := hts (.fieldLink RX11 88 "StoryDesk$Run" "underWay" "Z") (List.mem_cons_of_mem _ (List.mem_append_left _ (List.mem_append_left _ (List.mem_append_left _ lm1))))
  have wd2 := hts (.fieldLink RX11 37 "StoryDesk" "scripts" "LStoryDesk$Scripts;") (List.mem_cons_of_mem _ (List.mem_append_left _ (List.mem_append_left _ (List.mem_append_left _ lm2))))
  have hl : lv_has ls 4 [(0, .ref (g 0)), (1, .int x), (2, .int y), (3, .int z)] := hl
  have hK : va_K D vwCl (hT ka) s := hK
  have hg_1 := s_rng x
  have hg_2 := s_rng y
  have hg_3 := s_rng z
  have hbu8 : (0 : Int) ≤ (i 23 8).toInt ∧ (i 23 8).toInt ≤ 1 := hO 23 8
  refine lv_aload_n hx hb dX11_command_0 rfl (lv_at hl 0 rfl) ?_
  refine h_getr (ci := 11) (C := RX11) (F := TX11) (N := 14) hx hb hts in11 hown hK hH (by decide) (rfl : kd 0 = 11) (by decide) rfl 4 (by decide) wd0 (fun _ h9 => h9) (by decide) rfl (t := 23) (hR 0 4 rfl) (by decide) dX11_command_1 ?_
  have bx_4 : (0 : Int) ≤ (i 23 8).toInt ∧ (i 23 8).toInt ≤ 1 := hO 23 8
  refine h_geti (ci := 7) (C := RX7) (F := TX7) (N := 11) hx hb hts in7 hown hK hH (by decide) (rfl : kd 23 = 7) (by decide) rfl 8 (by decide) wd1 (fun _ h9 => h9) (by decide) rfl dX11_command_4 ?_
  refine lv_if_ne (tgt := 27) hx hb dX11_command_7 (by decide) (fun c_5 => ?_) (fun c_5 => ?_)
  · skip
    have h_6 := s_ne (rfl : (i 23 8).toInt = _) (show (0 : Int32).toInt = 0 from rfl) c_5
    refine lv_iconst (v := 0) hx hb dX11_command_27 (by decide) ?_
    have hV_7 : ((0 : Int32).toInt = 1 ∧ ((i 23 8).toInt = 0 ∧ cmO 22 i x.toInt y.toInt) ∧ cmA 22 20 21 i i x.toInt y.toInt z.toInt) ∨ ((0 : Int32).toInt = 0 ∧ ¬ ((i 23 8).toInt = 0 ∧ cmO 22 i x.toInt y.toInt) ∧ i = i) := (Or.inr ⟨rfl, fun q => by have := q.1; omega, rfl⟩)
    exact sj_zret hx hb hr hlocks (by decide +kernel) hS i ⟨hO, (fun a ha => rfl), ⟨by decide, by decide⟩, hV_7⟩ hH (sj_Knil hK) (Nat.le_of_ble_eq_true rfl) (Nat.le_of_ble_eq_true rfl) dX11_command_28
  · skip
    have h_8 := s_eq (rfl : (i 23 8).toInt = _) (show (0 : Int32).toInt = 0 from rfl) c_5
    refine lv_aload_n hx hb dX11_command_10 rfl (lv_at hl 0 rfl) ?_
    refine h_getr (ci := 11) (C := RX11) (F := TX11) (N := 14) hx hb hts in11 hown hK hH (by decide) (rfl : kd 0 = 11) (by decide) rfl 3 (by decide) wd2 (fun _ h9 => h9) (by decide) rfl (t := 19) (hR 0 3 rfl) (by decide) dX11_command_11 ?_
    refine lv_iload_n hx hb dX11_command_14 rfl (lv_at hl 1 rfl) ?_
    refine lv_iload_n hx hb dX11_command_15 rfl (lv_at hl 2 rfl) ?_
    refine lv_iload_n hx hb dX11_command_16 rfl (lv_at hl 3 rfl) ?_
    refine x_calli (va_runV (As := [.int x, .int y, .int z]) (rest := []) ⟨hx, hb, hml, hown, hts⟩ (kv_append l D g ka ad i r L d x y z hO hR s.heap.size ) (cwV 3 hts gX11_command_X8_append rfl rfl rfl (by decide +kernel) ⟨(Nat.le_of_ble_eq_true rfl), (Nat.le_of_ble_eq_true rfl)⟩) (x_preV (q := (RX8, TX8, 3)) hH hK (q_obj (by decide) (rfl : kd 19 = 8) (by decide)) rfl gxb (gxw hE hS (x_F hH hS hA))) rfl rfl hl.1 rfl (lv_room (Nat.le_of_ble_eq_true rfl)) dX11_command_17 ⟨(Nat.le_of_ble_eq_true rfl), (Nat.le_of_ble_eq_true rfl)⟩) hH hS hA rfl rfl (fun r_9 im_11 H locs hw_10 hH hS => ?_)
    have hH : sj_H D A (hwc g ka im_11 r L d) H := hH
    obtain ⟨hO_13, hfr_12, hr_14, hx2_15⟩ := hw_10
    have hr_14 : (0 : Int) ≤ r_9.toInt ∧ r_9.toInt ≤ 1 := hr_14
    refine lv_if_eq (tgt := 27) hx hb dX11_command_20 (by decide) (fun c_16 => ?_) (fun c_16 => ?_)
    · skip
      have h_17 := s_eq (rfl : r_9.toInt = _) (show (0 : Int32).toInt = 0 from rfl) c_16
      refine lv_iconst (v := 0) hx hb dX11_command_27 (by decide) ?_
      have hV_18 : ((0 : Int32).toInt = 1 ∧ ((i 23 8).toInt = 0 ∧ cmO 22 i x.toInt y.toInt) ∧ cmA 22 20 21 i im_11 x.toInt y.toInt z.toInt) ∨ ((0 : Int32).toInt = 0 ∧ ¬ ((i 23 8).toInt = 0 ∧ cmO 22 i x.toInt y.toInt) ∧ im_11 = i) := (hx2_15.elim (fun q => by have := q.1; omega) (fun q => Or.inr ⟨rfl, fun z => q.2.1 z.2, q.2.2⟩))
      exact sj_zret hx hb hr hlocks (by decide +kernel) hS im_11 ⟨hO_13, (fun a ha => (hfr_12 a (by omega))), ⟨by decide, by decide⟩, hV_18⟩ hH (sj_Knil hK) (Nat.le_of_ble_eq_true rfl) (Nat.le_of_ble_eq_true rfl) dX11_command_28
    · skip
      have h_19 := s_ne (rfl : r_9.toInt = _) (show (0 : Int32).toInt = 0 from rfl) c_16
      refine lv_iconst (v := 1) hx hb dX11_command_23 (by decide) ?_
      refine lv_goto (tgt := 28) hx hb dX11_command_24 (by decide) ?_
      have hV_20 : ((1 : Int32).toInt = 1 ∧ ((i 23 8).toInt = 0 ∧ cmO 22 i x.toInt y.toInt) ∧ cmA 22 20 21 i im_11 x.toInt y.toInt z.toInt) ∨ ((1 : Int32).toInt = 0 ∧ ¬ ((i 23 8).toInt = 0 ∧ cmO 22 i x.toInt y.toInt) ∧ im_11 = i) := (hx2_15.elim (fun q => Or.inl ⟨rfl, ⟨by omega, q.2.1⟩, q.2.2⟩) (fun q => by have := q.1; omega))
      exact sj_zret hx hb hr hlocks (by decide +kernel) hS im_11 ⟨hO_13, (fun a ha => (hfr_12 a (by omega))), ⟨by decide, by decide⟩, hV_20⟩ hH (sj_Knil hK) (Nat.le_of_ble_eq_true rfl) (Nat.le_of_ble_eq_true rfl) dX11_command_28
set_option maxHeartbeats 2000000 in
set_option maxRecDepth 100000 in
theorem kv_look (l : Launch) (D : va_G) (g : Nat → Nat) (ka : Nat → ClassId) (ad : Nat → Nat) (i : Nat → Nat → Int32) (r : Nat → Nat → Nat) (L : Nat → Nat → Int64) (d : Nat → Nat → UInt64) (x : Int32) (hO : OkI i) (hR : RS r) (sz : Nat)  : Met l yX11_look wsX11_look ({ frames := 0, cells := 0, slots := 0, locals := 0 }) (va_Pc [.ref (g 0), .int x] (sj_B D (hwc g ka i r L d) (hT ka) sz (gx ad (va_A (hwc g ka i r L d) sz)))) (sj_Qi (S := Unit) D (fun v u => ((x.toInt = 0 ∧ v.toInt = (i 23 8).toInt) ∨ (x.toInt = 1 ∧ v.toInt = (i 1 1).toInt) ∨ (x.toInt = 2 ∧ v.toInt = (i 13 4).toInt) ∨ (x.toInt = 3 ∧ v.toInt = (i 0 7).toInt) ∨ (x.toInt = 4 ∧ v.toInt = (i 0 11).toInt) ∨ (x.toInt = 5 ∧ v.toInt = (i 3 1).toInt) ∨ (x.toInt = 6 ∧ v.toInt = (i 23 10).toInt) ∨ (x.toInt = 7 ∧ v.toInt = (i 3 4).toInt) ∨ ((x.toInt < 0 ∨ 7 < x.toInt) ∧ v.toInt = -1))) (fun _ => hwc g ka i r L d) (fun _ => []) (va_A (hwc g ka i r L d) sz)) 0 0 (va_A (hwc g ka i r L d) sz) := by
  refine x_met (Ex := gx ad) (cc := cX11_look) (maxL := 2) (ret := (some .int)) (by decide) rfl (Nat.le_of_ble_eq_true rfl) ?_
  intro p e s m below meth c A ls hx hb hr hml hts hown hlocks hA hS hH hK hE hl
  have hown : s.vm.findClass RX11 = some m.cls := hown
  have in1 : ∀ w ∈ wsX10, w ∈ wsX11_look := (fun _ h => (List.mem_cons_of_mem _ (List.mem_append_left _ (List.mem_append_right _ h))))
  have in3 : ∀ w ∈ wsX30, w ∈ wsX11_look := (fun _ h => (List.mem_cons_of_mem _ (List.mem_append_left _ (List.mem_append_left _ (List.mem_append_right _ h)))))
  have in5 : ∀ w ∈ wsX50, w ∈ wsX11_look := (fun _ h => (List.mem_cons_of_mem _ (List.mem_append_right _ h)))
  have in7 : ∀ w ∈ wsX70, w ∈ wsX11_look := (fun _ h => (List.mem_cons_of_mem _ (List.mem_append_left _ (List.mem_append_left _ (List.mem_append_left _ (List.mem_append_right _ h))))))
  have in11 : ∀ w ∈ wsX110, w ∈ wsX11_look := (fun _ h => (List.mem_cons_of_mem _ (List.mem_append_left _ (List.mem_append_left _ (List.mem_append_left _ (List.mem_append_left _ (List.mem_append_right _ h)))))))
  have wd0 := hts (.fieldLink RX11 44 "StoryDesk" "run" "LStoryDesk$Run;") (List.mem_cons_of_mem _ (List.mem_append_left _ (List.mem_append_left _ (List.mem_append_left _ (List.mem_append_left _ (List.mem_append_left _ lm0))))))
  have wd1 := hts (.fieldLink RX11 88 "StoryDesk$Run" "underWay" "Z") (List.mem_cons_of_mem _ (List.mem_append_left _ (List.mem_append_left _ (List.mem_append_left _ (List.mem_append_left _ (List.mem_append_left _ lm1))))))
  have wd2 := hts (.fieldLink RX11 14 "StoryDesk" "text" "LStoryDesk$Letters;") (List.mem_cons_of_mem _ (List.mem_append_left _ (List.mem_append_left _ (List.mem_append_left _ (List.mem_append_left _ (List.mem_append_left _ lm2))))))
  have wd3 := hts (.fieldLink RX11 80 "StoryDesk$Letters" "length" "I") (List.mem_cons_of_mem _ (List.mem_append_left _ (List.mem_append_left _ (List.mem_append_left _ (List.mem_append_left _ (List.mem_append_left _ lm3))))))
  have wd4 := hts (.fieldLink RX11 30 "StoryDesk" "cases" "LStoryDesk$Cases;") (List.mem_cons_of_mem _ (List.mem_append_left _ (List.mem_append_left _ (List.mem_append_left _ (List.mem_append_left _ (List.mem_append_left _ lm4))))))
  have wd5 := hts (.fieldLink RX11 134 "StoryDesk$Cases" "count" "I") (List.mem_cons_of_mem _ (List.mem_append_left _ (List.mem_append_left _ (List.mem_append_left _ (List.mem_append_left _ (List.mem_append_left _ lm5))))))
  have wd6 := hts (.fieldLink RX11 114 "StoryDesk" "definitionCount" "I") (List.mem_cons_of_mem _ (List.mem_append_left _ (List.mem_append_left _ (List.mem_append_left _ (List.mem_append_left _ (List.mem_append_left _ lm6))))))
  have wd7 := hts (.fieldLink RX11 130 "StoryDesk" "hookCount" "I") (List.mem_cons_of_mem _ (List.mem_append_left _ (List.mem_append_left _ (List.mem_append_left _ (List.mem_append_left _ (List.mem_append_left _ lm7))))))
  have wd8 := hts (.fieldLink RX11 21 "StoryDesk" "reading" "LStoryDesk$Reading;") (List.mem_cons_of_mem _ (List.mem_append_left _ (List.mem_append_left _ (List.mem_append_left _ (List.mem_append_left _ (List.mem_append_left _ lm8))))))
  have wd9 := hts (.fieldLink RX11 266 "StoryDesk$Reading" "dialect" "I") (List.mem_cons_of_mem _ (List.mem_append_left _ (List.mem_append_left _ (List.mem_append_left _ (List.mem_append_left _ (List.mem_append_left _ lm9))))))
  have wd10 := hts (.fieldLink RX11 269 "StoryDesk$Run" "eventCount" "I") (List.mem_cons_of_mem _ (List.mem_append_left _ (List.mem_append_left _ (List.mem_append_left _ (List.mem_append_left _ (List.mem_append_left _ lm10))))))
  have wd11 := hts (.fieldLink RX11 102 "StoryDesk$Reading" "errors" "I") (List.mem_cons_of_mem _ (List.mem_append_left _ (List.mem_append_left _ (List.mem_append_left _ (List.mem_append_left _ (List.mem_append_left _ lm11))))))
  have hl : lv_has ls 2 [(0, .ref (g 0)), (1, .int x)] := hl
  have hK : va_K D vwCl (hT ka) s := hK
  have hg_1 := s_rng x
  have hbu8 : (0 : Int) ≤ (i 23 8).toInt ∧ (i 23 8).toInt ≤ 1 := hO 23 8
  refine lv_iload_n hx hb dX11_look_0 rfl (lv_at hl 1 rfl) ?_
  by_cases h_2 : (x).toInt < 0 ∨ 7 < (x).toInt
  · skip
    refine lv_tableOut (tgt := 114) hx hb dX11_look_1 h_2 (by decide) ?_
    refine lv_iconst (v := (-1)) hx hb dX11_look_114 (by decide) ?_
    have hlv_3 : ((-1) : Int32).toInt = -1 := rfl
    have hV_4 : (x.toInt = 0 ∧ ((-1) : Int32).toInt = (i 23 8).toInt) ∨ (x.toInt = 1 ∧ ((-1) : Int32).toInt = (i 1 1).toInt) ∨ (x.toInt = 2 ∧ ((-1) : Int32).toInt = (i 13 4).toInt) ∨ (x.toInt = 3 ∧ ((-1) : Int32).toInt = (i 0 7).toInt) ∨ (x.toInt = 4 ∧ ((-1) : Int32).toInt = (i 0 11).toInt) ∨ (x.toInt = 5 ∧ ((-1) : Int32).toInt = (i 3 1).toInt) ∨ (x.toInt = 6 ∧ ((-1) : Int32).toInt = (i 23 10).toInt) ∨ (x.toInt = 7 ∧ ((-1) : Int32).toInt = (i 3 4).toInt) ∨ ((x.toInt < 0 ∨ 7 < x.toInt) ∧ ((-1) : Int32).toInt = -1) := (Or.inr (Or.inr (Or.inr (Or.inr (Or.inr (Or.inr (Or.inr (Or.inr (⟨by omega, by omega⟩)))))))))
    exact sj_zret hx hb hr hlocks rfl hS () hV_4 hH (sj_Knil hK) (Nat.le_of_ble_eq_true rfl) (Nat.le_of_ble_eq_true rfl) dX11_look_115
  · skip
    rcases (show (x).toInt = 0 ∨ (x).toInt = 1 ∨ (x).toInt = 2 ∨ (x).toInt = 3 ∨ (x).toInt = 4 ∨ (x).toInt = 5 ∨ (x).toInt = 6 ∨ (x).toInt = 7 by omega) with hh_2 | hh_2 | hh_2 | hh_2 | hh_2 | hh_2 | hh_2 | hh_2
    · skip
      refine lv_tableIn (tgt := 48) hx hb dX11_look_1 (by omega) (by omega) (by rw [hh_2]; rfl) (by decide) ?_
      refine lv_aload_n hx hb dX11_look_48 rfl (lv_at hl 0 rfl) ?_
      refine h_getr (ci := 11) (C := RX11) (F := TX11) (N := 14) hx hb hts in11 hown hK hH (by decide) (rfl : kd 0 = 11) (by decide) rfl 4 (by decide) wd0 (fun _ h9 => h9) (by decide) rfl (t := 23) (hR 0 4 rfl) (by decide) dX11_look_49 ?_
      have bx_5 : (0 : Int) ≤ (i 23 8).toInt ∧ (i 23 8).toInt ≤ 1 := hO 23 8
      refine h_geti (ci := 7) (C := RX7) (F := TX7) (N := 11) hx hb hts in7 hown hK hH (by decide) (rfl : kd 23 = 7) (by decide) rfl 8 (by decide) wd1 (fun _ h9 => h9) (by decide) rfl dX11_look_52 ?_
      refine lv_if_eq (tgt := 62) hx hb dX11_look_55 (by decide) (fun c_6 => ?_) (fun c_6 => ?_)
      · skip
        have h_7 := s_eq (rfl : (i 23 8).toInt = _) (show (0 : Int32).toInt = 0 from rfl) c_6
        refine lv_iconst (v := 0) hx hb dX11_look_62 (by decide) ?_
        have hlv_8 : (0 : Int32).toInt = 0 := rfl
        have hV_9 : (x.toInt = 0 ∧ (0 : Int32).toInt = (i 23 8).toInt) ∨ (x.toInt = 1 ∧ (0 : Int32).toInt = (i 1 1).toInt) ∨ (x.toInt = 2 ∧ (0 : Int32).toInt = (i 13 4).toInt) ∨ (x.toInt = 3 ∧ (0 : Int32).toInt = (i 0 7).toInt) ∨ (x.toInt = 4 ∧ (0 : Int32).toInt = (i 0 11).toInt) ∨ (x.toInt = 5 ∧ (0 : Int32).toInt = (i 3 1).toInt) ∨ (x.toInt = 6 ∧ (0 : Int32).toInt = (i 23 10).toInt) ∨ (x.toInt = 7 ∧ (0 : Int32).toInt = (i 3 4).toInt) ∨ ((x.toInt < 0 ∨ 7 < x.toInt) ∧ (0 : Int32).toInt = -1) := (Or.inl ⟨by omega, by omega⟩)
        exact sj_zret hx hb hr hlocks rfl hS () hV_9 hH (sj_Knil hK) (Nat.le_of_ble_eq_true rfl) (Nat.le_of_ble_eq_true rfl) dX11_look_63
      · skip
        have h_10 := s_ne (rfl : (i 23 8).toInt = _) (show (0 : Int32).toInt = 0 from rfl) c_6
        refine lv_iconst (v := 1) hx hb dX11_look_58 (by decide) ?_
        refine lv_goto (tgt := 63) hx hb dX11_look_59 (by decide) ?_
        have hlv_11 : (1 : Int32).toInt = 1 := rfl
        have hV_12 : (x.toInt = 0 ∧ (1 : Int32).toInt = (i 23 8).toInt) ∨ (x.toInt = 1 ∧ (1 : Int32).toInt = (i 1 1).toInt) ∨ (x.toInt = 2 ∧ (1 : Int32).toInt = (i 13 4).toInt) ∨ (x.toInt = 3 ∧ (1 : Int32).toInt = (i 0 7).toInt) ∨ (x.toInt = 4 ∧ (1 : Int32).toInt = (i 0 11).toInt) ∨ (x.toInt = 5 ∧ (1 : Int32).toInt = (i 3 1).toInt) ∨ (x.toInt = 6 ∧ (1 : Int32).toInt = (i 23 10).toInt) ∨ (x.toInt = 7 ∧ (1 : Int32).toInt = (i 3 4).toInt) ∨ ((x.toInt < 0 ∨ 7 < x.toInt) ∧ (1 : Int32).toInt = -1) := (Or.inl ⟨by omega, by omega⟩)
        exact sj_zret hx hb hr hlocks rfl hS () hV_12 hH (sj_Knil hK) (Nat.le_of_ble_eq_true rfl) (Nat.le_of_ble_eq_true rfl) dX11_look_63
    · skip
      refine lv_tableIn (tgt := 64) hx hb dX11_look_1 (by omega) (by omega) (by rw [hh_2]; rfl) (by decide) ?_
      refine lv_aload_n hx hb dX11_look_64 rfl (lv_at hl 0 rfl) ?_
      refine h_getr (ci := 11) (C := RX11) (F := TX11) (N := 14) hx hb hts in11 hown hK hH (by decide) (rfl : kd 0 = 11) (by decide) rfl 0 (by decide) wd2 (fun _ h9 => h9) (by decide) rfl (t := 1) (hR 0 0 rfl) (by decide) dX11_look_65 ?_
      have bx_13 : (0 : Int) ≤ (i 1 1).toInt ∧ (i 1 1).toInt ≤ 480 := hO 1 1
      refine h_geti (ci := 3) (C := RX3) (F := TX3) (N := 2) hx hb hts in3 hown hK hH (by decide) (rfl : kd 1 = 3) (by decide) rfl 1 (by decide) wd3 (fun _ h9 => h9) (by decide) rfl dX11_look_68 ?_
      have hV_14 : (x.toInt = 0 ∧ ((i 1 1) : Int32).toInt = (i 23 8).toInt) ∨ (x.toInt = 1 ∧ ((i 1 1) : Int32).toInt = (i 1 1).toInt) ∨ (x.toInt = 2 ∧ ((i 1 1) : Int32).toInt = (i 13 4).toInt) ∨ (x.toInt = 3 ∧ ((i 1 1) : Int32).toInt = (i 0 7).toInt) ∨ (x.toInt = 4 ∧ ((i 1 1) : Int32).toInt = (i 0 11).toInt) ∨ (x.toInt = 5 ∧ ((i 1 1) : Int32).toInt = (i 3 1).toInt) ∨ (x.toInt = 6 ∧ ((i 1 1) : Int32).toInt = (i 23 10).toInt) ∨ (x.toInt = 7 ∧ ((i 1 1) : Int32).toInt = (i 3 4).toInt) ∨ ((x.toInt < 0 ∨ 7 < x.toInt) ∧ ((i 1 1) : Int32).toInt = -1) := (Or.inr (Or.inl ⟨by omega, by omega⟩))
      exact sj_zret hx hb hr hlocks rfl hS () hV_14 hH (sj_Knil hK) (Nat.le_of_ble_eq_true rfl) (Nat.le_of_ble_eq_true rfl) dX11_look_71
    · skip
      refine lv_tableIn (tgt := 72) hx hb dX11_look_1 (by omega) (by omega) (by rw [hh_2]; rfl) (by decide) ?_
      refine lv_aload_n hx hb dX11_look_72 rfl (lv_at hl 0 rfl) ?_
      refine h_getr (ci := 11) (C := RX11) (F := TX11) (N := 14) hx hb hts in11 hown hK hH (by decide) (rfl : kd 0 = 11) (by decide) rfl 2 (by decide) wd4 (fun _ h9 => h9) (by decide) rfl (t := 13) (hR 0 2 rfl) (by decide) dX11_look_73 ?_
      have bx_15 : (0 : Int) ≤ (i 13 4).toInt ∧ (i 13 4).toInt ≤ 24 := hO 13 4
      refine h_geti (ci := 1) (C := RX1) (F := TX1) (N := 5) hx hb hts in1 hown hK hH (by decide) (rfl : kd 13 = 1) (by decide) rfl 4 (by decide) wd5 (fun _ h9 => h9) (by decide) rfl dX11_look_76 ?_
      have hV_16 : (x.toInt = 0 ∧ ((i 13 4) : Int32).toInt = (i 23 8).toInt) ∨ (x.toInt = 1 ∧ ((i 13 4) : Int32).toInt = (i 1 1).toInt) ∨ (x.toInt = 2 ∧ ((i 13 4) : Int32).toInt = (i 13 4).toInt) ∨ (x.toInt = 3 ∧ ((i 13 4) : Int32).toInt = (i 0 7).toInt) ∨ (x.toInt = 4 ∧ ((i 13 4) : Int32).toInt = (i 0 11).toInt) ∨ (x.toInt = 5 ∧ ((i 13 4) : Int32).toInt = (i 3 1).toInt) ∨ (x.toInt = 6 ∧ ((i 13 4) : Int32).toInt = (i 23 10).toInt) ∨ (x.toInt = 7 ∧ ((i 13 4) : Int32).toInt = (i 3 4).toInt) ∨ ((x.toInt < 0 ∨ 7 < x.toInt) ∧ ((i 13 4) : Int32).toInt = -1) := (Or.inr (Or.inr (Or.inl ⟨by omega, by omega⟩)))
      exact sj_zret hx hb hr hlocks rfl hS () hV_16 hH (sj_Knil hK) (Nat.le_of_ble_eq_true rfl) (Nat.le_of_ble_eq_true rfl) dX11_look_79
    · skip
      refine lv_tableIn (tgt := 80) hx hb dX11_look_1 (by omega) (by omega) (by rw [hh_2]; rfl) (by decide) ?_
      refine lv_aload_n hx hb dX11_look_80 rfl (lv_at hl 0 rfl) ?_
      have bx_17 : (0 : Int) ≤ (i 0 7).toInt ∧ (i 0 7).toInt ≤ 12 := hO 0 7
      refine h_geti (ci := 11) (C := RX11) (F := TX11) (N := 14) hx hb hts in11 hown hK hH (by decide) (rfl : kd 0 = 11) (by decide) rfl 7 (by decide) wd6 (fun _ h9 => h9) (by decide) rfl dX11_look_81 ?_
      have hV_18 : (x.toInt = 0 ∧ ((i 0 7) : Int32).toInt = (i 23 8).toInt) ∨ (x.toInt = 1 ∧ ((i 0 7) : Int32).toInt = (i 1 1).toInt) ∨ (x.toInt = 2 ∧ ((i 0 7) : Int32).toInt = (i 13 4).toInt) ∨ (x.toInt = 3 ∧ ((i 0 7) : Int32).toInt = (i 0 7).toInt) ∨ (x.toInt = 4 ∧ ((i 0 7) : Int32).toInt = (i 0 11).toInt) ∨ (x.toInt = 5 ∧ ((i 0 7) : Int32).toInt = (i 3 1).toInt) ∨ (x.toInt = 6 ∧ ((i 0 7) : Int32).toInt = (i 23 10).toInt) ∨ (x.toInt = 7 ∧ ((i 0 7) : Int32).toInt = (i 3 4).toInt) ∨ ((x.toInt < 0 ∨ 7 < x.toInt) ∧ ((i 0 7) : Int32).toInt = -1) := (Or.inr (Or.inr (Or.inr (Or.inl ⟨by omega, by omega⟩))))
      exact sj_zret hx hb hr hlocks rfl hS () hV_18 hH (sj_Knil hK) (Nat.le_of_ble_eq_true rfl) (Nat.le_of_ble_eq_true rfl) dX11_look_84
    · skip
      refine lv_tableIn (tgt := 85) hx hb dX11_look_1 (by omega) (by omega) (by rw [hh_2]; rfl) (by decide) ?_
      refine lv_aload_n hx hb dX11_look_85 rfl (lv_at hl 0 rfl) ?_
      have bx_19 : (0 : Int) ≤ (i 0 11).toInt ∧ (i 0 11).toInt ≤ 8 := hO 0 11
      refine h_geti (ci := 11) (C := RX11) (F := TX11) (N := 14) hx hb hts in11 hown hK hH (by decide) (rfl : kd 0 = 11) (by decide) rfl 11 (by decide) wd7 (fun _ h9 => h9) (by decide) rfl dX11_look_86 ?_
      have hV_20 : (x.toInt = 0 ∧ ((i 0 11) : Int32).toInt = (i 23 8).toInt) ∨ (x.toInt = 1 ∧ ((i 0 11) : Int32).toInt = (i 1 1).toInt) ∨ (x.toInt = 2 ∧ ((i 0 11) : Int32).toInt = (i 13 4).toInt) ∨ (x.toInt = 3 ∧ ((i 0 11) : Int32).toInt = (i 0 7).toInt) ∨ (x.toInt = 4 ∧ ((i 0 11) : Int32).toInt = (i 0 11).toInt) ∨ (x.toInt = 5 ∧ ((i 0 11) : Int32).toInt = (i 3 1).toInt) ∨ (x.toInt = 6 ∧ ((i 0 11) : Int32).toInt = (i 23 10).toInt) ∨ (x.toInt = 7 ∧ ((i 0 11) : Int32).toInt = (i 3 4).toInt) ∨ ((x.toInt < 0 ∨ 7 < x.toInt) ∧ ((i 0 11) : Int32).toInt = -1) := (Or.inr (Or.inr (Or.inr (Or.inr (Or.inl ⟨by omega, by omega⟩)))))
      exact sj_zret hx hb hr hlocks rfl hS () hV_20 hH (sj_Knil hK) (Nat.le_of_ble_eq_true rfl) (Nat.le_of_ble_eq_true rfl) dX11_look_89
    · skip
      refine lv_tableIn (tgt := 90) hx hb dX11_look_1 (by omega) (by omega) (by rw [hh_2]; rfl) (by decide) ?_
      refine lv_aload_n hx hb dX11_look_90 rfl (lv_at hl 0 rfl) ?_
      refine h_getr (ci := 11) (C := RX11) (F := TX11) (N := 14) hx hb hts in11 hown hK hH (by decide) (rfl : kd 0 = 11) (by decide) rfl 1 (by decide) wd8 (fun _ h9 => h9) (by decide) rfl (t := 3) (hR 0 1 rfl) (by decide) dX11_look_91 ?_
      have bx_21 : (0 : Int) ≤ (i 3 1).toInt ∧ (i 3 1).toInt ≤ 1 := hO 3 1
      refine h_geti (ci := 5) (C := RX5) (F := TX5) (N := 19) hx hb hts in5 hown hK hH (by decide) (rfl : kd 3 = 5) (by decide) rfl 1 (by decide) wd9 (fun _ h9 => h9) (by decide) rfl dX11_look_94 ?_
      have hV_22 : (x.toInt = 0 ∧ ((i 3 1) : Int32).toInt = (i 23 8).toInt) ∨ (x.toInt = 1 ∧ ((i 3 1) : Int32).toInt = (i 1 1).toInt) ∨ (x.toInt = 2 ∧ ((i 3 1) : Int32).toInt = (i 13 4).toInt) ∨ (x.toInt = 3 ∧ ((i 3 1) : Int32).toInt = (i 0 7).toInt) ∨ (x.toInt = 4 ∧ ((i 3 1) : Int32).toInt = (i 0 11).toInt) ∨ (x.toInt = 5 ∧ ((i 3 1) : Int32).toInt = (i 3 1).toInt) ∨ (x.toInt = 6 ∧ ((i 3 1) : Int32).toInt = (i 23 10).toInt) ∨ (x.toInt = 7 ∧ ((i 3 1) : Int32).toInt = (i 3 4).toInt) ∨ ((x.toInt < 0 ∨ 7 < x.toInt) ∧ ((i 3 1) : Int32).toInt = -1) := (Or.inr (Or.inr (Or.inr (Or.inr (Or.inr (Or.inl ⟨by omega, by omega⟩))))))
      exact sj_zret hx hb hr hlocks rfl hS () hV_22 hH (sj_Knil hK) (Nat.le_of_ble_eq_true rfl) (Nat.le_of_ble_eq_true rfl) dX11_look_97
    · skip
      refine lv_tableIn (tgt := 98) hx hb dX11_look_1 (by omega) (by omega) (by rw [hh_2]; rfl) (by decide) ?_
      refine lv_aload_n hx hb dX11_look_98 rfl (lv_at hl 0 rfl) ?_
      refine h_getr (ci := 11) (C := RX11) (F := TX11) (N := 14) hx hb hts in11 hown hK hH (by decide) (rfl : kd 0 = 11) (by decide) rfl 4 (by decide) wd0 (fun _ h9 => h9) (by decide) rfl (t := 23) (hR 0 4 rfl) (by decide) dX11_look_99 ?_
      have bx_23 : (0 : Int) ≤ (i 23 10).toInt ∧ (i 23 10).toInt ≤ 2147483647 := hO 23 10
      refine h_geti (ci := 7) (C := RX7) (F := TX7) (N := 11) hx hb hts in7 hown hK hH (by decide) (rfl : kd 23 = 7) (by decide) rfl 10 (by decide) wd10 (fun _ h9 => h9) (by decide) rfl dX11_look_102 ?_
      have hV_24 : (x.toInt = 0 ∧ ((i 23 10) : Int32).toInt = (i 23 8).toInt) ∨ (x.toInt = 1 ∧ ((i 23 10) : Int32).toInt = (i 1 1).toInt) ∨ (x.toInt = 2 ∧ ((i 23 10) : Int32).toInt = (i 13 4).toInt) ∨ (x.toInt = 3 ∧ ((i 23 10) : Int32).toInt = (i 0 7).toInt) ∨ (x.toInt = 4 ∧ ((i 23 10) : Int32).toInt = (i 0 11).toInt) ∨ (x.toInt = 5 ∧ ((i 23 10) : Int32).toInt = (i 3 1).toInt) ∨ (x.toInt = 6 ∧ ((i 23 10) : Int32).toInt = (i 23 10).toInt) ∨ (x.toInt = 7 ∧ ((i 23 10) : Int32).toInt = (i 3 4).toInt) ∨ ((x.toInt < 0 ∨ 7 < x.toInt) ∧ ((i 23 10) : Int32).toInt = -1) := (Or.inr (Or.inr (Or.inr (Or.inr (Or.inr (Or.inr (Or.inl ⟨by omega, by omega⟩)))))))
      exact sj_zret hx hb hr hlocks rfl hS () hV_24 hH (sj_Knil hK) (Nat.le_of_ble_eq_true rfl) (Nat.le_of_ble_eq_true rfl) dX11_look_105
    · skip
      refine lv_tableIn (tgt := 106) hx hb dX11_look_1 (by omega) (by omega) (by rw [hh_2]; rfl) (by decide) ?_
      refine lv_aload_n hx hb dX11_look_106 rfl (lv_at hl 0 rfl) ?_
      refine h_getr (ci := 11) (C := RX11) (F := TX11) (N := 14) hx hb hts in11 hown hK hH (by decide) (rfl : kd 0 = 11) (by decide) rfl 1 (by decide) wd8 (fun _ h9 => h9) (by decide) rfl (t := 3) (hR 0 1 rfl) (by decide) dX11_look_107 ?_
      have bx_25 : (0 : Int) ≤ (i 3 4).toInt ∧ (i 3 4).toInt ≤ 20 := hO 3 4
      refine h_geti (ci := 5) (C := RX5) (F := TX5) (N := 19) hx hb hts in5 hown hK hH (by decide) (rfl : kd 3 = 5) (by decide) rfl 4 (by decide) wd11 (fun _ h9 => h9) (by decide) rfl dX11_look_110 ?_
      have hV_26 : (x.toInt = 0 ∧ ((i 3 4) : Int32).toInt = (i 23 8).toInt) ∨ (x.toInt = 1 ∧ ((i 3 4) : Int32).toInt = (i 1 1).toInt) ∨ (x.toInt = 2 ∧ ((i 3 4) : Int32).toInt = (i 13 4).toInt) ∨ (x.toInt = 3 ∧ ((i 3 4) : Int32).toInt = (i 0 7).toInt) ∨ (x.toInt = 4 ∧ ((i 3 4) : Int32).toInt = (i 0 11).toInt) ∨ (x.toInt = 5 ∧ ((i 3 4) : Int32).toInt = (i 3 1).toInt) ∨ (x.toInt = 6 ∧ ((i 3 4) : Int32).toInt = (i 23 10).toInt) ∨ (x.toInt = 7 ∧ ((i 3 4) : Int32).toInt = (i 3 4).toInt) ∨ ((x.toInt < 0 ∨ 7 < x.toInt) ∧ ((i 3 4) : Int32).toInt = -1) := (Or.inr (Or.inr (Or.inr (Or.inr (Or.inr (Or.inr (Or.inr (Or.inl ⟨by omega, by omega⟩))))))))
      exact sj_zret hx hb hr hlocks rfl hS () hV_26 hH (sj_Knil hK) (Nat.le_of_ble_eq_true rfl) (Nat.le_of_ble_eq_true rfl) dX11_look_113
