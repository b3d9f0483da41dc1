theorem dX3_at_0 : decode cX3_at 0 = .ok (.iload_n 1, 1) := by decide +kernel
theorem dX3_at_1 : decode cX3_at 1 = .ok (.ifCond .lt 20, 3) := by decide +kernel
theorem dX3_at_21 : decode cX3_at 21 = .ok (.iconst (-1), 1) := by decide +kernel
theorem dX3_at_22 : decode cX3_at 22 = .ok (.ireturn, 1) := by decide +kernel
theorem dX3_at_4 : decode cX3_at 4 = .ok (.iload_n 1, 1) := by decide +kernel
theorem dX3_at_5 : decode cX3_at 5 = .ok (.aload_n 0, 1) := by decide +kernel
theorem dX3_at_6 : decode cX3_at 6 = .ok (.getfield 13, 3) := by decide +kernel
theorem dX3_at_9 : decode cX3_at 9 = .ok (.if_icmp .ge 12, 3) := by decide +kernel
theorem dX3_at_12 : decode cX3_at 12 = .ok (.aload_n 0, 1) := by decide +kernel
theorem dX3_at_13 : decode cX3_at 13 = .ok (.getfield 7, 3) := by decide +kernel
theorem dX3_at_16 : decode cX3_at 16 = .ok (.iload_n 1, 1) := by decide +kernel
theorem dX3_at_17 : decode cX3_at 17 = .ok (.caload, 1) := by decide +kernel
theorem dX3_at_18 : decode cX3_at 18 = .ok (.goto 4, 3) := by decide +kernel
theorem dX3_add_0 : decode cX3_add 0 = .ok (.aload_n 0, 1) := by decide +kernel
theorem dX3_add_1 : decode cX3_add 1 = .ok (.getfield 13, 3) := by decide +kernel
theorem dX3_add_4 : decode cX3_add 4 = .ok (.aload_n 0, 1) := by decide +kernel
theorem dX3_add_5 : decode cX3_add 5 = .ok (.getfield 7, 3) := by decide +kernel
theorem dX3_add_8 : decode cX3_add 8 = .ok (.arraylength, 1) := by decide +kernel
theorem dX3_add_9 : decode cX3_add 9 = .ok (.if_icmp .ge 23, 3) := by decide +kernel
theorem dX3_add_32 : decode cX3_add 32 = .ok (.return_, 1) := by decide +kernel
theorem dX3_add_12 : decode cX3_add 12 = .ok (.aload_n 0, 1) := by decide +kernel
theorem dX3_add_13 : decode cX3_add 13 = .ok (.getfield 7, 3) := by decide +kernel
theorem dX3_add_16 : decode cX3_add 16 = .ok (.aload_n 0, 1) := by decide +kernel
theorem dX3_add_17 : decode cX3_add 17 = .ok (.getfield 13, 3) := by decide +kernel
theorem dX3_add_20 : decode cX3_add 20 = .ok (.iload_n 1, 1) := by decide +kernel
theorem dX3_add_21 : decode cX3_add 21 = .ok (.castore, 1) := by decide +kernel
theorem dX3_add_22 : decode cX3_add 22 = .ok (.aload_n 0, 1) := by decide +kernel
theorem dX3_add_23 : decode cX3_add 23 = .ok (.dup, 1) := by decide +kernel
theorem dX3_add_24 : decode cX3_add 24 = .ok (.getfield 13, 3) := by decide +kernel
theorem dX3_add_27 : decode cX3_add 27 = .ok (.iconst 1, 1) := by decide +kernel
theorem dX3_add_28 : decode cX3_add 28 = .ok (.iadd, 1) := by decide +kernel
theorem dX3_add_29 : decode cX3_add 29 = .ok (.putfield 13, 3) := by decide +kernel
theorem dX3_digits_0 : decode cX3_digits 0 = .ok (.iconst 0, 1) := by decide +kernel
theorem dX3_digits_1 : decode cX3_digits 1 = .ok (.istore_n 3, 1) := by decide +kernel
theorem dX3_digits_2 : decode cX3_digits 2 = .ok (.iload_n 3, 1) := by decide +kernel
theorem dX3_digits_3 : decode cX3_digits 3 = .ok (.iload_n 2, 1) := by decide +kernel
theorem dX3_digits_4 : decode cX3_digits 4 = .ok (.if_icmp .ge 45, 3) := by decide +kernel
theorem dX3_digits_49 : decode cX3_digits 49 = .ok (.iload_n 3, 1) := by decide +kernel
theorem dX3_digits_50 : decode cX3_digits 50 = .ok (.ireturn, 1) := by decide +kernel
theorem dX3_digits_7 : decode cX3_digits 7 = .ok (.iload_n 1, 1) := by decide +kernel
theorem dX3_digits_8 : decode cX3_digits 8 = .ok (.iload_n 3, 1) := by decide +kernel
theorem dX3_digits_9 : decode cX3_digits 9 = .ok (.iadd, 1) := by decide +kernel
theorem dX3_digits_10 : decode cX3_digits 10 = .ok (.aload_n 0, 1) := by decide +kernel
theorem dX3_digits_11 : decode cX3_digits 11 = .ok (.getfield 13, 3) := by decide +kernel
theorem dX3_digits_14 : decode cX3_digits 14 = .ok (.if_icmp .ge 35, 3) := by decide +kernel
theorem dX3_digits_17 : decode cX3_digits 17 = .ok (.aload_n 0, 1) := by decide +kernel
theorem dX3_digits_18 : decode cX3_digits 18 = .ok (.getfield 7, 3) := by decide +kernel
theorem dX3_digits_21 : decode cX3_digits 21 = .ok (.iload_n 1, 1) := by decide +kernel
theorem dX3_digits_22 : decode cX3_digits 22 = .ok (.iload_n 3, 1) := by decide +kernel
theorem dX3_digits_23 : decode cX3_digits 23 = .ok (.iadd, 1) := by decide +kernel
theorem dX3_digits_24 : decode cX3_digits 24 = .ok (.caload, 1) := by decide +kernel
theorem dX3_digits_25 : decode cX3_digits 25 = .ok (.bipush 48, 2) := by decide +kernel
theorem dX3_digits_27 : decode cX3_digits 27 = .ok (.if_icmp .lt 22, 3) := by decide +kernel
theorem dX3_digits_30 : decode cX3_digits 30 = .ok (.aload_n 0, 1) := by decide +kernel
theorem dX3_digits_31 : decode cX3_digits 31 = .ok (.getfield 7, 3) := by decide +kernel
theorem dX3_digits_34 : decode cX3_digits 34 = .ok (.iload_n 1, 1) := by decide +kernel
theorem dX3_digits_35 : decode cX3_digits 35 = .ok (.iload_n 3, 1) := by decide +kernel
theorem dX3_digits_36 : decode cX3_digits 36 = .ok (.iadd, 1) := by decide +kernel
theorem dX3_digits_37 : decode cX3_digits 37 = .ok (.caload, 1) := by decide +kernel
theorem dX3_digits_38 : decode cX3_digits 38 = .ok (.bipush 57, 2) := by decide +kernel
theorem dX3_digits_40 : decode cX3_digits 40 = .ok (.if_icmp .gt 9, 3) := by decide +kernel
theorem dX3_digits_43 : decode cX3_digits 43 = .ok (.iinc 3 1, 3) := by decide +kernel
theorem dX3_digits_46 : decode cX3_digits 46 = .ok (.goto (-44), 3) := by decide +kernel
theorem dX3_before_0 : decode cX3_before 0 = .ok (.iconst 0, 1) := by decide +kernel
theorem dX3_before_1 : decode cX3_before 1 = .ok (.istore_n 3, 1) := by decide +kernel
theorem dX3_before_2 : decode cX3_before 2 = .ok (.iload_n 2, 1) := by decide +kernel
theorem dX3_before_3 : decode cX3_before 3 = .ok (.iload_n 3, 1) := by decide +kernel
theorem dX3_before_4 : decode cX3_before 4 = .ok (.iadd, 1) := by decide +kernel
theorem dX3_before_5 : decode cX3_before 5 = .ok (.aload_n 0, 1) := by decide +kernel
theorem dX3_before_6 : decode cX3_before 6 = .ok (.getfield 13, 3) := by decide +kernel
theorem dX3_before_9 : decode cX3_before 9 = .ok (.if_icmp .ge 21, 3) := by decide +kernel
theorem dX3_before_30 : decode cX3_before 30 = .ok (.iload_n 3, 1) := by decide +kernel
theorem dX3_before_31 : decode cX3_before 31 = .ok (.ireturn, 1) := by decide +kernel
theorem dX3_before_12 : decode cX3_before 12 = .ok (.aload_n 0, 1) := by decide +kernel
theorem dX3_before_13 : decode cX3_before 13 = .ok (.getfield 7, 3) := by decide +kernel
theorem dX3_before_16 : decode cX3_before 16 = .ok (.iload_n 2, 1) := by decide +kernel
theorem dX3_before_17 : decode cX3_before 17 = .ok (.iload_n 3, 1) := by decide +kernel
theorem dX3_before_18 : decode cX3_before 18 = .ok (.iadd, 1) := by decide +kernel
theorem dX3_before_19 : decode cX3_before 19 = .ok (.caload, 1) := by decide +kernel
theorem dX3_before_20 : decode cX3_before 20 = .ok (.iload_n 1, 1) := by decide +kernel
theorem dX3_before_21 : decode cX3_before 21 = .ok (.if_icmp .eq 9, 3) := by decide +kernel
theorem dX3_before_24 : decode cX3_before 24 = .ok (.iinc 3 1, 3) := by decide +kernel
theorem dX3_before_27 : decode cX3_before 27 = .ok (.goto (-25), 3) := by decide +kernel
set_option maxHeartbeats 2000000 in
set_option maxRecDepth 100000 in
/-- the character at a place, or -1 -/
theorem k_at_text (l : Launch) (D : va_G) (g : Nat → Nat) (ka : Nat → ClassId) (ad : Nat → Nat) (i : Nat → Nat → Int32) (r : Nat → Nat → Nat) (L : Nat → Nat → Int64) (d : Nat → Nat → UInt64) (x : Int32) (hO : OkI i) (hR : RS r) (sz : Nat)  : Met l yX3_at wsX3_at ({ frames := 0, cells := 0, slots := 0, locals := 0 }) (va_Pc [.ref (g 1), .int x] (sj_B D (hwc g ka i r L d) (hT ka) sz (gx ad (va_A (hwc g ka i r L d) sz)))) (sj_Qi (S := Unit) D (fun v u => ((-1 : Int) ≤ v.toInt ∧ v.toInt ≤ 65535) ∧ ((0 ≤ x.toInt ∧ x.toInt < (i 1 1).toInt ∧ v.toInt = (i 2 (x.toInt).toNat).toInt) ∨ ((x.toInt < 0 ∨ (i 1 1).toInt ≤ x.toInt) ∧ v.toInt = -1))) (fun _ => hwc g ka i r L d) (fun _ => []) (va_A (hwc g ka i r L d) sz)) 0 0 (va_A (hwc g ka i r L d) sz) := by
  refine x_met (Ex := gx ad) (cc := cX3_at) (maxL := 2) (ret := (some .int)) (by decide) rfl (Nat.le_of_ble_eq_true rfl) ?_
  intro p e s m below meth c A ls hx hb hr hml hts hown hlocks hA hS hH hK hE hl
  have hown : s.vm.findClass RX3 = some m.cls := hown
  have in3 : ∀ w ∈ wsX30, w ∈ wsX3_at := (fun _ h => (List.mem_cons_of_mem _ (List.mem_append_right _ h)))
  have wd0 := hts (.fieldLink RX3 13 "StoryDesk$Letters" "length" "I") (List.mem_cons_of_mem _ (List.mem_append_left _ lm0))
  have wd1 := hts (.fieldLink RX3 7 "StoryDesk$Letters" "chars" "[C") (List.mem_cons_of_mem _ (List.mem_append_left _ lm1))
  have hl : lv_has ls 2 [(0, .ref (g 1)), (1, .int x)] := hl
  have hK : va_K D vwCl (hT ka) s := hK
  have hg_1 := s_rng x
  refine lv_iload_n hx hb dX3_at_0 rfl (lv_at hl 1 rfl) ?_
  refine lv_if_lt (tgt := 21) hx hb dX3_at_1 (by decide) (fun c_2 => ?_) (fun c_2 => ?_)
  · skip
    have h_3 := s_lt (rfl : x.toInt = _) (show (0 : Int32).toInt = 0 from rfl) c_2
    refine lv_iconst (v := (-1)) hx hb dX3_at_21 (by decide) ?_
    have hlv_4 : ((-1) : Int32).toInt = -1 := rfl
    exact sj_zret hx hb hr hlocks rfl hS () ⟨⟨by decide, by decide⟩, (by omega)⟩ hH (sj_Knil hK) (Nat.le_of_ble_eq_true rfl) (Nat.le_of_ble_eq_true rfl) dX3_at_22
  · skip
    have h_5 := s_nlt (rfl : x.toInt = _) (show (0 : Int32).toInt = 0 from rfl) c_2
    refine lv_iload_n hx hb dX3_at_4 rfl (lv_at hl 1 rfl) ?_
    refine lv_aload_n hx hb dX3_at_5 rfl (lv_at hl 0 rfl) ?_
    have bx_6 : (0 : Int) ≤ (i 1 1).toInt ∧ (i 1 1).toInt ≤ 480 := hO 1 1
    refine h_geti (ci := 3) (C := RX3) (F := TX3) (N := 2) hx hb hts in3 hown hK hH (by decide) (rfl : kd 1 = 3) (by decide) rfl 1 (by decide) wd0 (fun _ h9 => h9) (by decide) rfl dX3_at_6 ?_
    refine lv_icmp_ge (tgt := 21) hx hb dX3_at_9 (by decide) (fun c_7 => ?_) (fun c_7 => ?_)
    · skip
      have h_8 := s_le (rfl : (i 1 1).toInt = _) (rfl : x.toInt = _) c_7
      refine lv_iconst (v := (-1)) hx hb dX3_at_21 (by decide) ?_
      have hlv_9 : ((-1) : Int32).toInt = -1 := rfl
      exact sj_zret hx hb hr hlocks rfl hS () ⟨⟨by decide, by decide⟩, (by omega)⟩ hH (sj_Knil hK) (Nat.le_of_ble_eq_true rfl) (Nat.le_of_ble_eq_true rfl) dX3_at_22
    · skip
      have h_10 := s_nle (rfl : (i 1 1).toInt = _) (rfl : x.toInt = _) c_7
      refine lv_aload_n hx hb dX3_at_12 rfl (lv_at hl 0 rfl) ?_
      refine h_getr (ci := 3) (C := RX3) (F := TX3) (N := 2) hx hb hts in3 hown hK hH (by decide) (rfl : kd 1 = 3) (by decide) rfl 0 (by decide) wd1 (fun _ h9 => h9) (by decide) rfl (t := 2) (hR 1 0 rfl) (by decide) dX3_at_13 ?_
      refine lv_iload_n hx hb dX3_at_16 rfl (lv_at hl 1 rfl) ?_
      have bx_11 : (0 : Int) ≤ (i 2 (x.toInt).toNat).toInt ∧ (i 2 (x.toInt).toNat).toInt ≤ 65535 := hO 2 (x.toInt).toNat
      refine h_cald hx hb hK hH (by decide) (rfl : kd 2 = 14) (s_vin (N := 480) (rfl : x.toInt = _) (rfl : ln 2 = 480) (by omega) (by omega)) dX3_at_17 ?_
      have ek_12 : x.toNatClampNeg = (x.toInt).toNat := (s_cl (show x.toInt = x.toInt by omega))
      refine sj_i (y := (i 2 (x.toInt).toNat)) (by rw [ek_12]) ?_
      refine lv_goto (tgt := 22) hx hb dX3_at_18 (by decide) ?_
      exact sj_zret hx hb hr hlocks rfl hS () ⟨⟨by omega, by omega⟩, (by omega)⟩ hH (sj_Knil hK) (Nat.le_of_ble_eq_true rfl) (Nat.le_of_ble_eq_true rfl) dX3_at_22
set_option maxHeartbeats 2000000 in
set_option maxRecDepth 100000 in
/-- the character at a place, or -1 -/
theorem k_at_source (l : Launch) (D : va_G) (g : Nat → Nat) (ka : Nat → ClassId) (ad : Nat → Nat) (i : Nat → Nat → Int32) (r : Nat → Nat → Nat) (L : Nat → Nat → Int64) (d : Nat → Nat → UInt64) (x : Int32) (hO : OkI i) (hR : RS r) (sz : Nat)  : Met l yX3_at wsX3_at ({ frames := 0, cells := 0, slots := 0, locals := 0 }) (va_Pc [.ref (g 4), .int x] (sj_B D (hwc g ka i r L d) (hT ka) sz (gx ad (va_A (hwc g ka i r L d) sz)))) (sj_Qi (S := Unit) D (fun v u => ((-1 : Int) ≤ v.toInt ∧ v.toInt ≤ 65535) ∧ ((0 ≤ x.toInt ∧ x.toInt < (i 4 1).toInt ∧ v.toInt = (i 5 (x.toInt).toNat).toInt) ∨ ((x.toInt < 0 ∨ (i 4 1).toInt ≤ x.toInt) ∧ v.toInt = -1))) (fun _ => hwc g ka i r L d) (fun _ => []) (va_A (hwc g ka i r L d) sz)) 0 0 (va_A (hwc g ka i r L d) sz) := by
  refine x_met (Ex := gx ad) (cc := cX3_at) (maxL := 2) (ret := (some .int)) (by decide) rfl (Nat.le_of_ble_eq_true rfl) ?_
  intro p e s m below meth c A ls hx hb hr hml hts hown hlocks hA hS hH hK hE hl
  have hown : s.vm.findClass RX3 = some m.cls := hown
  have in3 : ∀ w ∈ wsX30, w ∈ wsX3_at := (fun _ h => (List.mem_cons_of_mem _ (List.mem_append_right _ h)))
  have wd0 := hts (.fieldLink RX3 13 "StoryDesk$Letters" "length" "I") (List.mem_cons_of_mem _ (List.mem_append_left _ lm0))
  have wd1 := hts (.fieldLink RX3 7 "StoryDesk$Letters" "chars" "[C") (List.mem_cons_of_mem _ (List.mem_append_left _ lm1))
  have hl : lv_has ls 2 [(0, .ref (g 4)), (1, .int x)] := hl
  have hK : va_K D vwCl (hT ka) s := hK
  have hg_1 := s_rng x
  refine lv_iload_n hx hb dX3_at_0 rfl (lv_at hl 1 rfl) ?_
  refine lv_if_lt (tgt := 21) hx hb dX3_at_1 (by decide) (fun c_2 => ?_) (fun c_2 => ?_)
  · skip
    have h_3 := s_lt (rfl : x.toInt = _) (show (0 : Int32).toInt = 0 from rfl) c_2
    refine lv_iconst (v := (-1)) hx hb dX3_at_21 (by decide) ?_
    have hlv_4 : ((-1) : Int32).toInt = -1 := rfl
    exact sj_zret hx hb hr hlocks rfl hS () ⟨⟨by decide, by decide⟩, (by omega)⟩ hH (sj_Knil hK) (Nat.le_of_ble_eq_true rfl) (Nat.le_of_ble_eq_true rfl) dX3_at_22
  · skip
    have h_5 := s_nlt (rfl : x.toInt = _) (show (0 : Int32).toInt = 0 from rfl) c_2
    refine lv_iload_n hx hb dX3_at_4 rfl (lv_at hl 1 rfl) ?_
    refine lv_aload_n hx hb dX3_at_5 rfl (lv_at hl 0 rfl) ?_
    have bx_6 : (0 : Int) ≤ (i 4 1).toInt ∧ (i 4 1).toInt ≤ 480 := hO 4 1
    refine h_geti (ci := 3) (C := RX3) (F := TX3) (N := 2) hx hb hts in3 hown hK hH (by decide) (rfl : kd 4 = 3) (by decide) rfl 1 (by decide) wd0 (fun _ h9 => h9) (by decide) rfl dX3_at_6 ?_
    refine lv_icmp_ge (tgt := 21) hx hb dX3_at_9 (by decide) (fun c_7 => ?_) (fun c_7 => ?_)
    · skip
      have h_8 := s_le (rfl : (i 4 1).toInt = _) (rfl : x.toInt = _) c_7
      refine lv_iconst (v := (-1)) hx hb dX3_at_21 (by decide) ?_
      have hlv_9 : ((-1) : Int32).toInt = -1 := rfl
      exact sj_zret hx hb hr hlocks rfl hS () ⟨⟨by decide, by decide⟩, (by omega)⟩ hH (sj_Knil hK) (Nat.le_of_ble_eq_true rfl) (Nat.le_of_ble_eq_true rfl) dX3_at_22
    · skip
      have h_10 := s_nle (rfl : (i 4 1).toInt = _) (rfl : x.toInt = _) c_7
      refine lv_aload_n hx hb dX3_at_12 rfl (lv_at hl 0 rfl) ?_
      refine h_getr (ci := 3) (C := RX3) (F := TX3) (N := 2) hx hb hts in3 hown hK hH (by decide) (rfl : kd 4 = 3) (by decide) rfl 0 (by decide) wd1 (fun _ h9 => h9) (by decide) rfl (t := 5) (hR 4 0 rfl) (by decide) dX3_at_13 ?_
      refine lv_iload_n hx hb dX3_at_16 rfl (lv_at hl 1 rfl) ?_
      have bx_11 : (0 : Int) ≤ (i 5 (x.toInt).toNat).toInt ∧ (i 5 (x.toInt).toNat).toInt ≤ 65535 := hO 5 (x.toInt).toNat
      refine h_cald hx hb hK hH (by decide) (rfl : kd 5 = 14) (s_vin (N := 480) (rfl : x.toInt = _) (rfl : ln 5 = 480) (by omega) (by omega)) dX3_at_17 ?_
      have ek_12 : x.toNatClampNeg = (x.toInt).toNat := (s_cl (show x.toInt = x.toInt by omega))
      refine sj_i (y := (i 5 (x.toInt).toNat)) (by rw [ek_12]) ?_
      refine lv_goto (tgt := 22) hx hb dX3_at_18 (by decide) ?_
      exact sj_zret hx hb hr hlocks rfl hS () ⟨⟨by omega, by omega⟩, (by omega)⟩ hH (sj_Knil hK) (Nat.le_of_ble_eq_true rfl) (Nat.le_of_ble_eq_true rfl) dX3_at_22
set_option maxHeartbeats 2000000 in
set_option maxRecDepth 100000 in
/-- the character at a place, or -1 -/
theorem k_at_stepText (l : Launch) (D : va_G) (g : Nat → Nat) (ka : Nat → ClassId) (ad : Nat → Nat) (i : Nat → Nat → Int32) (r : Nat → Nat → Nat) (L : Nat → Nat → Int64) (d : Nat → Nat → UInt64) (x : Int32) (hO : OkI i) (hR : RS r) (sz : Nat)  : Met l yX3_at wsX3_at ({ frames := 0, cells := 0, slots := 0, locals := 0 }) (va_Pc [.ref (g 14), .int x] (sj_B D (hwc g ka i r L d) (hT ka) sz (gx ad (va_A (hwc g ka i r L d) sz)))) (sj_Qi (S := Unit) D (fun v u => ((-1 : Int) ≤ v.toInt ∧ v.toInt ≤ 65535) ∧ ((0 ≤ x.toInt ∧ x.toInt < (i 14 1).toInt ∧ v.toInt = (i 15 (x.toInt).toNat).toInt) ∨ ((x.toInt < 0 ∨ (i 14 1).toInt ≤ x.toInt) ∧ v.toInt = -1))) (fun _ => hwc g ka i r L d) (fun _ => []) (va_A (hwc g ka i r L d) sz)) 0 0 (va_A (hwc g ka i r L d) sz) := by
  refine x_met (Ex := gx ad) (cc := cX3_at) (maxL := 2) (ret := (some .int)) (by decide) rfl (Nat.le_of_ble_eq_true rfl) ?_
  intro p e s m below meth c A ls hx hb hr hml hts hown hlocks hA hS hH hK hE hl
  have hown : s.vm.findClass RX3 = some m.cls := hown
  have in3 : ∀ w ∈ wsX30, w ∈ wsX3_at := (fun _ h => (List.mem_cons_of_mem _ (List.mem_append_right _ h)))
  have wd0 := hts (.fieldLink RX3 13 "StoryDesk$Letters" "length" "I") (List.mem_cons_of_mem _ (List.mem_append_left _ lm0))
  have wd1 := hts (.fieldLink RX3 7 "StoryDesk$Letters" "chars" "[C") (List.mem_cons_of_mem _ (List.mem_append_left _ lm1))
  have hl : lv_has ls 2 [(0, .ref (g 14)), (1, .int x)] := hl
  have hK : va_K D vwCl (hT ka) s := hK
  have hg_1 := s_rng x
  refine lv_iload_n hx hb dX3_at_0 rfl (lv_at hl 1 rfl) ?_
  refine lv_if_lt (tgt := 21) hx hb dX3_at_1 (by decide) (fun c_2 => ?_) (fun c_2 => ?_)
  · skip
    have h_3 := s_lt (rfl : x.toInt = _) (show (0 : Int32).toInt = 0 from rfl) c_2
    refine lv_iconst (v := (-1)) hx hb dX3_at_21 (by decide) ?_
    have hlv_4 : ((-1) : Int32).toInt = -1 := rfl
    exact sj_zret hx hb hr hlocks rfl hS () ⟨⟨by decide, by decide⟩, (by omega)⟩ hH (sj_Knil hK) (Nat.le_of_ble_eq_true rfl) (Nat.le_of_ble_eq_true rfl) dX3_at_22
  · skip
    have h_5 := s_nlt (rfl : x.toInt = _) (show (0 : Int32).toInt = 0 from rfl) c_2
    refine lv_iload_n hx hb dX3_at_4 rfl (lv_at hl 1 rfl) ?_
    refine lv_aload_n hx hb dX3_at_5 rfl (lv_at hl 0 rfl) ?_
    have bx_6 : (0 : Int) ≤ (i 14 1).toInt ∧ (i 14 1).toInt ≤ 60 := hO 14 1
    refine h_geti (ci := 3) (C := RX3) (F := TX3) (N := 2) hx hb hts in3 hown hK hH (by decide) (rfl : kd 14 = 3) (by decide) rfl 1 (by decide) wd0 (fun _ h9 => h9) (by decide) rfl dX3_at_6 ?_
    refine lv_icmp_ge (tgt := 21) hx hb dX3_at_9 (by decide) (fun c_7 => ?_) (fun c_7 => ?_)
    · skip
      have h_8 := s_le (rfl : (i 14 1).toInt = _) (rfl : x.toInt = _) c_7
      refine lv_iconst (v := (-1)) hx hb dX3_at_21 (by decide) ?_
      have hlv_9 : ((-1) : Int32).toInt = -1 := rfl
      exact sj_zret hx hb hr hlocks rfl hS () ⟨⟨by decide, by decide⟩, (by omega)⟩ hH (sj_Knil hK) (Nat.le_of_ble_eq_true rfl) (Nat.le_of_ble_eq_true rfl) dX3_at_22
    · skip
      have h_10 := s_nle (rfl : (i 14 1).toInt = _) (rfl : x.toInt = _) c_7
      refine lv_aload_n hx hb dX3_at_12 rfl (lv_at hl 0 rfl) ?_
      refine h_getr (ci := 3) (C := RX3) (F := TX3) (N := 2) hx hb hts in3 hown hK hH (by decide) (rfl : kd 14 = 3) (by decide) rfl 0 (by decide) wd1 (fun _ h9 => h9) (by decide) rfl (t := 15) (hR 14 0 rfl) (by decide) dX3_at_13 ?_
      refine lv_iload_n hx hb dX3_at_16 rfl (lv_at hl 1 rfl) ?_
      have bx_11 : (0 : Int) ≤ (i 15 (x.toInt).toNat).toInt ∧ (i 15 (x.toInt).toNat).toInt ≤ 65535 := hO 15 (x.toInt).toNat
      refine h_cald hx hb hK hH (by decide) (rfl : kd 15 = 14) (s_vin (N := 60) (rfl : x.toInt = _) (rfl : ln 15 = 60) (by omega) (by omega)) dX3_at_17 ?_
      have ek_12 : x.toNatClampNeg = (x.toInt).toNat := (s_cl (show x.toInt = x.toInt by omega))
      refine sj_i (y := (i 15 (x.toInt).toNat)) (by rw [ek_12]) ?_
      refine lv_goto (tgt := 22) hx hb dX3_at_18 (by decide) ?_
      exact sj_zret hx hb hr hlocks rfl hS () ⟨⟨by omega, by omega⟩, (by omega)⟩ hH (sj_Knil hK) (Nat.le_of_ble_eq_true rfl) (Nat.le_of_ble_eq_true rfl) dX3_at_22
set_option maxHeartbeats 2000000 in
set_option maxRecDepth 100000 in
/-- the character at a place, or -1 -/
theorem k_at_cellText (l : Launch) (D : va_G) (g : Nat → Nat) (ka : Nat → ClassId) (ad : Nat → Nat) (i : Nat → Nat → Int32) (r : Nat → Nat → Nat) (L : Nat → Nat → Int64) (d : Nat → Nat → UInt64) (x : Int32) (hO : OkI i) (hR : RS r) (sz : Nat)  : Met l yX3_at wsX3_at ({ frames := 0, cells := 0, slots := 0, locals := 0 }) (va_Pc [.ref (g 16), .int x] (sj_B D (hwc g ka i r L d) (hT ka) sz (gx ad (va_A (hwc g ka i r L d) sz)))) (sj_Qi (S := Unit) D (fun v u => ((-1 : Int) ≤ v.toInt ∧ v.toInt ≤ 65535) ∧ ((0 ≤ x.toInt ∧ x.toInt < (i 16 1).toInt ∧ v.toInt = (i 17 (x.toInt).toNat).toInt) ∨ ((x.toInt < 0 ∨ (i 16 1).toInt ≤ x.toInt) ∧ v.toInt = -1))) (fun _ => hwc g ka i r L d) (fun _ => []) (va_A (hwc g ka i r L d) sz)) 0 0 (va_A (hwc g ka i r L d) sz) := by
  refine x_met (Ex := gx ad) (cc := cX3_at) (maxL := 2) (ret := (some .int)) (by decide) rfl (Nat.le_of_ble_eq_true rfl) ?_
  intro p e s m below meth c A ls hx hb hr hml hts hown hlocks hA hS hH hK hE hl
  have hown : s.vm.findClass RX3 = some m.cls := hown
  have in3 : ∀ w ∈ wsX30, w ∈ wsX3_at := (fun _ h => (List.mem_cons_of_mem _ (List.mem_append_right _ h)))
  have wd0 := hts (.fieldLink RX3 13 "StoryDesk$Letters" "length" "I") (List.mem_cons_of_mem _ (List.mem_append_left _ lm0))
  have wd1 := hts (.fieldLink RX3 7 "StoryDesk$Letters" "chars" "[C") (List.mem_cons_of_mem _ (List.mem_append_left _ lm1))
  have hl : lv_has ls 2 [(0, .ref (g 16)), (1, .int x)] := hl
  have hK : va_K D vwCl (hT ka) s := hK
  have hg_1 := s_rng x
  refine lv_iload_n hx hb dX3_at_0 rfl (lv_at hl 1 rfl) ?_
  refine lv_if_lt (tgt := 21) hx hb dX3_at_1 (by decide) (fun c_2 => ?_) (fun c_2 => ?_)
  · skip
    have h_3 := s_lt (rfl : x.toInt = _) (show (0 : Int32).toInt = 0 from rfl) c_2
    refine lv_iconst (v := (-1)) hx hb dX3_at_21 (by decide) ?_
    have hlv_4 : ((-1) : Int32).toInt = -1 := rfl
    exact sj_zret hx hb hr hlocks rfl hS () ⟨⟨by decide, by decide⟩, (by omega)⟩ hH (sj_Knil hK) (Nat.le_of_ble_eq_true rfl) (Nat.le_of_ble_eq_true rfl) dX3_at_22
  · skip
    have h_5 := s_nlt (rfl : x.toInt = _) (show (0 : Int32).toInt = 0 from rfl) c_2
    refine lv_iload_n hx hb dX3_at_4 rfl (lv_at hl 1 rfl) ?_
    refine lv_aload_n hx hb dX3_at_5 rfl (lv_at hl 0 rfl) ?_
    have bx_6 : (0 : Int) ≤ (i 16 1).toInt ∧ (i 16 1).toInt ≤ 60 := hO 16 1
    refine h_geti (ci := 3) (C := RX3) (F := TX3) (N := 2) hx hb hts in3 hown hK hH (by decide) (rfl : kd 16 = 3) (by decide) rfl 1 (by decide) wd0 (fun _ h9 => h9) (by decide) rfl dX3_at_6 ?_
    refine lv_icmp_ge (tgt := 21) hx hb dX3_at_9 (by decide) (fun c_7 => ?_) (fun c_7 => ?_)
    · skip
      have h_8 := s_le (rfl : (i 16 1).toInt = _) (rfl : x.toInt = _) c_7
      refine lv_iconst (v := (-1)) hx hb dX3_at_21 (by decide) ?_
      have hlv_9 : ((-1) : Int32).toInt = -1 := rfl
      exact sj_zret hx hb hr hlocks rfl hS () ⟨⟨by decide, by decide⟩, (by omega)⟩ hH (sj_Knil hK) (Nat.le_of_ble_eq_true rfl) (Nat.le_of_ble_eq_true rfl) dX3_at_22
    · skip
      have h_10 := s_nle (rfl : (i 16 1).toInt = _) (rfl : x.toInt = _) c_7
      refine lv_aload_n hx hb dX3_at_12 rfl (lv_at hl 0 rfl) ?_
      refine h_getr (ci := 3) (C := RX3) (F := TX3) (N := 2) hx hb hts in3 hown hK hH (by decide) (rfl : kd 16 = 3) (by decide) rfl 0 (by decide) wd1 (fun _ h9 => h9) (by decide) rfl (t := 17) (hR 16 0 rfl) (by decide) dX3_at_13 ?_
      refine lv_iload_n hx hb dX3_at_16 rfl (lv_at hl 1 rfl) ?_
      have bx_11 : (0 : Int) ≤ (i 17 (x.toInt).toNat).toInt ∧ (i 17 (x.toInt).toNat).toInt ≤ 65535 := hO 17 (x.toInt).toNat
      refine h_cald hx hb hK hH (by decide) (rfl : kd 17 = 14) (s_vin (N := 60) (rfl : x.toInt = _) (rfl : ln 17 = 60) (by omega) (by omega)) dX3_at_17 ?_
      have ek_12 : x.toNatClampNeg = (x.toInt).toNat := (s_cl (show x.toInt = x.toInt by omega))
      refine sj_i (y := (i 17 (x.toInt).toNat)) (by rw [ek_12]) ?_
      refine lv_goto (tgt := 22) hx hb dX3_at_18 (by decide) ?_
      exact sj_zret hx hb hr hlocks rfl hS () ⟨⟨by omega, by omega⟩, (by omega)⟩ hH (sj_Knil hK) (Nat.le_of_ble_eq_true rfl) (Nat.le_of_ble_eq_true rfl) dX3_at_22
set_option maxHeartbeats 2000000 in
set_option maxRecDepth 100000 in
/-- a character behind the others -/
theorem k_add_text (l : Launch) (D : va_G) (g : Nat → Nat) (ka : Nat → ClassId) (ad : Nat → Nat) (i : Nat → Nat → Int32) (r : Nat → Nat → Nat) (L : Nat → Nat → Int64) (d : Nat → Nat → UInt64) (x : Int32) (hO : OkI i) (hR : RS r) (sz : Nat)  : Met l yX3_add wsX3_add ({ frames := 0, cells := 0, slots := 0, locals := 0 }) (va_Pc [.ref (g 1), .int x] (sj_B D (hwc g ka i r L d) (hT ka) sz (gx ad (va_A (hwc g ka i r L d) sz)))) (sj_Qv (S := (Nat → Nat → Int32)) D (fun u => OkI u ∧ (∀ a, ¬ (a = 1 ∨ a = 2) → u a = i a)) (fun u => hwc g ka u r L d) (fun _ => []) (va_A (hwc g ka i r L d) sz)) 0 0 (va_A (hwc g ka i r L d) sz) := by
  refine x_met (Ex := gx ad) (cc := cX3_add) (maxL := 2) (ret := none) (by decide) rfl (Nat.le_of_ble_eq_true rfl) ?_
  intro p e s m below meth c A ls hx hb hr hml hts hown hlocks hA hS hH hK hE hl
  have hown : s.vm.findClass RX3 = some m.cls := hown
  have in3 : ∀ w ∈ wsX30, w ∈ wsX3_add := (fun _ h => (List.mem_cons_of_mem _ (List.mem_append_right _ h)))
  have wd0 := hts (.fieldLink RX3 13 "StoryDesk$Letters" "length" "I") (List.mem_cons_of_mem _ (List.mem_append_left _ lm0))
  have wd1 := hts (.fieldLink RX3 7 "StoryDesk$Letters" "chars" "[C") (List.mem_cons_of_mem _ (List.mem_append_left _ lm1))
  have hl : lv_has ls 2 [(0, .ref (g 1)), (1, .int x)] := hl
  have hK : va_K D vwCl (hT ka) s := hK
  have hg_1 := s_rng x
  refine lv_aload_n hx hb dX3_add_0 rfl (lv_at hl 0 rfl) ?_
  have bx_2 : (0 : Int) ≤ (i 1 1).toInt ∧ (i 1 1).toInt ≤ 480 := hO 1 1
  refine h_geti (ci := 3) (C := RX3) (F := TX3) (N := 2) hx hb hts in3 hown hK hH (by decide) (rfl : kd 1 = 3) (by decide) rfl 1 (by decide) wd0 (fun _ h9 => h9) (by decide) rfl dX3_add_1 ?_
  refine lv_aload_n hx hb dX3_add_4 rfl (lv_at hl 0 rfl) ?_
  refine h_getr (ci := 3) (C := RX3) (F := TX3) (N := 2) hx hb hts in3 hown hK hH (by decide) (rfl : kd 1 = 3) (by decide) rfl 0 (by decide) wd1 (fun _ h9 => h9) (by decide) rfl (t := 2) (hR 1 0 rfl) (by decide) dX3_add_5 ?_
  refine h_alen (v := 480) hx hb hK hH (by decide) (rfl : kd 2 = 14) (by decide) (by rw [(rfl : ln 2 = 480)]; rfl) dX3_add_8 ?_
  refine lv_icmp_ge (tgt := 32) hx hb dX3_add_9 (by decide) (fun c_3 => ?_) (fun c_3 => ?_)
  · skip
    have h_4 := s_le (show (480 : Int32).toInt = 480 from rfl) (rfl : (i 1 1).toInt = _) c_3
    exact sj_vret hx hb hr hlocks hS i ⟨hO, (fun a ha => rfl)⟩ hH (sj_Knil hK) (Nat.le_of_ble_eq_true rfl) (Nat.le_of_ble_eq_true rfl) dX3_add_32
  · skip
    have h_5 := s_nle (show (480 : Int32).toInt = 480 from rfl) (rfl : (i 1 1).toInt = _) c_3
    refine lv_aload_n hx hb dX3_add_12 rfl (lv_at hl 0 rfl) ?_
    refine h_getr (ci := 3) (C := RX3) (F := TX3) (N := 2) hx hb hts in3 hown hK hH (by decide) (rfl : kd 1 = 3) (by decide) rfl 0 (by decide) wd1 (fun _ h9 => h9) (by decide) rfl (t := 2) (hR 1 0 rfl) (by decide) dX3_add_13 ?_
    refine lv_aload_n hx hb dX3_add_16 rfl (lv_at hl 0 rfl) ?_
    refine h_geti (ci := 3) (C := RX3) (F := TX3) (N := 2) hx hb hts in3 hown hK hH (by decide) (rfl : kd 1 = 3) (by decide) rfl 1 (by decide) wd0 (fun _ h9 => h9) (by decide) rfl dX3_add_17 ?_
    refine lv_iload_n hx hb dX3_add_20 rfl (lv_at hl 1 rfl) ?_
    obtain ⟨z_6, ez_6⟩ : ∃ z, vp_nar .char x = z := ⟨_, rfl⟩
    have hz_6 := s_narcR ez_6
    have hO_7 := okp hO (n := 2) (k := ((i 1 1).toInt).toNat) (v := z_6) (show (0 : Int) ≤ (z_6 : Int32).toInt ∧ (z_6 : Int32).toInt ≤ 65535 from ⟨by omega, by omega⟩)
    refine h_cast hx hb hK hH hS (by decide) (rfl : kd 2 = 14) (s_vin (N := 480) (rfl : (i 1 1).toInt = _) (rfl : ln 2 = 480) (by omega) (by omega)) dX3_add_21 (fun H locs hH hS => ?_)
    rw [ez_6] at hH
    rw [s_cl (show (i 1 1).toInt = (i 1 1).toInt by omega)] at hH
    refine lv_aload_n hx hb dX3_add_22 rfl (lv_at hl 0 rfl) ?_
    refine lv_dup hx hb dX3_add_23 rfl ?_
    refine h_geti (ci := 3) (C := RX3) (F := TX3) (N := 2) hx hb hts in3 hown hK hH (by decide) (rfl : kd 1 = 3) (by decide) rfl 1 (by decide) wd0 (fun _ h9 => h9) (by decide) rfl dX3_add_24 ?_
    refine sj_i (y := (i 1 1)) (congrFun (up2_n _ _ (by decide)) _) ?_
    refine lv_iconst (v := 1) hx hb dX3_add_27 (by decide) ?_
    refine lv_iadd hx hb dX3_add_28 ?_
    obtain ⟨z_8, ez_8, hz_8⟩ := s_add (rfl : (i 1 1).toInt = _) (show (1 : Int32).toInt = 1 from rfl) (by omega) (by omega)
    refine sj_i ez_8 ?_
    have hO_9 := okp hO_7 (n := 1) (k := 1) (v := z_8) (show (0 : Int) ≤ (z_8 : Int32).toInt ∧ (z_8 : Int32).toInt ≤ 480 from ⟨by omega, by omega⟩)
    refine h_puti (ty := .int) (ci := 3) (C := RX3) (F := TX3) (N := 2) hx hb hts in3 tyX3 tyX3_ok nmX3 hown hK hH hS (by decide) (rfl : kd 1 = 3) (by decide) rfl 1 (by decide) wd0 (fun _ h9 => h9) rfl (by decide +kernel) rfl rfl (by decide) rfl dX3_add_29 (fun H locs hH hS => ?_)
    exact sj_vret hx hb hr hlocks hS (up2 (up2 i 2 ((i 1 1).toInt).toNat z_6) 1 1 z_8) ⟨hO_9, (fun a ha => ((up2_n _ _ (by omega)).trans (up2_n _ _ (by omega))))⟩ hH (sj_Knil hK) (Nat.le_of_ble_eq_true rfl) (Nat.le_of_ble_eq_true rfl) dX3_add_32
set_option maxHeartbeats 2000000 in
set_option maxRecDepth 100000 in
/-- a character behind the others -/
theorem k_add_stepText (l : Launch) (D : va_G) (g : Nat → Nat) (ka : Nat → ClassId) (ad : Nat → Nat) (i : Nat → Nat → Int32) (r : Nat → Nat → Nat) (L : Nat → Nat → Int64) (d : Nat → Nat → UInt64) (x : Int32) (hO : OkI i) (hR : RS r) (sz : Nat)  : Met l yX3_add wsX3_add ({ frames := 0, cells := 0, slots := 0, locals := 0 }) (va_Pc [.ref (g 14), .int x] (sj_B D (hwc g ka i r L d) (hT ka) sz (gx ad (va_A (hwc g ka i r L d) sz)))) (sj_Qv (S := (Nat → Nat → Int32)) D (fun u => OkI u ∧ (∀ a, ¬ (a = 14 ∨ a = 15) → u a = i a)) (fun u => hwc g ka u r L d) (fun _ => []) (va_A (hwc g ka i r L d) sz)) 0 0 (va_A (hwc g ka i r L d) sz) := by
  refine x_met (Ex := gx ad) (cc := cX3_add) (maxL := 2) (ret := none) (by decide) rfl (Nat.le_of_ble_eq_true rfl) ?_
  intro p e s m below meth c A ls hx hb hr hml hts hown hlocks hA hS hH hK hE hl
  have hown : s.vm.findClass RX3 = some m.cls := hown
  have in3 : ∀ w ∈ wsX30, w ∈ wsX3_add := (fun _ h => (List.mem_cons_of_mem _ (List.mem_append_right _ h)))
  have wd0 := hts (.fieldLink RX3 13 "StoryDesk$Letters" "length" "I") (List.mem_cons_of_mem _ (List.mem_append_left _ lm0))
  have wd1 := hts (.fieldLink RX3 7 "StoryDesk$Letters" "chars" "[C") (List.mem_cons_of_mem _ (List.mem_append_left _ lm1))
  have hl : lv_has ls 2 [(0, .ref (g 14)), (1, .int x)] := hl
  have hK : va_K D vwCl (hT ka) s := hK
  have hg_1 := s_rng x
  refine lv_aload_n hx hb dX3_add_0 rfl (lv_at hl 0 rfl) ?_
  have bx_2 : (0 : Int) ≤ (i 14 1).toInt ∧ (i 14 1).toInt ≤ 60 := hO 14 1
  refine h_geti (ci := 3) (C := RX3) (F := TX3) (N := 2) hx hb hts in3 hown hK hH (by decide) (rfl : kd 14 = 3) (by decide) rfl 1 (by decide) wd0 (fun _ h9 => h9) (by decide) rfl dX3_add_1 ?_
  refine lv_aload_n hx hb dX3_add_4 rfl (lv_at hl 0 rfl) ?_
  refine h_getr (ci := 3) (C := RX3) (F := TX3) (N := 2) hx hb hts in3 hown hK hH (by decide) (rfl : kd 14 = 3) (by decide) rfl 0 (by decide) wd1 (fun _ h9 => h9) (by decide) rfl (t := 15) (hR 14 0 rfl) (by decide) dX3_add_5 ?_
  refine h_alen (v := 60) hx hb hK hH (by decide) (rfl : kd 15 = 14) (by decide) (by rw [(rfl : ln 15 = 60)]; rfl) dX3_add_8 ?_
  refine lv_icmp_ge (tgt := 32) hx hb dX3_add_9 (by decide) (fun c_3 => ?_) (fun c_3 => ?_)
  · skip
    have h_4 := s_le (show (60 : Int32).toInt = 60 from rfl) (rfl : (i 14 1).toInt = _) c_3
    exact sj_vret hx hb hr hlocks hS i ⟨hO, (fun a ha => rfl)⟩ hH (sj_Knil hK) (Nat.le_of_ble_eq_true rfl) (Nat.le_of_ble_eq_true rfl) dX3_add_32
  · skip
    have h_5 := s_nle (show (60 : Int32).toInt = 60 from rfl) (rfl : (i 14 1).toInt = _) c_3
    refine lv_aload_n hx hb dX3_add_12 rfl (lv_at hl 0 rfl) ?_
    refine h_getr (ci := 3) (C := RX3) (F := TX3) (N := 2) hx hb hts in3 hown hK hH (by decide) (rfl : kd 14 = 3) (by decide) rfl 0 (by decide) wd1 (fun _ h9 => h9) (by decide) rfl (t := 15) (hR 14 0 rfl) (by decide) dX3_add_13 ?_
    refine lv_aload_n hx hb dX3_add_16 rfl (lv_at hl 0 rfl) ?_
    refine h_geti (ci := 3) (C := RX3) (F := TX3) (N := 2) hx hb hts in3 hown hK hH (by decide) (rfl : kd 14 = 3) (by decide) rfl 1 (by decide) wd0 (fun _ h9 => h9) (by decide) rfl dX3_add_17 ?_
    refine lv_iload_n hx hb dX3_add_20 rfl (lv_at hl 1 rfl) ?_
    obtain ⟨z_6, ez_6⟩ : ∃ z, vp_nar .char x = z := ⟨_, rfl⟩
    have hz_6 := s_narcR ez_6
    have hO_7 := okp hO (n := 15) (k := ((i 14 1).toInt).toNat) (v := z_6) (show (0 : Int) ≤ (z_6 : Int32).toInt ∧ (z_6 : Int32).toInt ≤ 65535 from ⟨by omega, by omega⟩)
    refine h_cast hx hb hK hH hS (by decide) (rfl : kd 15 = 14) (s_vin (N := 60) (rfl : (i 14 1).toInt = _) (rfl : ln 15 = 60) (by omega) (by omega)) dX3_add_21 (fun H locs hH hS => ?_)
    rw [ez_6] at hH
    rw [s_cl (show (i 14 1).toInt = (i 14 1).toInt by omega)] at hH
    refine lv_aload_n hx hb dX3_add_22 rfl (lv_at hl 0 rfl) ?_
    refine lv_dup hx hb dX3_add_23 rfl ?_
    refine h_geti (ci := 3) (C := RX3) (F := TX3) (N := 2) hx hb hts in3 hown hK hH (by decide) (rfl : kd 14 = 3) (by decide) rfl 1 (by decide) wd0 (fun _ h9 => h9) (by decide) rfl dX3_add_24 ?_
    refine sj_i (y := (i 14 1)) (congrFun (up2_n _ _ (by decide)) _) ?_
    refine lv_iconst (v := 1) hx hb dX3_add_27 (by decide) ?_
    refine lv_iadd hx hb dX3_add_28 ?_
    obtain ⟨z_8, ez_8, hz_8⟩ := s_add (rfl : (i 14 1).toInt = _) (show (1 : Int32).toInt = 1 from rfl) (by omega) (by omega)
    refine sj_i ez_8 ?_
    have hO_9 := okp hO_7 (n := 14) (k := 1) (v := z_8) (show (0 : Int) ≤ (z_8 : Int32).toInt ∧ (z_8 : Int32).toInt ≤ 60 from ⟨by omega, by omega⟩)
    refine h_puti (ty := .int) (ci := 3) (C := RX3) (F := TX3) (N := 2) hx hb hts in3 tyX3 tyX3_ok nmX3 hown hK hH hS (by decide) (rfl : kd 14 = 3) (by decide) rfl 1 (by decide) wd0 (fun _ h9 => h9) rfl (by decide +kernel) rfl rfl (by decide) rfl dX3_add_29 (fun H locs hH hS => ?_)
    exact sj_vret hx hb hr hlocks hS (up2 (up2 i 15 ((i 14 1).toInt).toNat z_6) 14 1 z_8) ⟨hO_9, (fun a ha => ((up2_n _ _ (by omega)).trans (up2_n _ _ (by omega))))⟩ hH (sj_Knil hK) (Nat.le_of_ble_eq_true rfl) (Nat.le_of_ble_eq_true rfl) dX3_add_32
set_option maxHeartbeats 2000000 in
set_option maxRecDepth 100000 in
/-- a character behind the others -/
theorem k_add_cellText (l : Launch) (D : va_G) (g : Nat → Nat) (ka : Nat → ClassId) (ad : Nat → Nat) (i : Nat → Nat → Int32) (r : Nat → Nat → Nat) (L : Nat → Nat → Int64) (d : Nat → Nat → UInt64) (x : Int32) (hO : OkI i) (hR : RS r) (sz : Nat)  : Met l yX3_add wsX3_add ({ frames := 0, cells := 0, slots := 0, locals := 0 }) (va_Pc [.ref (g 16), .int x] (sj_B D (hwc g ka i r L d) (hT ka) sz (gx ad (va_A (hwc g ka i r L d) sz)))) (sj_Qv (S := (Nat → Nat → Int32)) D (fun u => OkI u ∧ (∀ a, ¬ (a = 16 ∨ a = 17) → u a = i a)) (fun u => hwc g ka u r L d) (fun _ => []) (va_A (hwc g ka i r L d) sz)) 0 0 (va_A (hwc g ka i r L d) sz) := by
  refine x_met (Ex := gx ad) (cc := cX3_add) (maxL := 2) (ret := none) (by decide) rfl (Nat.le_of_ble_eq_true rfl) ?_
  intro p e s m below meth c A ls hx hb hr hml hts hown hlocks hA hS hH hK hE hl
  have hown : s.vm.findClass RX3 = some m.cls := hown
  have in3 : ∀ w ∈ wsX30, w ∈ wsX3_add := (fun _ h => (List.mem_cons_of_mem _ (List.mem_append_right _ h)))
  have wd0 := hts (.fieldLink RX3 13 "StoryDesk$Letters" "length" "I") (List.mem_cons_of_mem _ (List.mem_append_left _ lm0))
  have wd1 := hts (.fieldLink RX3 7 "StoryDesk$Letters" "chars" "[C") (List.mem_cons_of_mem _ (List.mem_append_left _ lm1))
  have hl : lv_has ls 2 [(0, .ref (g 16)), (1, .int x)] := hl
  have hK : va_K D vwCl (hT ka) s := hK
  have hg_1 := s_rng x
  refine lv_aload_n hx hb dX3_add_0 rfl (lv_at hl 0 rfl) ?_
  have bx_2 : (0 : Int) ≤ (i 16 1).toInt ∧ (i 16 1).toInt ≤ 60 := hO 16 1
  refine h_geti (ci := 3) (C := RX3) (F := TX3) (N := 2) hx hb hts in3 hown hK hH (by decide) (rfl : kd 16 = 3) (by decide) rfl 1 (by decide) wd0 (fun _ h9 => h9) (by decide) rfl dX3_add_1 ?_
  refine lv_aload_n hx hb dX3_add_4 rfl (lv_at hl 0 rfl) ?_
  refine h_getr (ci := 3) (C := RX3) (F := TX3) (N := 2) hx hb hts in3 hown hK hH (by decide) (rfl : kd 16 = 3) (by decide) rfl 0 (by decide) wd1 (fun _ h9 => h9) (by decide) rfl (t := 17) (hR 16 0 rfl) (by decide) dX3_add_5 ?_
  refine h_alen (v := 60) hx hb hK hH (by decide) (rfl : kd 17 = 14) (by decide) (by rw [(rfl : ln 17 = 60)]; rfl) dX3_add_8 ?_
  refine lv_icmp_ge (tgt := 32) hx hb dX3_add_9 (by decide) (fun c_3 => ?_) (fun c_3 => ?_)
  · skip
    have h_4 := s_le (show (60 : Int32).toInt = 60 from rfl) (rfl : (i 16 1).toInt = _) c_3
    exact sj_vret hx hb hr hlocks hS i ⟨hO, (fun a ha => rfl)⟩ hH (sj_Knil hK) (Nat.le_of_ble_eq_true rfl) (Nat.le_of_ble_eq_true rfl) dX3_add_32
  · skip
    have h_5 := s_nle (show (60 : Int32).toInt = 60 from rfl) (rfl : (i 16 1).toInt = _) c_3
    refine lv_aload_n hx hb dX3_add_12 rfl (lv_at hl 0 rfl) ?_
    refine h_getr (ci := 3) (C := RX3) (F := TX3) (N := 2) hx hb hts in3 hown hK hH (by decide) (rfl : kd 16 = 3) (by decide) rfl 0 (by decide) wd1 (fun _ h9 => h9) (by decide) rfl (t := 17) (hR 16 0 rfl) (by decide) dX3_add_13 ?_
    refine lv_aload_n hx hb dX3_add_16 rfl (lv_at hl 0 rfl) ?_
    refine h_geti (ci := 3) (C := RX3) (F := TX3) (N := 2) hx hb hts in3 hown hK hH (by decide) (rfl : kd 16 = 3) (by decide) rfl 1 (by decide) wd0 (fun _ h9 => h9) (by decide) rfl dX3_add_17 ?_
    refine lv_iload_n hx hb dX3_add_20 rfl (lv_at hl 1 rfl) ?_
    obtain ⟨z_6, ez_6⟩ : ∃ z, vp_nar .char x = z := ⟨_, rfl⟩
    have hz_6 := s_narcR ez_6
    have hO_7 := okp hO (n := 17) (k := ((i 16 1).toInt).toNat) (v := z_6) (show (0 : Int) ≤ (z_6 : Int32).toInt ∧ (z_6 : Int32).toInt ≤ 65535 from ⟨by omega, by omega⟩)
    refine h_cast hx hb hK hH hS (by decide) (rfl : kd 17 = 14) (s_vin (N := 60) (rfl : (i 16 1).toInt = _) (rfl : ln 17 = 60) (by omega) (by omega)) dX3_add_21 (fun H locs hH hS => ?_)
    rw [ez_6] at hH
    rw [s_cl (show (i 16 1).toInt = (i 16 1).toInt by omega)] at hH
    refine lv_aload_n hx hb dX3_add_22 rfl (lv_at hl 0 rfl) ?_
    refine lv_dup hx hb dX3_add_23 rfl ?_
    refine h_geti (ci := 3) (C := RX3) (F := TX3) (N := 2) hx hb hts in3 hown hK hH (by decide) (rfl : kd 16 = 3) (by decide) rfl 1 (by decide) wd0 (fun _ h9 => h9) (by decide) rfl dX3_add_24 ?_
    refine sj_i (y := (i 16 1)) (congrFun (up2_n _ _ (by decide)) _) ?_
    refine lv_iconst (v := 1) hx hb dX3_add_27 (by decide) ?_
    refine lv_iadd hx hb dX3_add_28 ?_
    obtain ⟨z_8, ez_8, hz_8⟩ := s_add (rfl : (i 16 1).toInt = _) (show (1 : Int32).toInt = 1 from rfl) (by omega) (by omega)
    refine sj_i ez_8 ?_
    have hO_9 := okp hO_7 (n := 16) (k := 1) (v := z_8) (show (0 : Int) ≤ (z_8 : Int32).toInt ∧ (z_8 : Int32).toInt ≤ 60 from ⟨by omega, by omega⟩)
    refine h_puti (ty := .int) (ci := 3) (C := RX3) (F := TX3) (N := 2) hx hb hts in3 tyX3 tyX3_ok nmX3 hown hK hH hS (by decide) (rfl : kd 16 = 3) (by decide) rfl 1 (by decide) wd0 (fun _ h9 => h9) rfl (by decide +kernel) rfl rfl (by decide) rfl dX3_add_29 (fun H locs hH hS => ?_)
    exact sj_vret hx hb hr hlocks hS (up2 (up2 i 17 ((i 16 1).toInt).toNat z_6) 16 1 z_8) ⟨hO_9, (fun a ha => ((up2_n _ _ (by omega)).trans (up2_n _ _ (by omega))))⟩ hH (sj_Knil hK) (Nat.le_of_ble_eq_true rfl) (Nat.le_of_ble_eq_true rfl) dX3_add_32
set_option maxHeartbeats 2000000 in
set_option maxRecDepth 100000 in
theorem k_digits_stepText (l : Launch) (D : va_G) (g : Nat → Nat) (ka : Nat → ClassId) (ad : Nat → Nat) (i : Nat → Nat → Int32) (r : Nat → Nat → Nat) (L : Nat → Nat → Int64) (d : Nat → Nat → UInt64) (x : Int32) (y : Int32) (hO : OkI i) (hR : RS r) (sz : Nat) (hx0 : 0 ≤ x.toInt) (hx1 : x.toInt ≤ 200) (hy0 : 0 ≤ y.toInt) (hy1 : y.toInt ≤ 9) : Met l yX3_digits wsX3_digits ({ frames := 0, cells := 0, slots := 0, locals := 0 }) (va_Pc [.ref (g 14), .int x, .int y] (sj_B D (hwc g ka i r L d) (hT ka) sz (gx ad (va_A (hwc g ka i r L d) sz)))) (sj_Qi (S := Unit) D (fun v u => ((0 : Int) ≤ v.toInt ∧ v.toInt ≤ 9)) (fun _ => hwc g ka i r L d) (fun _ => []) (va_A (hwc g ka i r L d) sz)) 0 0 (va_A (hwc g ka i r L d) sz) := by
  refine x_met (Ex := gx ad) (cc := cX3_digits) (maxL := 4) (ret := (some .int)) (by decide) rfl (Nat.le_of_ble_eq_true rfl) ?_
  intro p e s m below meth c A ls hx hb hr hml hts hown hlocks hA hS hH hK hE hl
  have hown : s.vm.findClass RX3 = some m.cls := hown
  have in3 : ∀ w ∈ wsX30, w ∈ wsX3_digits := (fun _ h => (List.mem_cons_of_mem _ (List.mem_append_right _ h)))
  have wd0 := hts (.fieldLink RX3 13 "StoryDesk$Letters" "length" "I") (List.mem_cons_of_mem _ (List.mem_append_left _ lm0))
  have wd1 := hts (.fieldLink RX3 7 "StoryDesk$Letters" "chars" "[C") (List.mem_cons_of_mem _ (List.mem_append_left _ lm1))
  have hl : lv_has ls 4 [(0, .ref (g 14)), (1, .int x), (2, .int y)] := hl
  have hK : va_K D vwCl (hT ka) s := hK
  refine lv_iconst (v := 0) hx hb dX3_digits_0 (by decide) ?_
  refine lv_istore_n (lv' := [(3, .int 0), (0, .ref (g 14)), (1, .int x), (2, .int y)]) hx hb dX3_digits_1 rfl hl (by decide) rfl (fun ls hl => ?_)
  -- loop at 2
  have lp_1 : ∀ (fuel_lp_1 : Nat) (f : Int32) (H : Heap) (locs : List Loc) (ls : Array Slot), (9 - f.toInt).toNat < fuel_lp_1 → (0 : Int) ≤ f.toInt ∧ f.toInt ≤ 9 → f.toInt ≤ y.toInt → lv_has ls 4 [(3, .int f), (0, .ref (g 14)), (1, .int x), (2, .int y)] → sj_H D A (hwc g ka i r L d) H → va_S A s.heap H locs → W p l e (headSpec wsX3_digits ({ frames := 0, cells := 0, slots := 0, locals := 0 })).room s m ([.ref (g 14), .int x, .int y] : List Value).toArray below meth c H locs 0 0 (MQ below (sj_Qi (S := Unit) D (fun v u => ((0 : Int) ≤ v.toInt ∧ v.toInt ≤ 9)) (fun _ => hwc g ka i r L d) (fun _ => []) A) ([.ref (g 14), .int x, .int y] : List Value).toArray s 0 0 A) (F0 m 2 ls []) := by
    intro fuel_lp_1
    induction fuel_lp_1 with
    | zero => intros; omega
    | succ fuel_lp_1 ih_lp_1 =>
      intro f H locs ls hm hr_f hi_lp_1_0 hl hH hS
      refine lv_iload_n hx hb dX3_digits_2 rfl (lv_at hl 0 rfl) ?_
      refine lv_iload_n hx hb dX3_digits_3 rfl (lv_at hl 3 rfl) ?_
      refine lv_icmp_ge (tgt := 49) hx hb dX3_digits_4 (by decide) (fun c_2 => ?_) (fun c_2 => ?_)
      · skip
        have h_3 := s_le (rfl : y.toInt = _) (rfl : f.toInt = _) c_2
        refine lv_iload_n hx hb dX3_digits_49 rfl (lv_at hl 0 rfl) ?_
        exact sj_zret hx hb hr hlocks rfl hS () ⟨by omega, by omega⟩ hH (sj_Knil hK) (Nat.le_of_ble_eq_true rfl) (Nat.le_of_ble_eq_true rfl) dX3_digits_50
      · skip
        have h_4 := s_nle (rfl : y.toInt = _) (rfl : f.toInt = _) c_2
        refine lv_iload_n hx hb dX3_digits_7 rfl (lv_at hl 2 rfl) ?_
        refine lv_iload_n hx hb dX3_digits_8 rfl (lv_at hl 0 rfl) ?_
        refine lv_iadd hx hb dX3_digits_9 ?_
        obtain ⟨z_5, ez_5, hz_5⟩ := s_add (rfl : x.toInt = _) (rfl : f.toInt = _) (by omega) (by omega)
        refine sj_i ez_5 ?_
        refine lv_aload_n hx hb dX3_digits_10 rfl (lv_at hl 1 rfl) ?_
        have bx_6 : (0 : Int) ≤ (i 14 1).toInt ∧ (i 14 1).toInt ≤ 60 := hO 14 1
        refine h_geti (ci := 3) (C := RX3) (F := TX3) (N := 2) hx hb hts in3 hown hK hH (by decide) (rfl : kd 14 = 3) (by decide) rfl 1 (by decide) wd0 (fun _ h9 => h9) (by decide) rfl dX3_digits_11 ?_
        refine lv_icmp_ge (tgt := 49) hx hb dX3_digits_14 (by decide) (fun c_7 => ?_) (fun c_7 => ?_)
        · skip
          have h_8 := s_le (rfl : (i 14 1).toInt = _) (rfl : z_5.toInt = _) c_7
          refine lv_iload_n hx hb dX3_digits_49 rfl (lv_at hl 0 rfl) ?_
          exact sj_zret hx hb hr hlocks rfl hS () ⟨by omega, by omega⟩ hH (sj_Knil hK) (Nat.le_of_ble_eq_true rfl) (Nat.le_of_ble_eq_true rfl) dX3_digits_50
        · skip
          have h_9 := s_nle (rfl : (i 14 1).toInt = _) (rfl : z_5.toInt = _) c_7
          refine lv_aload_n hx hb dX3_digits_17 rfl (lv_at hl 1 rfl) ?_
          refine h_getr (ci := 3) (C := RX3) (F := TX3) (N := 2) hx hb hts in3 hown hK hH (by decide) (rfl : kd 14 = 3) (by decide) rfl 0 (by decide) wd1 (fun _ h9 => h9) (by decide) rfl (t := 15) (hR 14 0 rfl) (by decide) dX3_digits_18 ?_
          refine lv_iload_n hx hb dX3_digits_21 rfl (lv_at hl 2 rfl) ?_
          refine lv_iload_n hx hb dX3_digits_22 rfl (lv_at hl 0 rfl) ?_
          refine lv_iadd hx hb dX3_digits_23 ?_
          obtain ⟨z_10, ez_10, hz_10⟩ := s_add (rfl : x.toInt = _) (rfl : f.toInt = _) (by omega) (by omega)
          refine sj_i ez_10 ?_
          have bx_11 : (0 : Int) ≤ (i 15 (f.toInt + x.toInt).toNat).toInt ∧ (i 15 (f.toInt + x.toInt).toNat).toInt ≤ 65535 := hO 15 (f.toInt + x.toInt).toNat
          refine h_cald hx hb hK hH (by decide) (rfl : kd 15 = 14) (s_vin (N := 60) (rfl : z_10.toInt = _) (rfl : ln 15 = 60) (by omega) (by omega)) dX3_digits_24 ?_
          have ek_12 : z_10.toNatClampNeg = (f.toInt + x.toInt).toNat := (s_cl (show z_10.toInt = f.toInt + x.toInt by omega))
          refine sj_i (y := (i 15 (f.toInt + x.toInt).toNat)) (by rw [ek_12]) ?_
          refine lv_bipush (v := 48) hx hb dX3_digits_25 (by decide) ?_
          refine lv_icmp_lt (tgt := 49) hx hb dX3_digits_27 (by decide) (fun c_13 => ?_) (fun c_13 => ?_)
          · skip
            have h_14 := s_lt (rfl : (i 15 (f.toInt + x.toInt).toNat).toInt = _) (show (48 : Int32).toInt = 48 from rfl) c_13
            refine lv_iload_n hx hb dX3_digits_49 rfl (lv_at hl 0 rfl) ?_
            exact sj_zret hx hb hr hlocks rfl hS () ⟨by omega, by omega⟩ hH (sj_Knil hK) (Nat.le_of_ble_eq_true rfl) (Nat.le_of_ble_eq_true rfl) dX3_digits_50
          · skip
            have h_15 := s_nlt (rfl : (i 15 (f.toInt + x.toInt).toNat).toInt = _) (show (48 : Int32).toInt = 48 from rfl) c_13
            refine lv_aload_n hx hb dX3_digits_30 rfl (lv_at hl 1 rfl) ?_
            refine h_getr (ci := 3) (C := RX3) (F := TX3) (N := 2) hx hb hts in3 hown hK hH (by decide) (rfl : kd 14 = 3) (by decide) rfl 0 (by decide) wd1 (fun _ h9 => h9) (by decide) rfl (t := 15) (hR 14 0 rfl) (by decide) dX3_digits_31 ?_
            refine lv_iload_n hx hb dX3_digits_34 rfl (lv_at hl 2 rfl) ?_
            refine lv_iload_n hx hb dX3_digits_35 rfl (lv_at hl 0 rfl) ?_
            refine lv_iadd hx hb dX3_digits_36 ?_
            obtain ⟨z_16, ez_16, hz_16⟩ := s_add (rfl : x.toInt = _) (rfl : f.toInt = _) (by omega) (by omega)
            refine sj_i ez_16 ?_
            refine h_cald hx hb hK hH (by decide) (rfl : kd 15 = 14) (s_vin (N := 60) (rfl : z_16.toInt = _) (rfl : ln 15 = 60) (by omega) (by omega)) dX3_digits_37 ?_
            have ek_17 : z_16.toNatClampNeg = (f.toInt + x.toInt).toNat := (s_cl (show z_16.toInt = f.toInt + x.toInt by omega))
            refine sj_i (y := (i 15 (f.toInt + x.toInt).toNat)) (by rw [ek_17]) ?_
            refine lv_bipush (v := 57) hx hb dX3_digits_38 (by decide) ?_
            refine lv_icmp_gt (tgt := 49) hx hb dX3_digits_40 (by decide) (fun c_18 => ?_) (fun c_18 => ?_)
            · skip
              have h_19 := s_lt (show (57 : Int32).toInt = 57 from rfl) (rfl : (i 15 (f.toInt + x.toInt).toNat).toInt = _) c_18
              refine lv_iload_n hx hb dX3_digits_49 rfl (lv_at hl 0 rfl) ?_
              exact sj_zret hx hb hr hlocks rfl hS () ⟨by omega, by omega⟩ hH (sj_Knil hK) (Nat.le_of_ble_eq_true rfl) (Nat.le_of_ble_eq_true rfl) dX3_digits_50
            · skip
              have h_20 := s_nlt (show (57 : Int32).toInt = 57 from rfl) (rfl : (i 15 (f.toInt + x.toInt).toNat).toInt = _) c_18
              obtain ⟨z_21, ez_21, hz_21⟩ := s_add (rfl : f.toInt = _) (show (1 : Int32).toInt = 1 from rfl) (by omega) (by omega)
              refine lv_iinc (v := z_21) (lv' := [(3, .int z_21), (0, .ref (g 14)), (1, .int x), (2, .int y)]) hx hb dX3_digits_43 hl (k := 0) rfl ez_21 (by decide) rfl (fun ls hl => ?_)
              refine lv_goto (tgt := 2) hx hb dX3_digits_46 (by decide) ?_
              exact ih_lp_1 z_21 _ _ ls (by omega) (by omega) (by omega) (lv_sub hl [0, 1, 2, 3] rfl) hH hS
  have hl_22 : (0 : Int32).toInt = 0 := rfl
  exact lp_1 _ 0 _ _ ls (Nat.lt_succ_self _) (by omega) (by omega) (lv_sub hl [0, 1, 2, 3] rfl) hH hS
set_option maxHeartbeats 2000000 in
set_option maxRecDepth 100000 in
theorem k_before_stepText (l : Launch) (D : va_G) (g : Nat → Nat) (ka : Nat → ClassId) (ad : Nat → Nat) (i : Nat → Nat → Int32) (r : Nat → Nat → Nat) (L : Nat → Nat → Int64) (d : Nat → Nat → UInt64) (x : Int32) (y : Int32) (hO : OkI i) (hR : RS r) (sz : Nat) (hy0 : 0 ≤ y.toInt) (hy1 : y.toInt ≤ 200) : Met l yX3_before wsX3_before ({ frames := 0, cells := 0, slots := 0, locals := 0 }) (va_Pc [.ref (g 14), .int x, .int y] (sj_B D (hwc g ka i r L d) (hT ka) sz (gx ad (va_A (hwc g ka i r L d) sz)))) (sj_Qi (S := Unit) D (fun v u => ((0 : Int) ≤ v.toInt ∧ v.toInt ≤ 60)) (fun _ => hwc g ka i r L d) (fun _ => []) (va_A (hwc g ka i r L d) sz)) 0 0 (va_A (hwc g ka i r L d) sz) := by
  refine x_met (Ex := gx ad) (cc := cX3_before) (maxL := 4) (ret := (some .int)) (by decide) rfl (Nat.le_of_ble_eq_true rfl) ?_
  intro p e s m below meth c A ls hx hb hr hml hts hown hlocks hA hS hH hK hE hl
  have hown : s.vm.findClass RX3 = some m.cls := hown
  have in3 : ∀ w ∈ wsX30, w ∈ wsX3_before := (fun _ h => (List.mem_cons_of_mem _ (List.mem_append_right _ h)))
  have wd0 := hts (.fieldLink RX3 13 "StoryDesk$Letters" "length" "I") (List.mem_cons_of_mem _ (List.mem_append_left _ lm0))
  have wd1 := hts (.fieldLink RX3 7 "StoryDesk$Letters" "chars" "[C") (List.mem_cons_of_mem _ (List.mem_append_left _ lm1))
  have hl : lv_has ls 4 [(0, .ref (g 14)), (1, .int x), (2, .int y)] := hl
  have hK : va_K D vwCl (hT ka) s := hK
  have hg_1 := s_rng x
  refine lv_iconst (v := 0) hx hb dX3_before_0 (by decide) ?_
  refine lv_istore_n (lv' := [(3, .int 0), (0, .ref (g 14)), (1, .int x), (2, .int y)]) hx hb dX3_before_1 rfl hl (by decide) rfl (fun ls hl => ?_)
  -- loop at 2
  have lp_2 : ∀ (fuel_lp_2 : Nat) (f : Int32) (H : Heap) (locs : List Loc) (ls : Array Slot), (60 - f.toInt).toNat < fuel_lp_2 → (0 : Int) ≤ f.toInt ∧ f.toInt ≤ 60 → f.toInt = 0 ∨ y.toInt + f.toInt ≤ (i 14 1).toInt → lv_has ls 4 [(3, .int f), (0, .ref (g 14)), (1, .int x), (2, .int y)] → sj_H D A (hwc g ka i r L d) H → va_S A s.heap H locs → W p l e (headSpec wsX3_before ({ frames := 0, cells := 0, slots := 0, locals := 0 })).room s m ([.ref (g 14), .int x, .int y] : List Value).toArray below meth c H locs 0 0 (MQ below (sj_Qi (S := Unit) D (fun v u => ((0 : Int) ≤ v.toInt ∧ v.toInt ≤ 60)) (fun _ => hwc g ka i r L d) (fun _ => []) A) ([.ref (g 14), .int x, .int y] : List Value).toArray s 0 0 A) (F0 m 2 ls []) := by
    intro fuel_lp_2
    induction fuel_lp_2 with
    | zero => intros; omega
    | succ fuel_lp_2 ih_lp_2 =>
      intro f H locs ls hm hr_f hi_lp_2_0 hl hH hS
      refine lv_iload_n hx hb dX3_before_2 rfl (lv_at hl 3 rfl) ?_
      refine lv_iload_n hx hb dX3_before_3 rfl (lv_at hl 0 rfl) ?_
      refine lv_iadd hx hb dX3_before_4 ?_
      obtain ⟨z_3, ez_3, hz_3⟩ := s_add (rfl : y.toInt = _) (rfl : f.toInt = _) (by omega) (by omega)
      refine sj_i ez_3 ?_
      refine lv_aload_n hx hb dX3_before_5 rfl (lv_at hl 1 rfl) ?_
      have bx_4 : (0 : Int) ≤ (i 14 1).toInt ∧ (i 14 1).toInt ≤ 60 := hO 14 1
      refine h_geti (ci := 3) (C := RX3) (F := TX3) (N := 2) hx hb hts in3 hown hK hH (by decide) (rfl : kd 14 = 3) (by decide) rfl 1 (by decide) wd0 (fun _ h9 => h9) (by decide) rfl dX3_before_6 ?_
      refine lv_icmp_ge (tgt := 30) hx hb dX3_before_9 (by decide) (fun c_5 => ?_) (fun c_5 => ?_)
      · skip
        have h_6 := s_le (rfl : (i 14 1).toInt = _) (rfl : z_3.toInt = _) c_5
        refine lv_iload_n hx hb dX3_before_30 rfl (lv_at hl 0 rfl) ?_
        exact sj_zret hx hb hr hlocks rfl hS () ⟨by omega, by omega⟩ hH (sj_Knil hK) (Nat.le_of_ble_eq_true rfl) (Nat.le_of_ble_eq_true rfl) dX3_before_31
      · skip
        have h_7 := s_nle (rfl : (i 14 1).toInt = _) (rfl : z_3.toInt = _) c_5
        refine lv_aload_n hx hb dX3_before_12 rfl (lv_at hl 1 rfl) ?_
        refine h_getr (ci := 3) (C := RX3) (F := TX3) (N := 2) hx hb hts in3 hown hK hH (by decide) (rfl : kd 14 = 3) (by decide) rfl 0 (by decide) wd1 (fun _ h9 => h9) (by decide) rfl (t := 15) (hR 14 0 rfl) (by decide) dX3_before_13 ?_
        refine lv_iload_n hx hb dX3_before_16 rfl (lv_at hl 3 rfl) ?_
        refine lv_iload_n hx hb dX3_before_17 rfl (lv_at hl 0 rfl) ?_
        refine lv_iadd hx hb dX3_before_18 ?_
        obtain ⟨z_8, ez_8, hz_8⟩ := s_add (rfl : y.toInt = _) (rfl : f.toInt = _) (by omega) (by omega)
        refine sj_i ez_8 ?_
        have bx_9 : (0 : Int) ≤ (i 15 (f.toInt + y.toInt).toNat).toInt ∧ (i 15 (f.toInt + y.toInt).toNat).toInt ≤ 65535 := hO 15 (f.toInt + y.toInt).toNat
        refine h_cald hx hb hK hH (by decide) (rfl : kd 15 = 14) (s_vin (N := 60) (rfl : z_8.toInt = _) (rfl : ln 15 = 60) (by omega) (by omega)) dX3_before_19 ?_
        have ek_10 : z_8.toNatClampNeg = (f.toInt + y.toInt).toNat := (s_cl (show z_8.toInt = f.toInt + y.toInt by omega))
        refine sj_i (y := (i 15 (f.toInt + y.toInt).toNat)) (by rw [ek_10]) ?_
        refine lv_iload_n hx hb dX3_before_20 rfl (lv_at hl 2 rfl) ?_
        refine lv_icmp_eq (tgt := 30) hx hb dX3_before_21 (by decide) (fun c_11 => ?_) (fun c_11 => ?_)
        · skip
          have h_12 := s_eq (rfl : (i 15 (f.toInt + y.toInt).toNat).toInt = _) (rfl : x.toInt = _) c_11
          refine lv_iload_n hx hb dX3_before_30 rfl (lv_at hl 0 rfl) ?_
          exact sj_zret hx hb hr hlocks rfl hS () ⟨by omega, by omega⟩ hH (sj_Knil hK) (Nat.le_of_ble_eq_true rfl) (Nat.le_of_ble_eq_true rfl) dX3_before_31
        · skip
          have h_13 := s_ne (rfl : (i 15 (f.toInt + y.toInt).toNat).toInt = _) (rfl : x.toInt = _) c_11
          obtain ⟨z_14, ez_14, hz_14⟩ := s_add (rfl : f.toInt = _) (show (1 : Int32).toInt = 1 from rfl) (by omega) (by omega)
          refine lv_iinc (v := z_14) (lv' := [(3, .int z_14), (0, .ref (g 14)), (1, .int x), (2, .int y)]) hx hb dX3_before_24 hl (k := 0) rfl ez_14 (by decide) rfl (fun ls hl => ?_)
          refine lv_goto (tgt := 2) hx hb dX3_before_27 (by decide) ?_
          exact ih_lp_2 z_14 _ _ ls (by omega) (by omega) (by omega) (lv_sub hl [0, 1, 2, 3] rfl) hH hS
  have hl_15 : (0 : Int32).toInt = 0 := rfl
  exact lp_2 _ 0 _ _ ls (Nat.lt_succ_self _) (by omega) (by omega) (lv_sub hl [0, 1, 2, 3] rfl) hH hS
set_option maxHeartbeats 2000000 in
set_option maxRecDepth 100000 in
theorem k_digits_cellText (l : Launch) (D : va_G) (g : Nat → Nat) (ka : Nat → ClassId) (ad : Nat → Nat) (i : Nat → Nat → Int32) (r : Nat → Nat → Nat) (L : Nat → Nat → Int64) (d : Nat → Nat → UInt64) (x : Int32) (y : Int32) (hO : OkI i) (hR : RS r) (sz : Nat) (hx0 : 0 ≤ x.toInt) (hx1 : x.toInt ≤ 200) (hy0 : 0 ≤ y.toInt) (hy1 : y.toInt ≤ 9) : Met l yX3_digits wsX3_digits ({ frames := 0, cells := 0, slots := 0, locals := 0 }) (va_Pc [.ref (g 16), .int x, .int y] (sj_B D (hwc g ka i r L d) (hT ka) sz (gx ad (va_A (hwc g ka i r L d) sz)))) (sj_Qi (S := Unit) D (fun v u => ((0 : Int) ≤ v.toInt ∧ v.toInt ≤ 9)) (fun _ => hwc g ka i r L d) (fun _ => []) (va_A (hwc g ka i r L d) sz)) 0 0 (va_A (hwc g ka i r L d) sz) := by
  refine x_met (Ex := gx ad) (cc := cX3_digits) (maxL := 4) (ret := (some .int)) (by decide) rfl (Nat.le_of_ble_eq_true rfl) ?_
  intro p e s m below meth c A ls hx hb hr hml hts hown hlocks hA hS hH hK hE hl
  have hown : s.vm.findClass RX3 = some m.cls := hown
  have in3 : ∀ w ∈ wsX30, w ∈ wsX3_digits := (fun _ h => (List.mem_cons_of_mem _ (List.mem_append_right _ h)))
  have wd0 := hts (.fieldLink RX3 13 "StoryDesk$Letters" "length" "I") (List.mem_cons_of_mem _ (List.mem_append_left _ lm0))
  have wd1 := hts (.fieldLink RX3 7 "StoryDesk$Letters" "chars" "[C") (List.mem_cons_of_mem _ (List.mem_append_left _ lm1))
  have hl : lv_has ls 4 [(0, .ref (g 16)), (1, .int x), (2, .int y)] := hl
  have hK : va_K D vwCl (hT ka) s := hK
  refine lv_iconst (v := 0) hx hb dX3_digits_0 (by decide) ?_
  refine lv_istore_n (lv' := [(3, .int 0), (0, .ref (g 16)), (1, .int x), (2, .int y)]) hx hb dX3_digits_1 rfl hl (by decide) rfl (fun ls hl => ?_)
  -- loop at 2
  have lp_1 : ∀ (fuel_lp_1 : Nat) (f : Int32) (H : Heap) (locs : List Loc) (ls : Array Slot), (9 - f.toInt).toNat < fuel_lp_1 → (0 : Int) ≤ f.toInt ∧ f.toInt ≤ 9 → f.toInt ≤ y.toInt → lv_has ls 4 [(3, .int f), (0, .ref (g 16)), (1, .int x), (2, .int y)] → sj_H D A (hwc g ka i r L d) H → va_S A s.heap H locs → W p l e (headSpec wsX3_digits ({ frames := 0, cells := 0, slots := 0, locals := 0 })).room s m ([.ref (g 16), .int x, .int y] : List Value).toArray below meth c H locs 0 0 (MQ below (sj_Qi (S := Unit) D (fun v u => ((0 : Int) ≤ v.toInt ∧ v.toInt ≤ 9)) (fun _ => hwc g ka i r L d) (fun _ => []) A) ([.ref (g 16), .int x, .int y] : List Value).toArray s 0 0 A) (F0 m 2 ls []) := by
    intro fuel_lp_1
    induction fuel_lp_1 with
    | zero => intros; omega
    | succ fuel_lp_1 ih_lp_1 =>
      intro f H locs ls hm hr_f hi_lp_1_0 hl hH hS
      refine lv_iload_n hx hb dX3_digits_2 rfl (lv_at hl 0 rfl) ?_
      refine lv_iload_n hx hb dX3_digits_3 rfl (lv_at hl 3 rfl) ?_
      refine lv_icmp_ge (tgt := 49) hx hb dX3_digits_4 (by decide) (fun c_2 => ?_) (fun c_2 => ?_)
      · skip
        have h_3 := s_le (rfl : y.toInt = _) (rfl : f.toInt = _) c_2
        refine lv_iload_n hx hb dX3_digits_49 rfl (lv_at hl 0 rfl) ?_
        exact sj_zret hx hb hr hlocks rfl hS () ⟨by omega, by omega⟩ hH (sj_Knil hK) (Nat.le_of_ble_eq_true rfl) (Nat.le_of_ble_eq_true rfl) dX3_digits_50
      · skip
        have h_4 := s_nle (rfl : y.toInt = _) (rfl : f.toInt = _) c_2
        refine lv_iload_n hx hb dX3_digits_7 rfl (lv_at hl 2 rfl) ?_
        refine lv_iload_n hx hb dX3_digits_8 rfl (lv_at hl 0 rfl) ?_
        refine lv_iadd hx hb dX3_digits_9 ?_
        obtain ⟨z_5, ez_5, hz_5⟩ := s_add (rfl : x.toInt = _) (rfl : f.toInt = _) (by omega) (by omega)
        refine sj_i ez_5 ?_
        refine lv_aload_n hx hb dX3_digits_10 rfl (lv_at hl 1 rfl) ?_
        have bx_6 : (0 : Int) ≤ (i 16 1).toInt ∧ (i 16 1).toInt ≤ 60 := hO 16 1
        refine h_geti (ci := 3) (C := RX3) (F := TX3) (N := 2) hx hb hts in3 hown hK hH (by decide) (rfl : kd 16 = 3) (by decide) rfl 1 (by decide) wd0 (fun _ h9 => h9) (by decide) rfl dX3_digits_11 ?_
        refine lv_icmp_ge (tgt := 49) hx hb dX3_digits_14 (by decide) (fun c_7 => ?_) (fun c_7 => ?_)
        · skip
          have h_8 := s_le (rfl : (i 16 1).toInt = _) (rfl : z_5.toInt = _) c_7
          refine lv_iload_n hx hb dX3_digits_49 rfl (lv_at hl 0 rfl) ?_
          exact sj_zret hx hb hr hlocks rfl hS () ⟨by omega, by omega⟩ hH (sj_Knil hK) (Nat.le_of_ble_eq_true rfl) (Nat.le_of_ble_eq_true rfl) dX3_digits_50
        · skip
          have h_9 := s_nle (rfl : (i 16 1).toInt = _) (rfl : z_5.toInt = _) c_7
          refine lv_aload_n hx hb dX3_digits_17 rfl (lv_at hl 1 rfl) ?_
          refine h_getr (ci := 3) (C := RX3) (F := TX3) (N := 2) hx hb hts in3 hown hK hH (by decide) (rfl : kd 16 = 3) (by decide) rfl 0 (by decide) wd1 (fun _ h9 => h9) (by decide) rfl (t := 17) (hR 16 0 rfl) (by decide) dX3_digits_18 ?_
          refine lv_iload_n hx hb dX3_digits_21 rfl (lv_at hl 2 rfl) ?_
          refine lv_iload_n hx hb dX3_digits_22 rfl (lv_at hl 0 rfl) ?_
          refine lv_iadd hx hb dX3_digits_23 ?_
          obtain ⟨z_10, ez_10, hz_10⟩ := s_add (rfl : x.toInt = _) (rfl : f.toInt = _) (by omega) (by omega)
          refine sj_i ez_10 ?_
          have bx_11 : (0 : Int) ≤ (i 17 (f.toInt + x.toInt).toNat).toInt ∧ (i 17 (f.toInt + x.toInt).toNat).toInt ≤ 65535 := hO 17 (f.toInt + x.toInt).toNat
          refine h_cald hx hb hK hH (by decide) (rfl : kd 17 = 14) (s_vin (N := 60) (rfl : z_10.toInt = _) (rfl : ln 17 = 60) (by omega) (by omega)) dX3_digits_24 ?_
          have ek_12 : z_10.toNatClampNeg = (f.toInt + x.toInt).toNat := (s_cl (show z_10.toInt = f.toInt + x.toInt by omega))
          refine sj_i (y := (i 17 (f.toInt + x.toInt).toNat)) (by rw [ek_12]) ?_
          refine lv_bipush (v := 48) hx hb dX3_digits_25 (by decide) ?_
          refine lv_icmp_lt (tgt := 49) hx hb dX3_digits_27 (by decide) (fun c_13 => ?_) (fun c_13 => ?_)
          · skip
            have h_14 := s_lt (rfl : (i 17 (f.toInt + x.toInt).toNat).toInt = _) (show (48 : Int32).toInt = 48 from rfl) c_13
            refine lv_iload_n hx hb dX3_digits_49 rfl (lv_at hl 0 rfl) ?_
            exact sj_zret hx hb hr hlocks rfl hS () ⟨by omega, by omega⟩ hH (sj_Knil hK) (Nat.le_of_ble_eq_true rfl) (Nat.le_of_ble_eq_true rfl) dX3_digits_50
          · skip
            have h_15 := s_nlt (rfl : (i 17 (f.toInt + x.toInt).toNat).toInt = _) (show (48 : Int32).toInt = 48 from rfl) c_13
            refine lv_aload_n hx hb dX3_digits_30 rfl (lv_at hl 1 rfl) ?_
            refine h_getr (ci := 3) (C := RX3) (F := TX3) (N := 2) hx hb hts in3 hown hK hH (by decide) (rfl : kd 16 = 3) (by decide) rfl 0 (by decide) wd1 (fun _ h9 => h9) (by decide) rfl (t := 17) (hR 16 0 rfl) (by decide) dX3_digits_31 ?_
            refine lv_iload_n hx hb dX3_digits_34 rfl (lv_at hl 2 rfl) ?_
            refine lv_iload_n hx hb dX3_digits_35 rfl (lv_at hl 0 rfl) ?_
            refine lv_iadd hx hb dX3_digits_36 ?_
            obtain ⟨z_16, ez_16, hz_16⟩ := s_add (rfl : x.toInt = _) (rfl : f.toInt = _) (by omega) (by omega)
            refine sj_i ez_16 ?_
            refine h_cald hx hb hK hH (by decide) (rfl : kd 17 = 14) (s_vin (N := 60) (rfl : z_16.toInt = _) (rfl : ln 17 = 60) (by omega) (by omega)) dX3_digits_37 ?_
            have ek_17 : z_16.toNatClampNeg = (f.toInt + x.toInt).toNat := (s_cl (show z_16.toInt = f.toInt + x.toInt by omega))
            refine sj_i (y := (i 17 (f.toInt + x.toInt).toNat)) (by rw [ek_17]) ?_
            refine lv_bipush (v := 57) hx hb dX3_digits_38 (by decide) ?_
            refine lv_icmp_gt (tgt := 49) hx hb dX3_digits_40 (by decide) (fun c_18 => ?_) (fun c_18 => ?_)
            · skip
              have h_19 := s_lt (show (57 : Int32).toInt = 57 from rfl) (rfl : (i 17 (f.toInt + x.toInt).toNat).toInt = _) c_18
              refine lv_iload_n hx hb dX3_digits_49 rfl (lv_at hl 0 rfl) ?_
              exact sj_zret hx hb hr hlocks rfl hS () ⟨by omega, by omega⟩ hH (sj_Knil hK) (Nat.le_of_ble_eq_true rfl) (Nat.le_of_ble_eq_true rfl) dX3_digits_50
            · skip
              have h_20 := s_nlt (show (57 : Int32).toInt = 57 from rfl) (rfl : (i 17 (f.toInt + x.toInt).toNat).toInt = _) c_18
              obtain ⟨z_21, ez_21, hz_21⟩ := s_add (rfl : f.toInt = _) (show (1 : Int32).toInt = 1 from rfl) (by omega) (by omega)
              refine lv_iinc (v := z_21) (lv' := [(3, .int z_21), (0, .ref (g 16)), (1, .int x), (2, .int y)]) hx hb dX3_digits_43 hl (k := 0) rfl ez_21 (by decide) rfl (fun ls hl => ?_)
              refine lv_goto (tgt := 2) hx hb dX3_digits_46 (by decide) ?_
              exact ih_lp_1 z_21 _ _ ls (by omega) (by omega) (by omega) (lv_sub hl [0, 1, 2, 3] rfl) hH hS
  have hl_22 : (0 : Int32).toInt = 0 := rfl
  exact lp_1 _ 0 _ _ ls (Nat.lt_succ_self _) (by omega) (by omega) (lv_sub hl [0, 1, 2, 3] rfl) hH hS
set_option maxHeartbeats 2000000 in
set_option maxRecDepth 100000 in
theorem k_before_cellText (l : Launch) (D : va_G) (g : Nat → Nat) (ka : Nat → ClassId) (ad : Nat → Nat) (i : Nat → Nat → Int32) (r : Nat → Nat → Nat) (L : Nat → Nat → Int64) (d : Nat → Nat → UInt64) (x : Int32) (y : Int32) (hO : OkI i) (hR : RS r) (sz : Nat) (hy0 : 0 ≤ y.toInt) (hy1 : y.toInt ≤ 200) : Met l yX3_before wsX3_before ({ frames := 0, cells := 0, slots := 0, locals := 0 }) (va_Pc [.ref (g 16), .int x, .int y] (sj_B D (hwc g ka i r L d) (hT ka) sz (gx ad (va_A (hwc g ka i r L d) sz)))) (sj_Qi (S := Unit) D (fun v u => ((0 : Int) ≤ v.toInt ∧ v.toInt ≤ 60)) (fun _ => hwc g ka i r L d) (fun _ => []) (va_A (hwc g ka i r L d) sz)) 0 0 (va_A (hwc g ka i r L d) sz) := by
  refine x_met (Ex := gx ad) (cc := cX3_before) (maxL := 4) (ret := (some .int)) (by decide) rfl (Nat.le_of_ble_eq_true rfl) ?_
  intro p e s m below meth c A ls hx hb hr hml hts hown hlocks hA hS hH hK hE hl
  have hown : s.vm.findClass RX3 = some m.cls := hown
  have in3 : ∀ w ∈ wsX30, w ∈ wsX3_before := (fun _ h => (List.mem_cons_of_mem _ (List.mem_append_right _ h)))
  have wd0 := hts (.fieldLink RX3 13 "StoryDesk$Letters" "length" "I") (List.mem_cons_of_mem _ (List.mem_append_left _ lm0))
  have wd1 := hts (.fieldLink RX3 7 "StoryDesk$Letters" "chars" "[C") (List.mem_cons_of_mem _ (List.mem_append_left _ lm1))
  have hl : lv_has ls 4 [(0, .ref (g 16)), (1, .int x), (2, .int y)] := hl
  have hK : va_K D vwCl (hT ka) s := hK
  have hg_1 := s_rng x
  refine lv_iconst (v := 0) hx hb dX3_before_0 (by decide) ?_
  refine lv_istore_n (lv' := [(3, .int 0), (0, .ref (g 16)), (1, .int x), (2, .int y)]) hx hb dX3_before_1 rfl hl (by decide) rfl (fun ls hl => ?_)
  -- loop at 2
  have lp_2 : ∀ (fuel_lp_2 : Nat) (f : Int32) (H : Heap) (locs : List Loc) (ls : Array Slot), (60 - f.toInt).toNat < fuel_lp_2 → (0 : Int) ≤ f.toInt ∧ f.toInt ≤ 60 → f.toInt = 0 ∨ y.toInt + f.toInt ≤ (i 16 1).toInt → lv_has ls 4 [(3, .int f), (0, .ref (g 16)), (1, .int x), (2, .int y)] → sj_H D A (hwc g ka i r L d) H → va_S A s.heap H locs → W p l e (headSpec wsX3_before ({ frames := 0, cells := 0, slots := 0, locals := 0 })).room s m ([.ref (g 16), .int x, .int y] : List Value).toArray below meth c H locs 0 0 (MQ below (sj_Qi (S := Unit) D (fun v u => ((0 : Int) ≤ v.toInt ∧ v.toInt ≤ 60)) (fun _ => hwc g ka i r L d) (fun _ => []) A) ([.ref (g 16), .int x, .int y] : List Value).toArray s 0 0 A) (F0 m 2 ls []) := by
    intro fuel_lp_2
    induction fuel_lp_2 with
    | zero => intros; omega
    | succ fuel_lp_2 ih_lp_2 =>
      intro f H locs ls hm hr_f hi_lp_2_0 hl hH hS
      refine lv_iload_n hx hb dX3_before_2 rfl (lv_at hl 3 rfl) ?_
      refine lv_iload_n hx hb dX3_before_3 rfl (lv_at hl 0 rfl) ?_
      refine lv_iadd hx hb dX3_before_4 ?_
      obtain ⟨z_3, ez_3, hz_3⟩ := s_add (rfl : y.toInt = _) (rfl : f.toInt = _) (by omega) (by omega)
      refine sj_i ez_3 ?_
      refine lv_aload_n hx hb dX3_before_5 rfl (lv_at hl 1 rfl) ?_
      have bx_4 : (0 : Int) ≤ (i 16 1).toInt ∧ (i 16 1).toInt ≤ 60 := hO 16 1
      refine h_geti (ci := 3) (C := RX3) (F := TX3) (N := 2) hx hb hts in3 hown hK hH (by decide) (rfl : kd 16 = 3) (by decide) rfl 1 (by decide) wd0 (fun _ h9 => h9) (by decide) rfl dX3_before_6 ?_
      refine lv_icmp_ge (tgt := 30) hx hb dX3_before_9 (by decide) (fun c_5 => ?_) (fun c_5 => ?_)
      · skip
        have h_6 := s_le (rfl : (i 16 1).toInt = _) (rfl : z_3.toInt = _) c_5
        refine lv_iload_n hx hb dX3_before_30 rfl (lv_at hl 0 rfl) ?_
        exact sj_zret hx hb hr hlocks rfl hS () ⟨by omega, by omega⟩ hH (sj_Knil hK) (Nat.le_of_ble_eq_true rfl) (Nat.le_of_ble_eq_true rfl) dX3_before_31
      · skip
        have h_7 := s_nle (rfl : (i 16 1).toInt = _) (rfl : z_3.toInt = _) c_5
        refine lv_aload_n hx hb dX3_before_12 rfl (lv_at hl 1 rfl) ?_
        refine h_getr (ci := 3) (C := RX3) (F := TX3) (N := 2) hx hb hts in3 hown hK hH (by decide) (rfl : kd 16 = 3) (by decide) rfl 0 (by decide) wd1 (fun _ h9 => h9) (by decide) rfl (t := 17) (hR 16 0 rfl) (by decide) dX3_before_13 ?_
        refine lv_iload_n hx hb dX3_before_16 rfl (lv_at hl 3 rfl) ?_
        refine lv_iload_n hx hb dX3_before_17 rfl (lv_at hl 0 rfl) ?_
        refine lv_iadd hx hb dX3_before_18 ?_
        obtain ⟨z_8, ez_8, hz_8⟩ := s_add (rfl : y.toInt = _) (rfl : f.toInt = _) (by omega) (by omega)
        refine sj_i ez_8 ?_
        have bx_9 : (0 : Int) ≤ (i 17 (f.toInt + y.toInt).toNat).toInt ∧ (i 17 (f.toInt + y.toInt).toNat).toInt ≤ 65535 := hO 17 (f.toInt + y.toInt).toNat
        refine h_cald hx hb hK hH (by decide) (rfl : kd 17 = 14) (s_vin (N := 60) (rfl : z_8.toInt = _) (rfl : ln 17 = 60) (by omega) (by omega)) dX3_before_19 ?_
        have ek_10 : z_8.toNatClampNeg = (f.toInt + y.toInt).toNat := (s_cl (show z_8.toInt = f.toInt + y.toInt by omega))
        refine sj_i (y := (i 17 (f.toInt + y.toInt).toNat)) (by rw [ek_10]) ?_
        refine lv_iload_n hx hb dX3_before_20 rfl (lv_at hl 2 rfl) ?_
        refine lv_icmp_eq (tgt := 30) hx hb dX3_before_21 (by decide) (fun c_11 => ?_) (fun c_11 => ?_)
        · skip
          have h_12 := s_eq (rfl : (i 17 (f.toInt + y.toInt).toNat).toInt = _) (rfl : x.toInt = _) c_11
          refine lv_iload_n hx hb dX3_before_30 rfl (lv_at hl 0 rfl) ?_
          exact sj_zret hx hb hr hlocks rfl hS () ⟨by omega, by omega⟩ hH (sj_Knil hK) (Nat.le_of_ble_eq_true rfl) (Nat.le_of_ble_eq_true rfl) dX3_before_31
        · skip
          have h_13 := s_ne (rfl : (i 17 (f.toInt + y.toInt).toNat).toInt = _) (rfl : x.toInt = _) c_11
          obtain ⟨z_14, ez_14, hz_14⟩ := s_add (rfl : f.toInt = _) (show (1 : Int32).toInt = 1 from rfl) (by omega) (by omega)
          refine lv_iinc (v := z_14) (lv' := [(3, .int z_14), (0, .ref (g 16)), (1, .int x), (2, .int y)]) hx hb dX3_before_24 hl (k := 0) rfl ez_14 (by decide) rfl (fun ls hl => ?_)
          refine lv_goto (tgt := 2) hx hb dX3_before_27 (by decide) ?_
          exact ih_lp_2 z_14 _ _ ls (by omega) (by omega) (by omega) (lv_sub hl [0, 1, 2, 3] rfl) hH hS
  have hl_15 : (0 : Int32).toInt = 0 := rfl
  exact lp_2 _ 0 _ _ ls (Nat.lt_succ_self _) (by omega) (by omega) (lv_sub hl [0, 1, 2, 3] rfl) hH hS
