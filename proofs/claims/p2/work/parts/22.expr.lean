def cnc (f : Nat → Int32) : Nat → Nat
  | 0 => 0
  | n + 1 => cnc f n + (if f n = 47 then 0 else 1)
theorem cnc_upd {f : Nat → Int32} {k : Nat} {v : Int32} : ∀ n : Nat, n ≤ k → cnc (upd f k v) n = cnc f n
  | 0, _ => rfl
  | n + 1, h => by
    show cnc (upd f k v) n + _ = cnc f n + _
    rw [cnc_upd n (by omega)]
    unfold upd
    rw [if_neg (show ¬ n = k by omega)]
theorem cnc_le {f : Nat → Int32} {k : Nat} {v : Int32} : cnc (upd f k v) (k + 1) ≤ cnc f k + 1 := by
  show cnc (upd f k v) k + _ ≤ _
  rw [cnc_upd k (Nat.le_refl k)]
  split <;> omega
theorem up2_r (i : Nat → Nat → Int32) (n k : Nat) (v : Int32) : up2 i n k v n = upd (i n) k v := by unfold up2; exact va_up_self _ _ _
theorem dX2_endsWord_0 : decode cX2_endsWord 0 = .ok (.iload_n 1, 1) := by decide +kernel
theorem dX2_endsWord_1 : decode cX2_endsWord 1 = .ok (.bipush 123, 2) := by decide +kernel
theorem dX2_endsWord_3 : decode cX2_endsWord 3 = .ok (.if_icmp .eq 27, 3) := by decide +kernel
theorem dX2_endsWord_30 : decode cX2_endsWord 30 = .ok (.iconst 1, 1) := by decide +kernel
theorem dX2_endsWord_31 : decode cX2_endsWord 31 = .ok (.goto 4, 3) := by decide +kernel
theorem dX2_endsWord_35 : decode cX2_endsWord 35 = .ok (.ireturn, 1) := by decide +kernel
theorem dX2_endsWord_6 : decode cX2_endsWord 6 = .ok (.iload_n 1, 1) := by decide +kernel
theorem dX2_endsWord_7 : decode cX2_endsWord 7 = .ok (.bipush 125, 2) := by decide +kernel
theorem dX2_endsWord_9 : decode cX2_endsWord 9 = .ok (.if_icmp .eq 21, 3) := by decide +kernel
theorem dX2_endsWord_12 : decode cX2_endsWord 12 = .ok (.iload_n 1, 1) := by decide +kernel
theorem dX2_endsWord_13 : decode cX2_endsWord 13 = .ok (.bipush 40, 2) := by decide +kernel
theorem dX2_endsWord_15 : decode cX2_endsWord 15 = .ok (.if_icmp .eq 15, 3) := by decide +kernel
theorem dX2_endsWord_18 : decode cX2_endsWord 18 = .ok (.iload_n 1, 1) := by decide +kernel
theorem dX2_endsWord_19 : decode cX2_endsWord 19 = .ok (.bipush 41, 2) := by decide +kernel
theorem dX2_endsWord_21 : decode cX2_endsWord 21 = .ok (.if_icmp .eq 9, 3) := by decide +kernel
theorem dX2_endsWord_24 : decode cX2_endsWord 24 = .ok (.iload_n 1, 1) := by decide +kernel
theorem dX2_endsWord_25 : decode cX2_endsWord 25 = .ok (.bipush 32, 2) := by decide +kernel
theorem dX2_endsWord_27 : decode cX2_endsWord 27 = .ok (.if_icmp .ne 7, 3) := by decide +kernel
theorem dX2_endsWord_34 : decode cX2_endsWord 34 = .ok (.iconst 0, 1) := by decide +kernel
theorem dX2_choiceLength_0 : decode cX2_choiceLength 0 = .ok (.aload_n 0, 1) := by decide +kernel
theorem dX2_choiceLength_1 : decode cX2_choiceLength 1 = .ok (.getfield 15, 3) := by decide +kernel
theorem dX2_choiceLength_4 : decode cX2_choiceLength 4 = .ok (.iload_n 1, 1) := by decide +kernel
theorem dX2_choiceLength_5 : decode cX2_choiceLength 5 = .ok (.iconst 1, 1) := by decide +kernel
theorem dX2_choiceLength_6 : decode cX2_choiceLength 6 = .ok (.iadd, 1) := by decide +kernel
theorem dX2_choiceLength_7 : decode cX2_choiceLength 7 = .ok (.iaload, 1) := by decide +kernel
theorem dX2_choiceLength_8 : decode cX2_choiceLength 8 = .ok (.aload_n 0, 1) := by decide +kernel
theorem dX2_choiceLength_9 : decode cX2_choiceLength 9 = .ok (.getfield 15, 3) := by decide +kernel
theorem dX2_choiceLength_12 : decode cX2_choiceLength 12 = .ok (.iload_n 1, 1) := by decide +kernel
theorem dX2_choiceLength_13 : decode cX2_choiceLength 13 = .ok (.iaload, 1) := by decide +kernel
theorem dX2_choiceLength_14 : decode cX2_choiceLength 14 = .ok (.isub, 1) := by decide +kernel
theorem dX2_choiceLength_15 : decode cX2_choiceLength 15 = .ok (.ireturn, 1) := by decide +kernel
theorem dX2_addChar_0 : decode cX2_addChar 0 = .ok (.aload_n 0, 1) := by decide +kernel
theorem dX2_addChar_1 : decode cX2_addChar 1 = .ok (.getfield 11, 3) := by decide +kernel
theorem dX2_addChar_4 : decode cX2_addChar 4 = .ok (.aload_n 0, 1) := by decide +kernel
theorem dX2_addChar_5 : decode cX2_addChar 5 = .ok (.getfield 15, 3) := by decide +kernel
theorem dX2_addChar_8 : decode cX2_addChar 8 = .ok (.aload_n 0, 1) := by decide +kernel
theorem dX2_addChar_9 : decode cX2_addChar 9 = .ok (.getfield 42, 3) := by decide +kernel
theorem dX2_addChar_12 : decode cX2_addChar 12 = .ok (.iconst 1, 1) := by decide +kernel
theorem dX2_addChar_13 : decode cX2_addChar 13 = .ok (.iadd, 1) := by decide +kernel
theorem dX2_addChar_14 : decode cX2_addChar 14 = .ok (.iaload, 1) := by decide +kernel
theorem dX2_addChar_15 : decode cX2_addChar 15 = .ok (.iload_n 1, 1) := by decide +kernel
theorem dX2_addChar_16 : decode cX2_addChar 16 = .ok (.castore, 1) := by decide +kernel
theorem dX2_addChar_17 : decode cX2_addChar 17 = .ok (.aload_n 0, 1) := by decide +kernel
theorem dX2_addChar_18 : decode cX2_addChar 18 = .ok (.getfield 15, 3) := by decide +kernel
theorem dX2_addChar_21 : decode cX2_addChar 21 = .ok (.aload_n 0, 1) := by decide +kernel
theorem dX2_addChar_22 : decode cX2_addChar 22 = .ok (.getfield 42, 3) := by decide +kernel
theorem dX2_addChar_25 : decode cX2_addChar 25 = .ok (.iconst 1, 1) := by decide +kernel
theorem dX2_addChar_26 : decode cX2_addChar 26 = .ok (.iadd, 1) := by decide +kernel
theorem dX2_addChar_27 : decode cX2_addChar 27 = .ok (.dup2, 1) := by decide +kernel
theorem dX2_addChar_28 : decode cX2_addChar 28 = .ok (.iaload, 1) := by decide +kernel
theorem dX2_addChar_29 : decode cX2_addChar 29 = .ok (.iconst 1, 1) := by decide +kernel
theorem dX2_addChar_30 : decode cX2_addChar 30 = .ok (.iadd, 1) := by decide +kernel
theorem dX2_addChar_31 : decode cX2_addChar 31 = .ok (.iastore, 1) := by decide +kernel
theorem dX2_addChar_32 : decode cX2_addChar 32 = .ok (.return_, 1) := by decide +kernel
theorem dX2_endChoice_0 : decode cX2_endChoice 0 = .ok (.aload_n 0, 1) := by decide +kernel
theorem dX2_endChoice_1 : decode cX2_endChoice 1 = .ok (.dup, 1) := by decide +kernel
theorem dX2_endChoice_2 : decode cX2_endChoice 2 = .ok (.getfield 42, 3) := by decide +kernel
theorem dX2_endChoice_5 : decode cX2_endChoice 5 = .ok (.iconst 1, 1) := by decide +kernel
theorem dX2_endChoice_6 : decode cX2_endChoice 6 = .ok (.iadd, 1) := by decide +kernel
theorem dX2_endChoice_7 : decode cX2_endChoice 7 = .ok (.putfield 42, 3) := by decide +kernel
theorem dX2_endChoice_10 : decode cX2_endChoice 10 = .ok (.aload_n 0, 1) := by decide +kernel
theorem dX2_endChoice_11 : decode cX2_endChoice 11 = .ok (.getfield 15, 3) := by decide +kernel
theorem dX2_endChoice_14 : decode cX2_endChoice 14 = .ok (.aload_n 0, 1) := by decide +kernel
theorem dX2_endChoice_15 : decode cX2_endChoice 15 = .ok (.getfield 42, 3) := by decide +kernel
theorem dX2_endChoice_18 : decode cX2_endChoice 18 = .ok (.iconst 1, 1) := by decide +kernel
theorem dX2_endChoice_19 : decode cX2_endChoice 19 = .ok (.iadd, 1) := by decide +kernel
theorem dX2_endChoice_20 : decode cX2_endChoice 20 = .ok (.aload_n 0, 1) := by decide +kernel
theorem dX2_endChoice_21 : decode cX2_endChoice 21 = .ok (.getfield 15, 3) := by decide +kernel
theorem dX2_endChoice_24 : decode cX2_endChoice 24 = .ok (.aload_n 0, 1) := by decide +kernel
theorem dX2_endChoice_25 : decode cX2_endChoice 25 = .ok (.getfield 42, 3) := by decide +kernel
theorem dX2_endChoice_28 : decode cX2_endChoice 28 = .ok (.iaload, 1) := by decide +kernel
theorem dX2_endChoice_29 : decode cX2_endChoice 29 = .ok (.iastore, 1) := by decide +kernel
theorem dX2_endChoice_30 : decode cX2_endChoice 30 = .ok (.return_, 1) := by decide +kernel
theorem dX2_endElement_0 : decode cX2_endElement 0 = .ok (.aload_n 0, 1) := by decide +kernel
theorem dX2_endElement_1 : decode cX2_endElement 1 = .ok (.getfield 19, 3) := by decide +kernel
theorem dX2_endElement_4 : decode cX2_endElement 4 = .ok (.aload_n 0, 1) := by decide +kernel
theorem dX2_endElement_5 : decode cX2_endElement 5 = .ok (.getfield 38, 3) := by decide +kernel
theorem dX2_endElement_8 : decode cX2_endElement 8 = .ok (.iload_n 1, 1) := by decide +kernel
theorem dX2_endElement_9 : decode cX2_endElement 9 = .ok (.castore, 1) := by decide +kernel
theorem dX2_endElement_10 : decode cX2_endElement 10 = .ok (.aload_n 0, 1) := by decide +kernel
theorem dX2_endElement_11 : decode cX2_endElement 11 = .ok (.dup, 1) := by decide +kernel
theorem dX2_endElement_12 : decode cX2_endElement 12 = .ok (.getfield 38, 3) := by decide +kernel
theorem dX2_endElement_15 : decode cX2_endElement 15 = .ok (.iconst 1, 1) := by decide +kernel
theorem dX2_endElement_16 : decode cX2_endElement 16 = .ok (.iadd, 1) := by decide +kernel
theorem dX2_endElement_17 : decode cX2_endElement 17 = .ok (.putfield 38, 3) := by decide +kernel
theorem dX2_endElement_20 : decode cX2_endElement 20 = .ok (.aload_n 0, 1) := by decide +kernel
theorem dX2_endElement_21 : decode cX2_endElement 21 = .ok (.getfield 22, 3) := by decide +kernel
theorem dX2_endElement_24 : decode cX2_endElement 24 = .ok (.aload_n 0, 1) := by decide +kernel
theorem dX2_endElement_25 : decode cX2_endElement 25 = .ok (.getfield 38, 3) := by decide +kernel
theorem dX2_endElement_28 : decode cX2_endElement 28 = .ok (.aload_n 0, 1) := by decide +kernel
theorem dX2_endElement_29 : decode cX2_endElement 29 = .ok (.getfield 42, 3) := by decide +kernel
theorem dX2_endElement_32 : decode cX2_endElement 32 = .ok (.iastore, 1) := by decide +kernel
theorem dX2_endElement_33 : decode cX2_endElement 33 = .ok (.return_, 1) := by decide +kernel
set_option maxHeartbeats 2000000 in
set_option maxRecDepth 100000 in
theorem k_endsWord (l : Launch) (D : va_G) (g : Nat → Nat) (ka : Nat → ClassId) (ad : Nat → Nat) (i : Nat → Nat → Int32) (r : Nat → Nat → Nat) (L : Nat → Nat → Int64) (d : Nat → Nat → UInt64) (j : Nat) (x : Int32) (hO : OkI i) (hR : RS r) (sz : Nat) (hj : j < 13) : Met l yX2_endsWord wsX2_endsWord ({ frames := 0, cells := 0, slots := 0, locals := 0 }) (va_Pc [.ref (g (240 + 9 * j)), .int x] (sj_B D (hwc g ka i r L d) (hT ka) sz (gx ad (va_A (hwc g ka i r L d) sz)))) (sj_Qi (S := Unit) D (fun v u => ((0 : Int) ≤ v.toInt ∧ v.toInt ≤ 1)) (fun _ => hwc g ka i r L d) (fun _ => []) (va_A (hwc g ka i r L d) sz)) 0 0 (va_A (hwc g ka i r L d) sz) := by
  refine x_met (Ex := gx ad) (cc := cX2_endsWord) (maxL := 2) (ret := (some .boolean)) (by decide) rfl (Nat.le_of_ble_eq_true rfl) ?_
  intro p e s m below meth c A ls hx hb hr hml hts hown hlocks hA hS hH hK hE hl
  have hown : s.vm.findClass RX2 = some m.cls := hown
  have hl : lv_has ls 2 [(0, .ref (g (240 + 9 * j))), (1, .int x)] := hl
  have hK : va_K D vwCl (hT ka) s := hK
  have hg_1 := s_rng x
  refine lv_iload_n hx hb dX2_endsWord_0 rfl (lv_at hl 1 rfl) ?_
  refine lv_bipush (v := 123) hx hb dX2_endsWord_1 (by decide) ?_
  refine lv_icmp_eq (tgt := 30) hx hb dX2_endsWord_3 (by decide) (fun c_2 => ?_) (fun c_2 => ?_)
  · skip
    have h_3 := s_eq (rfl : x.toInt = _) (show (123 : Int32).toInt = 123 from rfl) c_2
    refine lv_iconst (v := 1) hx hb dX2_endsWord_30 (by decide) ?_
    refine lv_goto (tgt := 35) hx hb dX2_endsWord_31 (by decide) ?_
    exact sj_zret hx hb hr hlocks (by decide +kernel) hS () ⟨by decide, by decide⟩ hH (sj_Knil hK) (Nat.le_of_ble_eq_true rfl) (Nat.le_of_ble_eq_true rfl) dX2_endsWord_35
  · skip
    have h_4 := s_ne (rfl : x.toInt = _) (show (123 : Int32).toInt = 123 from rfl) c_2
    refine lv_iload_n hx hb dX2_endsWord_6 rfl (lv_at hl 1 rfl) ?_
    refine lv_bipush (v := 125) hx hb dX2_endsWord_7 (by decide) ?_
    refine lv_icmp_eq (tgt := 30) hx hb dX2_endsWord_9 (by decide) (fun c_5 => ?_) (fun c_5 => ?_)
    · skip
      have h_6 := s_eq (rfl : x.toInt = _) (show (125 : Int32).toInt = 125 from rfl) c_5
      refine lv_iconst (v := 1) hx hb dX2_endsWord_30 (by decide) ?_
      refine lv_goto (tgt := 35) hx hb dX2_endsWord_31 (by decide) ?_
      exact sj_zret hx hb hr hlocks (by decide +kernel) hS () ⟨by decide, by decide⟩ hH (sj_Knil hK) (Nat.le_of_ble_eq_true rfl) (Nat.le_of_ble_eq_true rfl) dX2_endsWord_35
    · skip
      have h_7 := s_ne (rfl : x.toInt = _) (show (125 : Int32).toInt = 125 from rfl) c_5
      refine lv_iload_n hx hb dX2_endsWord_12 rfl (lv_at hl 1 rfl) ?_
      refine lv_bipush (v := 40) hx hb dX2_endsWord_13 (by decide) ?_
      refine lv_icmp_eq (tgt := 30) hx hb dX2_endsWord_15 (by decide) (fun c_8 => ?_) (fun c_8 => ?_)
      · skip
        have h_9 := s_eq (rfl : x.toInt = _) (show (40 : Int32).toInt = 40 from rfl) c_8
        refine lv_iconst (v := 1) hx hb dX2_endsWord_30 (by decide) ?_
        refine lv_goto (tgt := 35) hx hb dX2_endsWord_31 (by decide) ?_
        exact sj_zret hx hb hr hlocks (by decide +kernel) hS () ⟨by decide, by decide⟩ hH (sj_Knil hK) (Nat.le_of_ble_eq_true rfl) (Nat.le_of_ble_eq_true rfl) dX2_endsWord_35
      · skip
        have h_10 := s_ne (rfl : x.toInt = _) (show (40 : Int32).toInt = 40 from rfl) c_8
        refine lv_iload_n hx hb dX2_endsWord_18 rfl (lv_at hl 1 rfl) ?_
        refine lv_bipush (v := 41) hx hb dX2_endsWord_19 (by decide) ?_
        refine lv_icmp_eq (tgt := 30) hx hb dX2_endsWord_21 (by decide) (fun c_11 => ?_) (fun c_11 => ?_)
        · skip
          have h_12 := s_eq (rfl : x.toInt = _) (show (41 : Int32).toInt = 41 from rfl) c_11
          refine lv_iconst (v := 1) hx hb dX2_endsWord_30 (by decide) ?_
          refine lv_goto (tgt := 35) hx hb dX2_endsWord_31 (by decide) ?_
          exact sj_zret hx hb hr hlocks (by decide +kernel) hS () ⟨by decide, by decide⟩ hH (sj_Knil hK) (Nat.le_of_ble_eq_true rfl) (Nat.le_of_ble_eq_true rfl) dX2_endsWord_35
        · skip
          have h_13 := s_ne (rfl : x.toInt = _) (show (41 : Int32).toInt = 41 from rfl) c_11
          refine lv_iload_n hx hb dX2_endsWord_24 rfl (lv_at hl 1 rfl) ?_
          refine lv_bipush (v := 32) hx hb dX2_endsWord_25 (by decide) ?_
          refine lv_icmp_ne (tgt := 34) hx hb dX2_endsWord_27 (by decide) (fun c_14 => ?_) (fun c_14 => ?_)
          · skip
            have h_15 := s_ne (rfl : x.toInt = _) (show (32 : Int32).toInt = 32 from rfl) c_14
            refine lv_iconst (v := 0) hx hb dX2_endsWord_34 (by decide) ?_
            exact sj_zret hx hb hr hlocks (by decide +kernel) hS () ⟨by decide, by decide⟩ hH (sj_Knil hK) (Nat.le_of_ble_eq_true rfl) (Nat.le_of_ble_eq_true rfl) dX2_endsWord_35
          · skip
            have h_16 := s_eq (rfl : x.toInt = _) (show (32 : Int32).toInt = 32 from rfl) c_14
            refine lv_iconst (v := 1) hx hb dX2_endsWord_30 (by decide) ?_
            refine lv_goto (tgt := 35) hx hb dX2_endsWord_31 (by decide) ?_
            exact sj_zret hx hb hr hlocks (by decide +kernel) hS () ⟨by decide, by decide⟩ hH (sj_Knil hK) (Nat.le_of_ble_eq_true rfl) (Nat.le_of_ble_eq_true rfl) dX2_endsWord_35
set_option maxHeartbeats 2000000 in
set_option maxRecDepth 100000 in
theorem k_choiceLength (l : Launch) (D : va_G) (g : Nat → Nat) (ka : Nat → ClassId) (ad : Nat → Nat) (i : Nat → Nat → Int32) (r : Nat → Nat → Nat) (L : Nat → Nat → Int64) (d : Nat → Nat → UInt64) (j : Nat) (x : Int32) (hO : OkI i) (hR : RS r) (sz : Nat) (hj : j < 13) (h0 : 0 ≤ x.toInt) (h1 : x.toInt ≤ 60) : Met l yX2_choiceLength wsX2_choiceLength ({ frames := 0, cells := 0, slots := 0, locals := 0 }) (va_Pc [.ref (g (240 + 9 * j)), .int x] (sj_B D (hwc g ka i r L d) (hT ka) sz (gx ad (va_A (hwc g ka i r L d) sz)))) (sj_Qi (S := Unit) D (fun v u => ((-60 : Int) ≤ v.toInt ∧ v.toInt ≤ 60) ∧ (∃ t : Int, 0 ≤ t ∧ t ≤ 60 ∧ v.toInt = t - (i (240 + 9 * j + 2) (x.toInt).toNat).toInt)) (fun _ => hwc g ka i r L d) (fun _ => []) (va_A (hwc g ka i r L d) sz)) 0 0 (va_A (hwc g ka i r L d) sz) := by
  refine x_met (Ex := gx ad) (cc := cX2_choiceLength) (maxL := 2) (ret := (some .int)) (by decide) rfl (Nat.le_of_ble_eq_true rfl) ?_
  intro p e s m below meth c A ls hx hb hr hml hts hown hlocks hA hS hH hK hE hl
  have hown : s.vm.findClass RX2 = some m.cls := hown
  have in2 : ∀ w ∈ wsX20, w ∈ wsX2_choiceLength := (fun _ h => (List.mem_cons_of_mem _ (List.mem_append_right _ h)))
  have wd0 := hts (.fieldLink RX2 15 "StoryDesk$Expression" "choiceStarts" "[I") (List.mem_cons_of_mem _ (List.mem_append_left _ lm0))
  have hl : lv_has ls 2 [(0, .ref (g (240 + 9 * j))), (1, .int x)] := hl
  have hK : va_K D vwCl (hT ka) s := hK
  refine lv_aload_n hx hb dX2_choiceLength_0 rfl (lv_at hl 0 rfl) ?_
  refine h_getr (ci := 2) (C := RX2) (F := TX2) (N := 11) hx hb hts in2 hown hK hH (lt_nK (by omega)) (kd_expr (t := 0) hj (by decide)) (by decide) rfl 1 (by decide) wd0 (fun _ h9 => h9) (by decide) rfl (t := (240 + 9 * j + 2)) ((hR _ _ (by unfold dyn; simp <;> omega)).trans (sr_expr (by omega) (by omega))) (lt_nK (by omega)) dX2_choiceLength_1 ?_
  refine lv_iload_n hx hb dX2_choiceLength_4 rfl (lv_at hl 1 rfl) ?_
  refine lv_iconst (v := 1) hx hb dX2_choiceLength_5 (by decide) ?_
  refine lv_iadd hx hb dX2_choiceLength_6 ?_
  obtain ⟨z_1, ez_1, hz_1⟩ := s_add (rfl : x.toInt = _) (show (1 : Int32).toInt = 1 from rfl) (by omega) (by omega)
  refine sj_i ez_1 ?_
  have bx_2 : (0 : Int) ≤ (i (240 + 9 * j + 2) (x.toInt + 1).toNat).toInt ∧ (i (240 + 9 * j + 2) (x.toInt + 1).toNat).toInt ≤ 60 := by have h9 := hO (240 + 9 * j + 2) (x.toInt + 1).toNat; rw [bx_expr (t := 2) hj (by decide) (by decide) (x.toInt + 1).toNat] at h9; exact h9
  refine h_iald hx hb hK hH (lt_nK (by omega)) (kd_expr (t := 2) hj (by decide)) (s_vin (N := 62) (rfl : z_1.toInt = _) (ln_expr (t := 2) hj (by decide)) (by omega) (by omega)) dX2_choiceLength_7 ?_
  have ek_3 : z_1.toNatClampNeg = (x.toInt + 1).toNat := (s_cl (show z_1.toInt = x.toInt + 1 by omega))
  refine sj_i (y := (i (240 + 9 * j + 2) (x.toInt + 1).toNat)) (by rw [ek_3]) ?_
  refine lv_aload_n hx hb dX2_choiceLength_8 rfl (lv_at hl 0 rfl) ?_
  refine h_getr (ci := 2) (C := RX2) (F := TX2) (N := 11) hx hb hts in2 hown hK hH (lt_nK (by omega)) (kd_expr (t := 0) hj (by decide)) (by decide) rfl 1 (by decide) wd0 (fun _ h9 => h9) (by decide) rfl (t := (240 + 9 * j + 2)) ((hR _ _ (by unfold dyn; simp <;> omega)).trans (sr_expr (by omega) (by omega))) (lt_nK (by omega)) dX2_choiceLength_9 ?_
  refine lv_iload_n hx hb dX2_choiceLength_12 rfl (lv_at hl 1 rfl) ?_
  have bx_4 : (0 : Int) ≤ (i (240 + 9 * j + 2) (x.toInt).toNat).toInt ∧ (i (240 + 9 * j + 2) (x.toInt).toNat).toInt ≤ 60 := by have h9 := hO (240 + 9 * j + 2) (x.toInt).toNat; rw [bx_expr (t := 2) hj (by decide) (by decide) (x.toInt).toNat] at h9; exact h9
  refine h_iald hx hb hK hH (lt_nK (by omega)) (kd_expr (t := 2) hj (by decide)) (s_vin (N := 62) (rfl : x.toInt = _) (ln_expr (t := 2) hj (by decide)) (by omega) (by omega)) dX2_choiceLength_13 ?_
  have ek_5 : x.toNatClampNeg = (x.toInt).toNat := (s_cl (show x.toInt = x.toInt by omega))
  refine sj_i (y := (i (240 + 9 * j + 2) (x.toInt).toNat)) (by rw [ek_5]) ?_
  refine lv_isub hx hb dX2_choiceLength_14 ?_
  obtain ⟨z_6, ez_6, hz_6⟩ := s_sub (rfl : (i (240 + 9 * j + 2) (x.toInt + 1).toNat).toInt = _) (rfl : (i (240 + 9 * j + 2) (x.toInt).toNat).toInt = _) (by omega) (by omega)
  refine sj_i ez_6 ?_
  exact sj_zret hx hb hr hlocks rfl hS () ⟨⟨by omega, by omega⟩, ⟨_, bx_2.1, bx_2.2, by omega⟩⟩ hH (sj_Knil hK) (Nat.le_of_ble_eq_true rfl) (Nat.le_of_ble_eq_true rfl) dX2_choiceLength_15
set_option maxHeartbeats 2000000 in
set_option maxRecDepth 100000 in
theorem k_addChar (l : Launch) (D : va_G) (g : Nat → Nat) (ka : Nat → ClassId) (ad : Nat → Nat) (i : Nat → Nat → Int32) (r : Nat → Nat → Nat) (L : Nat → Nat → Int64) (d : Nat → Nat → UInt64) (j : Nat) (x : Int32) (hO : OkI i) (hR : RS r) (sz : Nat) (hj : j < 13) (hc : (i (240 + 9 * j) 2).toInt ≤ 60) (ht : (i (240 + 9 * j + 2) ((i (240 + 9 * j) 2).toInt + 1).toNat).toInt ≤ 59) : Met l yX2_addChar wsX2_addChar ({ frames := 0, cells := 0, slots := 0, locals := 0 }) (va_Pc [.ref (g (240 + 9 * j)), .int x] (sj_B D (hwc g ka i r L d) (hT ka) sz (gx ad (va_A (hwc g ka i r L d) sz)))) (sj_Qv (S := (Nat → Nat → Int32)) D (fun u => OkI u ∧ (∀ a, ¬ (a = 240 + 9 * j + 1 ∨ a = 240 + 9 * j + 2) → u a = i a) ∧ ((u (240 + 9 * j + 2) ((i (240 + 9 * j) 2).toInt + 1).toNat).toInt = (i (240 + 9 * j + 2) ((i (240 + 9 * j) 2).toInt + 1).toNat).toInt + 1)) (fun u => hwc g ka u r L d) (fun _ => []) (va_A (hwc g ka i r L d) sz)) 0 0 (va_A (hwc g ka i r L d) sz) := by
  refine x_met (Ex := gx ad) (cc := cX2_addChar) (maxL := 2) (ret := none) (by decide) rfl (Nat.le_of_ble_eq_true rfl) ?_
  intro p e s m below meth c A ls hx hb hr hml hts hown hlocks hA hS hH hK hE hl
  have hown : s.vm.findClass RX2 = some m.cls := hown
  have in2 : ∀ w ∈ wsX20, w ∈ wsX2_addChar := (fun _ h => (List.mem_cons_of_mem _ (List.mem_append_right _ h)))
  have wd0 := hts (.fieldLink RX2 11 "StoryDesk$Expression" "chars" "[C") (List.mem_cons_of_mem _ (List.mem_append_left _ lm0))
  have wd1 := hts (.fieldLink RX2 15 "StoryDesk$Expression" "choiceStarts" "[I") (List.mem_cons_of_mem _ (List.mem_append_left _ lm1))
  have wd2 := hts (.fieldLink RX2 42 "StoryDesk$Expression" "choices" "I") (List.mem_cons_of_mem _ (List.mem_append_left _ lm2))
  have hl : lv_has ls 2 [(0, .ref (g (240 + 9 * j))), (1, .int x)] := hl
  have hK : va_K D vwCl (hT ka) s := hK
  have hg_1 := s_rng x
  refine lv_aload_n hx hb dX2_addChar_0 rfl (lv_at hl 0 rfl) ?_
  refine h_getr (ci := 2) (C := RX2) (F := TX2) (N := 11) hx hb hts in2 hown hK hH (lt_nK (by omega)) (kd_expr (t := 0) hj (by decide)) (by decide) rfl 0 (by decide) wd0 (fun _ h9 => h9) (by decide) rfl (t := (240 + 9 * j + 1)) ((hR _ _ (by unfold dyn; simp <;> omega)).trans (sr_expr (by omega) (by omega))) (lt_nK (by omega)) dX2_addChar_1 ?_
  refine lv_aload_n hx hb dX2_addChar_4 rfl (lv_at hl 0 rfl) ?_
  refine h_getr (ci := 2) (C := RX2) (F := TX2) (N := 11) hx hb hts in2 hown hK hH (lt_nK (by omega)) (kd_expr (t := 0) hj (by decide)) (by decide) rfl 1 (by decide) wd1 (fun _ h9 => h9) (by decide) rfl (t := (240 + 9 * j + 2)) ((hR _ _ (by unfold dyn; simp <;> omega)).trans (sr_expr (by omega) (by omega))) (lt_nK (by omega)) dX2_addChar_5 ?_
  refine lv_aload_n hx hb dX2_addChar_8 rfl (lv_at hl 0 rfl) ?_
  have bx_2 : (0 : Int) ≤ (i (240 + 9 * j) 2).toInt ∧ (i (240 + 9 * j) 2).toInt ≤ 61 := by have h9 := hO (240 + 9 * j) 2; rw [bx_expr0 hj 2] at h9; exact h9
  refine h_geti (ci := 2) (C := RX2) (F := TX2) (N := 11) hx hb hts in2 hown hK hH (lt_nK (by omega)) (kd_expr (t := 0) hj (by decide)) (by decide) rfl 2 (by decide) wd2 (fun _ h9 => h9) (by decide) rfl dX2_addChar_9 ?_
  refine lv_iconst (v := 1) hx hb dX2_addChar_12 (by decide) ?_
  refine lv_iadd hx hb dX2_addChar_13 ?_
  obtain ⟨z_3, ez_3, hz_3⟩ := s_add (rfl : (i (240 + 9 * j) 2).toInt = _) (show (1 : Int32).toInt = 1 from rfl) (by omega) (by omega)
  refine sj_i ez_3 ?_
  have bx_4 : (0 : Int) ≤ (i (240 + 9 * j + 2) ((i (240 + 9 * j) 2).toInt + 1).toNat).toInt ∧ (i (240 + 9 * j + 2) ((i (240 + 9 * j) 2).toInt + 1).toNat).toInt ≤ 60 := by have h9 := hO (240 + 9 * j + 2) ((i (240 + 9 * j) 2).toInt + 1).toNat; rw [bx_expr (t := 2) hj (by decide) (by decide) ((i (240 + 9 * j) 2).toInt + 1).toNat] at h9; exact h9
  refine h_iald hx hb hK hH (lt_nK (by omega)) (kd_expr (t := 2) hj (by decide)) (s_vin (N := 62) (rfl : z_3.toInt = _) (ln_expr (t := 2) hj (by decide)) (by omega) (by omega)) dX2_addChar_14 ?_
  have ek_5 : z_3.toNatClampNeg = ((i (240 + 9 * j) 2).toInt + 1).toNat := (s_cl (show z_3.toInt = (i (240 + 9 * j) 2).toInt + 1 by omega))
  refine sj_i (y := (i (240 + 9 * j + 2) ((i (240 + 9 * j) 2).toInt + 1).toNat)) (by rw [ek_5]) ?_
  refine lv_iload_n hx hb dX2_addChar_15 rfl (lv_at hl 1 rfl) ?_
  obtain ⟨z_6, ez_6⟩ : ∃ z, vp_nar .char x = z := ⟨_, rfl⟩
  have hz_6 := s_narcR ez_6
  have hO_7 := okp hO (n := (240 + 9 * j + 1)) (k := ((i (240 + 9 * j + 2) ((i (240 + 9 * j) 2).toInt + 1).toNat).toInt).toNat) (v := z_6) (by rw [bx_expr (t := 1) hj (by decide) (by decide) ((i (240 + 9 * j + 2) ((i (240 + 9 * j) 2).toInt + 1).toNat).toInt).toNat]; exact (show (0 : Int) ≤ (z_6 : Int32).toInt ∧ (z_6 : Int32).toInt ≤ 65535 from ⟨by omega, by omega⟩))
  refine h_cast hx hb hK hH hS (lt_nK (by omega)) (kd_expr (t := 1) hj (by decide)) (s_vin (N := 60) (rfl : (i (240 + 9 * j + 2) ((i (240 + 9 * j) 2).toInt + 1).toNat).toInt = _) (ln_expr (t := 1) hj (by decide)) (by omega) (by omega)) dX2_addChar_16 (fun H locs hH hS => ?_)
  rw [ez_6] at hH
  rw [s_cl (show (i (240 + 9 * j + 2) ((i (240 + 9 * j) 2).toInt + 1).toNat).toInt = (i (240 + 9 * j + 2) ((i (240 + 9 * j) 2).toInt + 1).toNat).toInt by omega)] at hH
  refine lv_aload_n hx hb dX2_addChar_17 rfl (lv_at hl 0 rfl) ?_
  refine h_getr (ci := 2) (C := RX2) (F := TX2) (N := 11) hx hb hts in2 hown hK hH (lt_nK (by omega)) (kd_expr (t := 0) hj (by decide)) (by decide) rfl 1 (by decide) wd1 (fun _ h9 => h9) (by decide) rfl (t := (240 + 9 * j + 2)) ((hR _ _ (by unfold dyn; simp <;> omega)).trans (sr_expr (by omega) (by omega))) (lt_nK (by omega)) dX2_addChar_18 ?_
  refine lv_aload_n hx hb dX2_addChar_21 rfl (lv_at hl 0 rfl) ?_
  refine h_geti (ci := 2) (C := RX2) (F := TX2) (N := 11) hx hb hts in2 hown hK hH (lt_nK (by omega)) (kd_expr (t := 0) hj (by decide)) (by decide) rfl 2 (by decide) wd2 (fun _ h9 => h9) (by decide) rfl dX2_addChar_22 ?_
  refine sj_i (y := (i (240 + 9 * j) 2)) (congrFun (up2_n _ _ (by omega)) _) ?_
  refine lv_iconst (v := 1) hx hb dX2_addChar_25 (by decide) ?_
  refine lv_iadd hx hb dX2_addChar_26 ?_
  obtain ⟨z_8, ez_8, hz_8⟩ := s_add (rfl : (i (240 + 9 * j) 2).toInt = _) (show (1 : Int32).toInt = 1 from rfl) (by omega) (by omega)
  refine sj_i ez_8 ?_
  refine lv_dup2_11 hx hb dX2_addChar_27 rfl rfl ?_
  refine h_iald hx hb hK hH (lt_nK (by omega)) (kd_expr (t := 2) hj (by decide)) (s_vin (N := 62) (rfl : z_8.toInt = _) (ln_expr (t := 2) hj (by decide)) (by omega) (by omega)) dX2_addChar_28 ?_
  have ek_9 : z_8.toNatClampNeg = ((i (240 + 9 * j) 2).toInt + 1).toNat := (s_cl (show z_8.toInt = (i (240 + 9 * j) 2).toInt + 1 by omega))
  refine sj_i (y := (i (240 + 9 * j + 2) ((i (240 + 9 * j) 2).toInt + 1).toNat)) (by rw [ek_9]; exact (congrFun (up2_n _ _ (by omega)) _)) ?_
  refine lv_iconst (v := 1) hx hb dX2_addChar_29 (by decide) ?_
  refine lv_iadd hx hb dX2_addChar_30 ?_
  obtain ⟨z_10, ez_10, hz_10⟩ := s_add (rfl : (i (240 + 9 * j + 2) ((i (240 + 9 * j) 2).toInt + 1).toNat).toInt = _) (show (1 : Int32).toInt = 1 from rfl) (by omega) (by omega)
  refine sj_i ez_10 ?_
  have hO_11 := okp hO_7 (n := (240 + 9 * j + 2)) (k := ((i (240 + 9 * j) 2).toInt + 1).toNat) (v := z_10) (by rw [bx_expr (t := 2) hj (by decide) (by decide) ((i (240 + 9 * j) 2).toInt + 1).toNat]; exact (show (0 : Int) ≤ (z_10 : Int32).toInt ∧ (z_10 : Int32).toInt ≤ 60 from ⟨by omega, by omega⟩))
  refine h_iast hx hb hK hH hS (lt_nK (by omega)) (kd_expr (t := 2) hj (by decide)) (s_vin (N := 62) (rfl : z_8.toInt = _) (ln_expr (t := 2) hj (by decide)) (by omega) (by omega)) dX2_addChar_31 (fun H locs hH hS => ?_)
  rw [s_cl (show z_8.toInt = (i (240 + 9 * j) 2).toInt + 1 by omega)] at hH
  have hq_12 : (up2 (up2 i (240 + 9 * j + 1) ((i (240 + 9 * j + 2) ((i (240 + 9 * j) 2).toInt + 1).toNat).toInt).toNat z_6) (240 + 9 * j + 2) ((i (240 + 9 * j) 2).toInt + 1).toNat z_10) (240 + 9 * j + 2) ((i (240 + 9 * j) 2).toInt + 1).toNat = z_10 := (up2_at _ _ _ _)
  have hq_12i := congrArg Int32.toInt hq_12
  exact sj_vret hx hb hr hlocks hS (up2 (up2 i (240 + 9 * j + 1) ((i (240 + 9 * j + 2) ((i (240 + 9 * j) 2).toInt + 1).toNat).toInt).toNat z_6) (240 + 9 * j + 2) ((i (240 + 9 * j) 2).toInt + 1).toNat z_10) ⟨hO_11, (fun a ha => ((up2_n _ _ (by omega)).trans (up2_n _ _ (by omega)))), (by omega)⟩ hH (sj_Knil hK) (Nat.le_of_ble_eq_true rfl) (Nat.le_of_ble_eq_true rfl) dX2_addChar_32
set_option maxHeartbeats 2000000 in
set_option maxRecDepth 100000 in
theorem k_endChoice (l : Launch) (D : va_G) (g : Nat → Nat) (ka : Nat → ClassId) (ad : Nat → Nat) (i : Nat → Nat → Int32) (r : Nat → Nat → Nat) (L : Nat → Nat → Int64) (d : Nat → Nat → UInt64) (j : Nat) (hO : OkI i) (hR : RS r) (sz : Nat) (hj : j < 13) (hc : (i (240 + 9 * j) 2).toInt ≤ 59) : Met l yX2_endChoice wsX2_endChoice ({ frames := 0, cells := 0, slots := 0, locals := 0 }) (va_Pc [.ref (g (240 + 9 * j))] (sj_B D (hwc g ka i r L d) (hT ka) sz (gx ad (va_A (hwc g ka i r L d) sz)))) (sj_Qv (S := (Nat → Nat → Int32)) D (fun u => OkI u ∧ (∀ a, ¬ (a = 240 + 9 * j ∨ a = 240 + 9 * j + 2) → u a = i a) ∧ ((u (240 + 9 * j) 2).toInt = (i (240 + 9 * j) 2).toInt + 1 ∧ (u (240 + 9 * j + 2) ((i (240 + 9 * j) 2).toInt + 2).toNat).toInt = (i (240 + 9 * j + 2) ((i (240 + 9 * j) 2).toInt + 1).toNat).toInt ∧ u (240 + 9 * j) 5 = i (240 + 9 * j) 5 ∧ u (240 + 9 * j) 6 = i (240 + 9 * j) 6)) (fun u => hwc g ka u r L d) (fun _ => []) (va_A (hwc g ka i r L d) sz)) 0 0 (va_A (hwc g ka i r L d) sz) := by
  refine x_met (Ex := gx ad) (cc := cX2_endChoice) (maxL := 1) (ret := none) (by decide) rfl (Nat.le_of_ble_eq_true rfl) ?_
  intro p e s m below meth c A ls hx hb hr hml hts hown hlocks hA hS hH hK hE hl
  have hown : s.vm.findClass RX2 = some m.cls := hown
  have in2 : ∀ w ∈ wsX20, w ∈ wsX2_endChoice := (fun _ h => (List.mem_cons_of_mem _ (List.mem_append_right _ h)))
  have wd0 := hts (.fieldLink RX2 42 "StoryDesk$Expression" "choices" "I") (List.mem_cons_of_mem _ (List.mem_append_left _ lm0))
  have wd1 := hts (.fieldLink RX2 15 "StoryDesk$Expression" "choiceStarts" "[I") (List.mem_cons_of_mem _ (List.mem_append_left _ lm1))
  have hl : lv_has ls 1 [(0, .ref (g (240 + 9 * j)))] := hl
  have hK : va_K D vwCl (hT ka) s := hK
  refine lv_aload_n hx hb dX2_endChoice_0 rfl (lv_at hl 0 rfl) ?_
  refine lv_dup hx hb dX2_endChoice_1 rfl ?_
  have bx_1 : (0 : Int) ≤ (i (240 + 9 * j) 2).toInt ∧ (i (240 + 9 * j) 2).toInt ≤ 61 := by have h9 := hO (240 + 9 * j) 2; rw [bx_expr0 hj 2] at h9; exact h9
  refine h_geti (ci := 2) (C := RX2) (F := TX2) (N := 11) hx hb hts in2 hown hK hH (lt_nK (by omega)) (kd_expr (t := 0) hj (by decide)) (by decide) rfl 2 (by decide) wd0 (fun _ h9 => h9) (by decide) rfl dX2_endChoice_2 ?_
  refine lv_iconst (v := 1) hx hb dX2_endChoice_5 (by decide) ?_
  refine lv_iadd hx hb dX2_endChoice_6 ?_
  obtain ⟨z_2, ez_2, hz_2⟩ := s_add (rfl : (i (240 + 9 * j) 2).toInt = _) (show (1 : Int32).toInt = 1 from rfl) (by omega) (by omega)
  refine sj_i ez_2 ?_
  have hO_3 := okp hO (n := (240 + 9 * j)) (k := 2) (v := z_2) (by rw [bx_expr0 hj 2]; exact (show (0 : Int) ≤ (z_2 : Int32).toInt ∧ (z_2 : Int32).toInt ≤ 61 from ⟨by omega, by omega⟩))
  refine h_puti (ty := .int) (ci := 2) (C := RX2) (F := TX2) (N := 11) hx hb hts in2 tyX2 tyX2_ok nmX2 hown hK hH hS (lt_nK (by omega)) (kd_expr (t := 0) hj (by decide)) (by decide) rfl 2 (by decide) wd0 (fun _ h9 => h9) rfl (by decide +kernel) rfl rfl (by decide) rfl dX2_endChoice_7 (fun H locs hH hS => ?_)
  refine lv_aload_n hx hb dX2_endChoice_10 rfl (lv_at hl 0 rfl) ?_
  refine h_getr (ci := 2) (C := RX2) (F := TX2) (N := 11) hx hb hts in2 hown hK hH (lt_nK (by omega)) (kd_expr (t := 0) hj (by decide)) (by decide) rfl 1 (by decide) wd1 (fun _ h9 => h9) (by decide) rfl (t := (240 + 9 * j + 2)) ((hR _ _ (by unfold dyn; simp <;> omega)).trans (sr_expr (by omega) (by omega))) (lt_nK (by omega)) dX2_endChoice_11 ?_
  refine lv_aload_n hx hb dX2_endChoice_14 rfl (lv_at hl 0 rfl) ?_
  refine h_geti (ci := 2) (C := RX2) (F := TX2) (N := 11) hx hb hts in2 hown hK hH (lt_nK (by omega)) (kd_expr (t := 0) hj (by decide)) (by decide) rfl 2 (by decide) wd0 (fun _ h9 => h9) (by decide) rfl dX2_endChoice_15 ?_
  refine sj_i (y := z_2) (up2_at _ _ _ _) ?_
  refine lv_iconst (v := 1) hx hb dX2_endChoice_18 (by decide) ?_
  refine lv_iadd hx hb dX2_endChoice_19 ?_
  obtain ⟨z_4, ez_4, hz_4⟩ := s_add (rfl : z_2.toInt = _) (show (1 : Int32).toInt = 1 from rfl) (by omega) (by omega)
  refine sj_i ez_4 ?_
  refine lv_aload_n hx hb dX2_endChoice_20 rfl (lv_at hl 0 rfl) ?_
  refine h_getr (ci := 2) (C := RX2) (F := TX2) (N := 11) hx hb hts in2 hown hK hH (lt_nK (by omega)) (kd_expr (t := 0) hj (by decide)) (by decide) rfl 1 (by decide) wd1 (fun _ h9 => h9) (by decide) rfl (t := (240 + 9 * j + 2)) ((hR _ _ (by unfold dyn; simp <;> omega)).trans (sr_expr (by omega) (by omega))) (lt_nK (by omega)) dX2_endChoice_21 ?_
  refine lv_aload_n hx hb dX2_endChoice_24 rfl (lv_at hl 0 rfl) ?_
  refine h_geti (ci := 2) (C := RX2) (F := TX2) (N := 11) hx hb hts in2 hown hK hH (lt_nK (by omega)) (kd_expr (t := 0) hj (by decide)) (by decide) rfl 2 (by decide) wd0 (fun _ h9 => h9) (by decide) rfl dX2_endChoice_25 ?_
  refine sj_i (y := z_2) (up2_at _ _ _ _) ?_
  have bx_5 : (0 : Int) ≤ (i (240 + 9 * j + 2) ((i (240 + 9 * j) 2).toInt + 1).toNat).toInt ∧ (i (240 + 9 * j + 2) ((i (240 + 9 * j) 2).toInt + 1).toNat).toInt ≤ 60 := by have h9 := hO (240 + 9 * j + 2) ((i (240 + 9 * j) 2).toInt + 1).toNat; rw [bx_expr (t := 2) hj (by decide) (by decide) ((i (240 + 9 * j) 2).toInt + 1).toNat] at h9; exact h9
  refine h_iald hx hb hK hH (lt_nK (by omega)) (kd_expr (t := 2) hj (by decide)) (s_vin (N := 62) (rfl : z_2.toInt = _) (ln_expr (t := 2) hj (by decide)) (by omega) (by omega)) dX2_endChoice_28 ?_
  have ek_6 : z_2.toNatClampNeg = ((i (240 + 9 * j) 2).toInt + 1).toNat := (s_cl (show z_2.toInt = (i (240 + 9 * j) 2).toInt + 1 by omega))
  refine sj_i (y := (i (240 + 9 * j + 2) ((i (240 + 9 * j) 2).toInt + 1).toNat)) (by rw [ek_6]; exact (congrFun (up2_n _ _ (by omega)) _)) ?_
  have hO_7 := okp hO_3 (n := (240 + 9 * j + 2)) (k := ((i (240 + 9 * j) 2).toInt + 2).toNat) (v := (i (240 + 9 * j + 2) ((i (240 + 9 * j) 2).toInt + 1).toNat)) (by rw [bx_expr (t := 2) hj (by decide) (by decide) ((i (240 + 9 * j) 2).toInt + 2).toNat]; exact (show (0 : Int) ≤ ((i (240 + 9 * j + 2) ((i (240 + 9 * j) 2).toInt + 1).toNat) : Int32).toInt ∧ ((i (240 + 9 * j + 2) ((i (240 + 9 * j) 2).toInt + 1).toNat) : Int32).toInt ≤ 60 from ⟨by omega, by omega⟩))
  refine h_iast hx hb hK hH hS (lt_nK (by omega)) (kd_expr (t := 2) hj (by decide)) (s_vin (N := 62) (rfl : z_4.toInt = _) (ln_expr (t := 2) hj (by decide)) (by omega) (by omega)) dX2_endChoice_29 (fun H locs hH hS => ?_)
  rw [s_cl (show z_4.toInt = (i (240 + 9 * j) 2).toInt + 2 by omega)] at hH
  have hq_8 : (up2 (up2 i (240 + 9 * j) 2 z_2) (240 + 9 * j + 2) ((i (240 + 9 * j) 2).toInt + 2).toNat (i (240 + 9 * j + 2) ((i (240 + 9 * j) 2).toInt + 1).toNat)) (240 + 9 * j) 2 = z_2 := ((congrFun (up2_n _ _ (by omega)) _).trans (up2_at _ _ _ _))
  have hq_8i := congrArg Int32.toInt hq_8
  have hq_9 : (up2 (up2 i (240 + 9 * j) 2 z_2) (240 + 9 * j + 2) ((i (240 + 9 * j) 2).toInt + 2).toNat (i (240 + 9 * j + 2) ((i (240 + 9 * j) 2).toInt + 1).toNat)) (240 + 9 * j) 5 = (i (240 + 9 * j) 5) := ((congrFun (up2_n _ _ (by omega)) _).trans (up2_k _ _ (by decide)))
  have hq_9i := congrArg Int32.toInt hq_9
  have hq_10 : (up2 (up2 i (240 + 9 * j) 2 z_2) (240 + 9 * j + 2) ((i (240 + 9 * j) 2).toInt + 2).toNat (i (240 + 9 * j + 2) ((i (240 + 9 * j) 2).toInt + 1).toNat)) (240 + 9 * j) 6 = (i (240 + 9 * j) 6) := ((congrFun (up2_n _ _ (by omega)) _).trans (up2_k _ _ (by decide)))
  have hq_10i := congrArg Int32.toInt hq_10
  have hq_11 : (up2 (up2 i (240 + 9 * j) 2 z_2) (240 + 9 * j + 2) ((i (240 + 9 * j) 2).toInt + 2).toNat (i (240 + 9 * j + 2) ((i (240 + 9 * j) 2).toInt + 1).toNat)) (240 + 9 * j + 2) ((i (240 + 9 * j) 2).toInt + 2).toNat = (i (240 + 9 * j + 2) ((i (240 + 9 * j) 2).toInt + 1).toNat) := (up2_at _ _ _ _)
  have hq_11i := congrArg Int32.toInt hq_11
  exact sj_vret hx hb hr hlocks hS (up2 (up2 i (240 + 9 * j) 2 z_2) (240 + 9 * j + 2) ((i (240 + 9 * j) 2).toInt + 2).toNat (i (240 + 9 * j + 2) ((i (240 + 9 * j) 2).toInt + 1).toNat)) ⟨hO_7, (fun a ha => ((up2_n _ _ (by omega)).trans (up2_n _ _ (by omega)))), (by first | omega | (refine ⟨?_, ?_, ?_, ?_⟩ <;> first | assumption | omega))⟩ hH (sj_Knil hK) (Nat.le_of_ble_eq_true rfl) (Nat.le_of_ble_eq_true rfl) dX2_endChoice_30
set_option maxHeartbeats 2000000 in
set_option maxRecDepth 100000 in
theorem k_endElement (l : Launch) (D : va_G) (g : Nat → Nat) (ka : Nat → ClassId) (ad : Nat → Nat) (i : Nat → Nat → Int32) (r : Nat → Nat → Nat) (L : Nat → Nat → Int64) (d : Nat → Nat → UInt64) (j : Nat) (x : Int32) (hO : OkI i) (hR : RS r) (sz : Nat) (hj : j < 13) (hc : (i (240 + 9 * j) 5).toInt ≤ 59) : Met l yX2_endElement wsX2_endElement ({ frames := 0, cells := 0, slots := 0, locals := 0 }) (va_Pc [.ref (g (240 + 9 * j)), .int x] (sj_B D (hwc g ka i r L d) (hT ka) sz (gx ad (va_A (hwc g ka i r L d) sz)))) (sj_Qv (S := (Nat → Nat → Int32)) D (fun u => OkI u ∧ (∀ a, ¬ (a = 240 + 9 * j ∨ a = 240 + 9 * j + 3 ∨ a = 240 + 9 * j + 4) → u a = i a) ∧ ((u (240 + 9 * j) 5).toInt = (i (240 + 9 * j) 5).toInt + 1 ∧ u (240 + 9 * j) 2 = i (240 + 9 * j) 2 ∧ u (240 + 9 * j) 6 = i (240 + 9 * j) 6 ∧ cnc (u (240 + 9 * j + 3)) ((i (240 + 9 * j) 5).toInt + 1).toNat ≤ cnc (i (240 + 9 * j + 3)) ((i (240 + 9 * j) 5).toInt).toNat + 1)) (fun u => hwc g ka u r L d) (fun _ => []) (va_A (hwc g ka i r L d) sz)) 0 0 (va_A (hwc g ka i r L d) sz) := by
  refine x_met (Ex := gx ad) (cc := cX2_endElement) (maxL := 2) (ret := none) (by decide) rfl (Nat.le_of_ble_eq_true rfl) ?_
  intro p e s m below meth c A ls hx hb hr hml hts hown hlocks hA hS hH hK hE hl
  have hown : s.vm.findClass RX2 = some m.cls := hown
  have in2 : ∀ w ∈ wsX20, w ∈ wsX2_endElement := (fun _ h => (List.mem_cons_of_mem _ (List.mem_append_right _ h)))
  have wd0 := hts (.fieldLink RX2 19 "StoryDesk$Expression" "kinds" "[C") (List.mem_cons_of_mem _ (List.mem_append_left _ lm0))
  have wd1 := hts (.fieldLink RX2 38 "StoryDesk$Expression" "elements" "I") (List.mem_cons_of_mem _ (List.mem_append_left _ lm1))
  have wd2 := hts (.fieldLink RX2 22 "StoryDesk$Expression" "firstChoices" "[I") (List.mem_cons_of_mem _ (List.mem_append_left _ lm2))
  have wd3 := hts (.fieldLink RX2 42 "StoryDesk$Expression" "choices" "I") (List.mem_cons_of_mem _ (List.mem_append_left _ lm3))
  have hl : lv_has ls 2 [(0, .ref (g (240 + 9 * j))), (1, .int x)] := hl
  have hK : va_K D vwCl (hT ka) s := hK
  have hg_1 := s_rng x
  refine lv_aload_n hx hb dX2_endElement_0 rfl (lv_at hl 0 rfl) ?_
  refine h_getr (ci := 2) (C := RX2) (F := TX2) (N := 11) hx hb hts in2 hown hK hH (lt_nK (by omega)) (kd_expr (t := 0) hj (by decide)) (by decide) rfl 3 (by decide) wd0 (fun _ h9 => h9) (by decide) rfl (t := (240 + 9 * j + 3)) ((hR _ _ (by unfold dyn; simp <;> omega)).trans (sr_expr (by omega) (by omega))) (lt_nK (by omega)) dX2_endElement_1 ?_
  refine lv_aload_n hx hb dX2_endElement_4 rfl (lv_at hl 0 rfl) ?_
  have bx_2 : (0 : Int) ≤ (i (240 + 9 * j) 5).toInt ∧ (i (240 + 9 * j) 5).toInt ≤ 60 := by have h9 := hO (240 + 9 * j) 5; rw [bx_expr0 hj 5] at h9; exact h9
  refine h_geti (ci := 2) (C := RX2) (F := TX2) (N := 11) hx hb hts in2 hown hK hH (lt_nK (by omega)) (kd_expr (t := 0) hj (by decide)) (by decide) rfl 5 (by decide) wd1 (fun _ h9 => h9) (by decide) rfl dX2_endElement_5 ?_
  refine lv_iload_n hx hb dX2_endElement_8 rfl (lv_at hl 1 rfl) ?_
  obtain ⟨z_3, ez_3⟩ : ∃ z, vp_nar .char x = z := ⟨_, rfl⟩
  have hz_3 := s_narcR ez_3
  have hO_4 := okp hO (n := (240 + 9 * j + 3)) (k := ((i (240 + 9 * j) 5).toInt).toNat) (v := z_3) (by rw [bx_expr (t := 3) hj (by decide) (by decide) ((i (240 + 9 * j) 5).toInt).toNat]; exact (show (0 : Int) ≤ (z_3 : Int32).toInt ∧ (z_3 : Int32).toInt ≤ 65535 from ⟨by omega, by omega⟩))
  refine h_cast hx hb hK hH hS (lt_nK (by omega)) (kd_expr (t := 3) hj (by decide)) (s_vin (N := 60) (rfl : (i (240 + 9 * j) 5).toInt = _) (ln_expr (t := 3) hj (by decide)) (by omega) (by omega)) dX2_endElement_9 (fun H locs hH hS => ?_)
  rw [ez_3] at hH
  rw [s_cl (show (i (240 + 9 * j) 5).toInt = (i (240 + 9 * j) 5).toInt by omega)] at hH
  refine lv_aload_n hx hb dX2_endElement_10 rfl (lv_at hl 0 rfl) ?_
  refine lv_dup hx hb dX2_endElement_11 rfl ?_
  refine h_geti (ci := 2) (C := RX2) (F := TX2) (N := 11) hx hb hts in2 hown hK hH (lt_nK (by omega)) (kd_expr (t := 0) hj (by decide)) (by decide) rfl 5 (by decide) wd1 (fun _ h9 => h9) (by decide) rfl dX2_endElement_12 ?_
  refine sj_i (y := (i (240 + 9 * j) 5)) (congrFun (up2_n _ _ (by omega)) _) ?_
  refine lv_iconst (v := 1) hx hb dX2_endElement_15 (by decide) ?_
  refine lv_iadd hx hb dX2_endElement_16 ?_
  obtain ⟨z_5, ez_5, hz_5⟩ := s_add (rfl : (i (240 + 9 * j) 5).toInt = _) (show (1 : Int32).toInt = 1 from rfl) (by omega) (by omega)
  refine sj_i ez_5 ?_
  have hO_6 := okp hO_4 (n := (240 + 9 * j)) (k := 5) (v := z_5) (by rw [bx_expr0 hj 5]; exact (show (0 : Int) ≤ (z_5 : Int32).toInt ∧ (z_5 : Int32).toInt ≤ 60 from ⟨by omega, by omega⟩))
  refine h_puti (ty := .int) (ci := 2) (C := RX2) (F := TX2) (N := 11) hx hb hts in2 tyX2 tyX2_ok nmX2 hown hK hH hS (lt_nK (by omega)) (kd_expr (t := 0) hj (by decide)) (by decide) rfl 5 (by decide) wd1 (fun _ h9 => h9) rfl (by decide +kernel) rfl rfl (by decide) rfl dX2_endElement_17 (fun H locs hH hS => ?_)
  refine lv_aload_n hx hb dX2_endElement_20 rfl (lv_at hl 0 rfl) ?_
  refine h_getr (ci := 2) (C := RX2) (F := TX2) (N := 11) hx hb hts in2 hown hK hH (lt_nK (by omega)) (kd_expr (t := 0) hj (by decide)) (by decide) rfl 4 (by decide) wd2 (fun _ h9 => h9) (by decide) rfl (t := (240 + 9 * j + 4)) ((hR _ _ (by unfold dyn; simp <;> omega)).trans (sr_expr (by omega) (by omega))) (lt_nK (by omega)) dX2_endElement_21 ?_
  refine lv_aload_n hx hb dX2_endElement_24 rfl (lv_at hl 0 rfl) ?_
  refine h_geti (ci := 2) (C := RX2) (F := TX2) (N := 11) hx hb hts in2 hown hK hH (lt_nK (by omega)) (kd_expr (t := 0) hj (by decide)) (by decide) rfl 5 (by decide) wd1 (fun _ h9 => h9) (by decide) rfl dX2_endElement_25 ?_
  refine sj_i (y := z_5) (up2_at _ _ _ _) ?_
  refine lv_aload_n hx hb dX2_endElement_28 rfl (lv_at hl 0 rfl) ?_
  have bx_7 : (0 : Int) ≤ (i (240 + 9 * j) 2).toInt ∧ (i (240 + 9 * j) 2).toInt ≤ 61 := by have h9 := hO (240 + 9 * j) 2; rw [bx_expr0 hj 2] at h9; exact h9
  refine h_geti (ci := 2) (C := RX2) (F := TX2) (N := 11) hx hb hts in2 hown hK hH (lt_nK (by omega)) (kd_expr (t := 0) hj (by decide)) (by decide) rfl 2 (by decide) wd3 (fun _ h9 => h9) (by decide) rfl dX2_endElement_29 ?_
  refine sj_i (y := (i (240 + 9 * j) 2)) ((up2_k _ _ (by decide)).trans (congrFun (up2_n _ _ (by omega)) _)) ?_
  have hO_8 := okp hO_6 (n := (240 + 9 * j + 4)) (k := ((i (240 + 9 * j) 5).toInt + 1).toNat) (v := (i (240 + 9 * j) 2)) (by rw [bx_expr (t := 4) hj (by decide) (by decide) ((i (240 + 9 * j) 5).toInt + 1).toNat]; exact (show (0 : Int) ≤ ((i (240 + 9 * j) 2) : Int32).toInt ∧ ((i (240 + 9 * j) 2) : Int32).toInt ≤ 61 from ⟨by omega, by omega⟩))
  refine h_iast hx hb hK hH hS (lt_nK (by omega)) (kd_expr (t := 4) hj (by decide)) (s_vin (N := 61) (rfl : z_5.toInt = _) (ln_expr (t := 4) hj (by decide)) (by omega) (by omega)) dX2_endElement_32 (fun H locs hH hS => ?_)
  rw [s_cl (show z_5.toInt = (i (240 + 9 * j) 5).toInt + 1 by omega)] at hH
  have hq_9 : (up2 (up2 (up2 i (240 + 9 * j + 3) ((i (240 + 9 * j) 5).toInt).toNat z_3) (240 + 9 * j) 5 z_5) (240 + 9 * j + 4) ((i (240 + 9 * j) 5).toInt + 1).toNat (i (240 + 9 * j) 2)) (240 + 9 * j) 5 = z_5 := ((congrFun (up2_n _ _ (by omega)) _).trans (up2_at _ _ _ _))
  have hq_9i := congrArg Int32.toInt hq_9
  have hq_10 : (up2 (up2 (up2 i (240 + 9 * j + 3) ((i (240 + 9 * j) 5).toInt).toNat z_3) (240 + 9 * j) 5 z_5) (240 + 9 * j + 4) ((i (240 + 9 * j) 5).toInt + 1).toNat (i (240 + 9 * j) 2)) (240 + 9 * j) 2 = (i (240 + 9 * j) 2) := ((congrFun (up2_n _ _ (by omega)) _).trans ((up2_k _ _ (by decide)).trans (congrFun (up2_n _ _ (by omega)) _)))
  have hq_10i := congrArg Int32.toInt hq_10
  have hq_11 : (up2 (up2 (up2 i (240 + 9 * j + 3) ((i (240 + 9 * j) 5).toInt).toNat z_3) (240 + 9 * j) 5 z_5) (240 + 9 * j + 4) ((i (240 + 9 * j) 5).toInt + 1).toNat (i (240 + 9 * j) 2)) (240 + 9 * j) 6 = (i (240 + 9 * j) 6) := ((congrFun (up2_n _ _ (by omega)) _).trans ((up2_k _ _ (by decide)).trans (congrFun (up2_n _ _ (by omega)) _)))
  have hq_11i := congrArg Int32.toInt hq_11
  have hrow : (up2 (up2 (up2 i (240 + 9 * j + 3) ((i (240 + 9 * j) 5).toInt).toNat z_3) (240 + 9 * j) 5 z_5) (240 + 9 * j + 4) ((i (240 + 9 * j) 5).toInt + 1).toNat (i (240 + 9 * j) 2)) (240 + 9 * j + 3) = upd (i (240 + 9 * j + 3)) ((i (240 + 9 * j) 5).toInt).toNat z_3 := (up2_n _ _ (by omega)).trans ((up2_n _ _ (by omega)).trans (up2_r _ _ _ _))
  have hcn : cnc ((up2 (up2 (up2 i (240 + 9 * j + 3) ((i (240 + 9 * j) 5).toInt).toNat z_3) (240 + 9 * j) 5 z_5) (240 + 9 * j + 4) ((i (240 + 9 * j) 5).toInt + 1).toNat (i (240 + 9 * j) 2)) (240 + 9 * j + 3)) ((i (240 + 9 * j) 5).toInt + 1).toNat ≤ cnc (i (240 + 9 * j + 3)) ((i (240 + 9 * j) 5).toInt).toNat + 1 := by rw [hrow, show ((i (240 + 9 * j) 5).toInt + 1).toNat = ((i (240 + 9 * j) 5).toInt).toNat + 1 by omega]; exact cnc_le
  exact sj_vret hx hb hr hlocks hS (up2 (up2 (up2 i (240 + 9 * j + 3) ((i (240 + 9 * j) 5).toInt).toNat z_3) (240 + 9 * j) 5 z_5) (240 + 9 * j + 4) ((i (240 + 9 * j) 5).toInt + 1).toNat (i (240 + 9 * j) 2)) ⟨hO_8, (fun a ha => ((up2_n _ _ (by omega)).trans ((up2_n _ _ (by omega)).trans (up2_n _ _ (by omega))))), (by refine ⟨?_, ?_, ?_, ?_⟩ <;> first | assumption | omega)⟩ hH (sj_Knil hK) (Nat.le_of_ble_eq_true rfl) (Nat.le_of_ble_eq_true rfl) dX2_endElement_33
