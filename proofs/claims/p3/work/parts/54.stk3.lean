theorem dec1 {z : Int32} : decide (z = 1) = decide (z.toInt = 1) := by
  by_cases h : z = 1
  · subst h; rfl
  · have h2 : z.toInt ≠ 1 := fun q => h (Int32.toInt_inj.mp (by rw [q]; rfl))
    rw [decide_eq_false h, decide_eq_false h2]
theorem stkV_push {f : Nat → Int32} {n : Nat} {z : Int32} : stkV (upd f n z) (n + 1) = decide (z.toInt = 1) :: stkV f n := by
  show decide ((upd f n z n).toInt = 1) :: stkV (upd f n z) n = _
  rw [upd_at, stkV_upd n (Nat.le_refl _)]
theorem stkS_push {f : Nat → Int32} {n : Nat} {z : Int32} : stkS (upd f n z) (n + 1) = z.toInt :: stkS f n := by
  show (upd f n z n).toInt :: stkS (upd f n z) n = _
  rw [upd_at, stkS_upd n (Nat.le_refl _)]
theorem dX12_operand_0 : decode cX12_operand 0 = .ok (.iload_n 1, 1) := by decide +kernel
theorem dX12_operand_1 : decode cX12_operand 1 = .ok (.bipush 33, 2) := by decide +kernel
theorem dX12_operand_3 : decode cX12_operand 3 = .ok (.if_icmp .eq 9, 3) := by decide +kernel
theorem dX12_operand_12 : decode cX12_operand 12 = .ok (.aload_n 0, 1) := by decide +kernel
theorem dX12_operand_13 : decode cX12_operand 13 = .ok (.getfield 366, 3) := by decide +kernel
theorem dX12_operand_16 : decode cX12_operand 16 = .ok (.aload_n 0, 1) := by decide +kernel
theorem dX12_operand_17 : decode cX12_operand 17 = .ok (.getfield 369, 3) := by decide +kernel
theorem dX12_operand_20 : decode cX12_operand 20 = .ok (.iload_n 1, 1) := by decide +kernel
theorem dX12_operand_21 : decode cX12_operand 21 = .ok (.castore, 1) := by decide +kernel
theorem dX12_operand_22 : decode cX12_operand 22 = .ok (.aload_n 0, 1) := by decide +kernel
theorem dX12_operand_23 : decode cX12_operand 23 = .ok (.dup, 1) := by decide +kernel
theorem dX12_operand_24 : decode cX12_operand 24 = .ok (.getfield 369, 3) := by decide +kernel
theorem dX12_operand_27 : decode cX12_operand 27 = .ok (.iconst 1, 1) := by decide +kernel
theorem dX12_operand_28 : decode cX12_operand 28 = .ok (.iadd, 1) := by decide +kernel
theorem dX12_operand_29 : decode cX12_operand 29 = .ok (.putfield 369, 3) := by decide +kernel
theorem dX12_operand_32 : decode cX12_operand 32 = .ok (.iconst 1, 1) := by decide +kernel
theorem dX12_operand_33 : decode cX12_operand 33 = .ok (.ireturn, 1) := by decide +kernel
theorem dX12_operand_6 : decode cX12_operand 6 = .ok (.iload_n 1, 1) := by decide +kernel
theorem dX12_operand_7 : decode cX12_operand 7 = .ok (.bipush 40, 2) := by decide +kernel
theorem dX12_operand_9 : decode cX12_operand 9 = .ok (.if_icmp .ne 25, 3) := by decide +kernel
theorem dX12_operand_34 : decode cX12_operand 34 = .ok (.iload_n 1, 1) := by decide +kernel
theorem dX12_operand_35 : decode cX12_operand 35 = .ok (.bipush 97, 2) := by decide +kernel
theorem dX12_operand_37 : decode cX12_operand 37 = .ok (.if_icmp .lt 9, 3) := by decide +kernel
theorem dX12_operand_46 : decode cX12_operand 46 = .ok (.iconst 0, 1) := by decide +kernel
theorem dX12_operand_47 : decode cX12_operand 47 = .ok (.ireturn, 1) := by decide +kernel
theorem dX12_operand_40 : decode cX12_operand 40 = .ok (.iload_n 1, 1) := by decide +kernel
theorem dX12_operand_41 : decode cX12_operand 41 = .ok (.bipush 112, 2) := by decide +kernel
theorem dX12_operand_43 : decode cX12_operand 43 = .ok (.if_icmp .le 5, 3) := by decide +kernel
theorem dX12_operand_48 : decode cX12_operand 48 = .ok (.aload_n 0, 1) := by decide +kernel
theorem dX12_operand_49 : decode cX12_operand 49 = .ok (.getfield 372, 3) := by decide +kernel
theorem dX12_operand_52 : decode cX12_operand 52 = .ok (.aload_n 0, 1) := by decide +kernel
theorem dX12_operand_53 : decode cX12_operand 53 = .ok (.getfield 375, 3) := by decide +kernel
theorem dX12_operand_56 : decode cX12_operand 56 = .ok (.iload_n 2, 1) := by decide +kernel
theorem dX12_operand_57 : decode cX12_operand 57 = .ok (.iload_n 1, 1) := by decide +kernel
theorem dX12_operand_58 : decode cX12_operand 58 = .ok (.bipush 97, 2) := by decide +kernel
theorem dX12_operand_60 : decode cX12_operand 60 = .ok (.isub, 1) := by decide +kernel
theorem dX12_operand_61 : decode cX12_operand 61 = .ok (.ishr, 1) := by decide +kernel
theorem dX12_operand_62 : decode cX12_operand 62 = .ok (.iconst 1, 1) := by decide +kernel
theorem dX12_operand_63 : decode cX12_operand 63 = .ok (.iand, 1) := by decide +kernel
theorem dX12_operand_64 : decode cX12_operand 64 = .ok (.iastore, 1) := by decide +kernel
theorem dX12_operand_65 : decode cX12_operand 65 = .ok (.aload_n 0, 1) := by decide +kernel
theorem dX12_operand_66 : decode cX12_operand 66 = .ok (.dup, 1) := by decide +kernel
theorem dX12_operand_67 : decode cX12_operand 67 = .ok (.getfield 375, 3) := by decide +kernel
theorem dX12_operand_70 : decode cX12_operand 70 = .ok (.iconst 1, 1) := by decide +kernel
theorem dX12_operand_71 : decode cX12_operand 71 = .ok (.iadd, 1) := by decide +kernel
theorem dX12_operand_72 : decode cX12_operand 72 = .ok (.putfield 375, 3) := by decide +kernel
theorem dX12_operand_75 : decode cX12_operand 75 = .ok (.aload_n 0, 1) := by decide +kernel
theorem dX12_operand_76 : decode cX12_operand 76 = .ok (.invokevirtual 381, 3) := by decide +kernel
theorem dX12_operand_79 : decode cX12_operand 79 = .ok (.iconst 1, 1) := by decide +kernel
theorem dX12_operand_80 : decode cX12_operand 80 = .ok (.ireturn, 1) := by decide +kernel
theorem gw_X12_negate : wsX12_negate.all goodWord = true := by decide +kernel
theorem gX12_operand_X12_negate : GoodIn wsX12_operand (wsV RX12 381 RX12 yX12_negate wsX12_negate) := goodIn_app (goodIn_sub (List.forall_mem_cons.mpr ⟨(List.mem_cons_of_mem _ (List.mem_append_left _ lm4)), List.forall_mem_cons.mpr ⟨(List.mem_cons_of_mem _ (List.mem_append_left _ lm5)), List.forall_mem_cons.mpr ⟨(List.mem_cons_of_mem _ (List.mem_append_left _ lm6)), List.forall_mem_cons.mpr ⟨(List.mem_cons_of_mem _ (List.mem_append_left _ lm7)), (fun _ h => absurd h List.not_mem_nil)⟩⟩⟩⟩) (by decide +kernel)) (goodIn_sub (by unfold wsX12_negate; exact List.forall_mem_cons.mpr ⟨(List.mem_cons_of_mem _ (List.mem_append_left _ lm8)), List.forall_mem_append.mpr ⟨List.forall_mem_cons.mpr ⟨(List.mem_cons_of_mem _ (List.mem_append_left _ lm1)), List.forall_mem_cons.mpr ⟨(List.mem_cons_of_mem _ (List.mem_append_left _ lm0)), List.forall_mem_cons.mpr ⟨(List.mem_cons_of_mem _ (List.mem_append_left _ lm9)), List.forall_mem_cons.mpr ⟨(List.mem_cons_of_mem _ (List.mem_append_left _ lm10)), List.forall_mem_cons.mpr ⟨(List.mem_cons_of_mem _ (List.mem_append_left _ lm11)), List.forall_mem_cons.mpr ⟨(List.mem_cons_of_mem _ (List.mem_append_left _ lm7)), List.forall_mem_cons.mpr ⟨(List.mem_cons_of_mem _ (List.mem_append_left _ lm12)), List.forall_mem_cons.mpr ⟨(List.mem_cons_of_mem _ (List.mem_append_left _ lm2)), List.forall_mem_cons.mpr ⟨(List.mem_cons_of_mem _ (List.mem_append_left _ lm3)), (fun _ h => absurd h List.not_mem_nil)⟩⟩⟩⟩⟩⟩⟩⟩⟩, (fun _ h => (List.mem_cons_of_mem _ (List.mem_append_right _ h)))⟩⟩) gw_X12_negate)
set_option maxHeartbeats 2000000 in
set_option maxRecDepth 100000 in
theorem m_operand (l : Launch) (D : va_G) (g : Nat → Nat) (ka : Nat → ClassId) (ad : Nat → Nat) (i : Nat → Nat → Int32) (r : Nat → Nat → Nat) (L : Nat → Nat → Int64) (d : Nat → Nat → UInt64) (x : Int32) (y : Int32) (hO : OkI i) (hR : RS r) (sz : Nat) (hx0 : 0 ≤ x.toInt) (hx1 : x.toInt ≤ 65535) (hsg : (i 36 66).toInt ≤ 40) (hvl : (i 36 65).toInt ≤ 40) : Met l yX12_operand wsX12_operand ({ frames := 2, cells := 0, slots := 0, locals := 41 }) (va_Pc [.ref (g 36), .int x, .int y] (sj_B D (hwc g ka i r L d) (hT ka) sz (gx ad (va_A (hwc g ka i r L d) sz)))) (sj_Qi (S := (Nat → Nat → Int32)) D (fun v u => OkI u ∧ (∀ a b, ¬ ((a = 36 ∧ (b = 65 ∨ b = 66)) ∨ a = 418 ∨ a = 419) → u a b = i a b) ∧ ((0 : Int) ≤ v.toInt ∧ v.toInt ≤ 1) ∧ (((x.toInt = 33 ∨ x.toInt = 40) → ((u 36 65).toInt = (i 36 65).toInt ∧ (u 36 66).toInt = (i 36 66).toInt + 1)) ∧ ((x.toInt ≠ 33 ∧ x.toInt ≠ 40 ∧ 97 ≤ x.toInt ∧ x.toInt ≤ 112) → ((u 36 65).toInt = (i 36 65).toInt + 1 ∧ (u 36 66).toInt ≤ (i 36 66).toInt)) ∧ ((x.toInt ≠ 33 ∧ x.toInt ≠ 40 ∧ (x.toInt < 97 ∨ 112 < x.toInt)) → v.toInt = 0)) ∧ ((x.toInt = 33 ∨ x.toInt = 40) → (v.toInt = 1 ∧ (stkV (u 418) (u 36 65).toInt.toNat) = (stkV (i 418) (i 36 65).toInt.toNat) ∧ (stkS (u 419) (u 36 66).toInt.toNat) = x.toInt :: (stkS (i 419) (i 36 66).toInt.toNat))) ∧ (97 ≤ x.toInt → x.toInt ≤ 112 → (v.toInt = 1 ∧ mneg (tb y x.toInt :: (stkV (i 418) (i 36 65).toInt.toNat)) (stkS (i 419) (i 36 66).toInt.toNat) = ((stkV (u 418) (u 36 65).toInt.toNat), (stkS (u 419) (u 36 66).toInt.toNat))))) (fun u => hwc g ka u r L d) (fun _ => []) (va_A (hwc g ka i r L d) sz)) 0 0 (va_A (hwc g ka i r L d) sz) := by
  refine x_met (Ex := gx ad) (cc := cX12_operand) (maxL := 3) (ret := (some .boolean)) (by decide) rfl (Nat.le_of_ble_eq_true rfl) ?_
  intro p e s m below meth c A ls hx hb hr hml hts hown hlocks hA hS hH hK hE hl
  have hown : s.vm.findClass RX12 = some m.cls := hown
  have in12 : ∀ w ∈ wsX120, w ∈ wsX12_operand := (fun _ h => (List.mem_cons_of_mem _ (List.mem_append_right _ h)))
  have wd0 := hts (.fieldLink RX12 366 "StoryDeskModel" "signs" "[C") (List.mem_cons_of_mem _ (List.mem_append_left _ lm0))
  have wd1 := hts (.fieldLink RX12 369 "StoryDeskModel" "signed" "I") (List.mem_cons_of_mem _ (List.mem_append_left _ lm1))
  have wd2 := hts (.fieldLink RX12 372 "StoryDeskModel" "values" "[I") (List.mem_cons_of_mem _ (List.mem_append_left _ lm2))
  have wd3 := hts (.fieldLink RX12 375 "StoryDeskModel" "valued" "I") (List.mem_cons_of_mem _ (List.mem_append_left _ lm3))
  have hl : lv_has ls 3 [(0, .ref (g 36)), (1, .int x), (2, .int y)] := hl
  have hK : va_K D vwCl (hT ka) s := hK
  have hg_1 := s_rng y
  have hb65 : (0 : Int) ≤ (i 36 65).toInt ∧ (i 36 65).toInt ≤ 42 := hO 36 65
  have hb66 : (0 : Int) ≤ (i 36 66).toInt ∧ (i 36 66).toInt ≤ 42 := hO 36 66
  refine lv_iload_n hx hb dX12_operand_0 rfl (lv_at hl 1 rfl) ?_
  refine lv_bipush (v := 33) hx hb dX12_operand_1 (by decide) ?_
  refine lv_icmp_eq (tgt := 12) hx hb dX12_operand_3 (by decide) (fun c_2 => ?_) (fun c_2 => ?_)
  · skip
    have h_3 := s_eq (rfl : x.toInt = _) (show (33 : Int32).toInt = 33 from rfl) c_2
    refine lv_aload_n hx hb dX12_operand_12 rfl (lv_at hl 0 rfl) ?_
    refine h_getr (ci := 12) (C := RX12) (F := TX12) (N := 86) hx hb hts in12 hown hK hH (by decide) (rfl : kd 36 = 12) (by decide) rfl 64 (by decide) wd0 (fun _ h9 => h9) (by decide) rfl (t := 419) (hR 36 64 rfl) (by decide) dX12_operand_13 ?_
    refine lv_aload_n hx hb dX12_operand_16 rfl (lv_at hl 0 rfl) ?_
    have bx_4 : (0 : Int) ≤ (i 36 66).toInt ∧ (i 36 66).toInt ≤ 42 := hO 36 66
    refine h_geti (ci := 12) (C := RX12) (F := TX12) (N := 86) hx hb hts in12 hown hK hH (by decide) (rfl : kd 36 = 12) (by decide) rfl 66 (by decide) wd1 (fun _ h9 => h9) (by decide) rfl dX12_operand_17 ?_
    refine lv_iload_n hx hb dX12_operand_20 rfl (lv_at hl 1 rfl) ?_
    obtain ⟨z_5, ez_5⟩ : ∃ z, vp_nar .char x = z := ⟨_, rfl⟩
    have hz_5 : z_5.toInt = x.toInt := by rw [← ez_5, s_narc (rfl : x.toInt = _) (by omega) (by omega)] <;> exact (rfl : x.toInt = _)
    have hO_6 := okp hO (n := 419) (k := ((i 36 66).toInt).toNat) (v := z_5) (show (0 : Int) ≤ (z_5 : Int32).toInt ∧ (z_5 : Int32).toInt ≤ 65535 from ⟨by omega, by omega⟩)
    refine h_cast hx hb hK hH hS (by decide) (rfl : kd 419 = 14) (s_vin (N := 42) (rfl : (i 36 66).toInt = _) (rfl : ln 419 = 42) (by omega) (by omega)) dX12_operand_21 (fun H locs hH hS => ?_)
    rw [ez_5] at hH
    rw [s_cl (show (i 36 66).toInt = (i 36 66).toInt by omega)] at hH
    refine lv_aload_n hx hb dX12_operand_22 rfl (lv_at hl 0 rfl) ?_
    refine lv_dup hx hb dX12_operand_23 rfl ?_
    refine h_geti (ci := 12) (C := RX12) (F := TX12) (N := 86) hx hb hts in12 hown hK hH (by decide) (rfl : kd 36 = 12) (by decide) rfl 66 (by decide) wd1 (fun _ h9 => h9) (by decide) rfl dX12_operand_24 ?_
    refine sj_i (y := (i 36 66)) (congrFun (up2_n _ _ (by decide)) _) ?_
    refine lv_iconst (v := 1) hx hb dX12_operand_27 (by decide) ?_
    refine lv_iadd hx hb dX12_operand_28 ?_
    obtain ⟨z_7, ez_7, hz_7⟩ := s_add (rfl : (i 36 66).toInt = _) (show (1 : Int32).toInt = 1 from rfl) (by omega) (by omega)
    refine sj_i ez_7 ?_
    have hO_8 := okp hO_6 (n := 36) (k := 66) (v := z_7) (show (0 : Int) ≤ (z_7 : Int32).toInt ∧ (z_7 : Int32).toInt ≤ 42 from ⟨by omega, by omega⟩)
    refine h_puti (ty := .int) (ci := 12) (C := RX12) (F := TX12) (N := 86) hx hb hts in12 tyX12 tyX12_ok nmX12 hown hK hH hS (by decide) (rfl : kd 36 = 12) (by decide) rfl 66 (by decide) wd1 (fun _ h9 => h9) rfl (by decide +kernel) rfl rfl (by decide) rfl dX12_operand_29 (fun H locs hH hS => ?_)
    refine lv_iconst (v := 1) hx hb dX12_operand_32 (by decide) ?_
    have hlv_9 : (1 : Int32).toInt = 1 := rfl
    have hw_10 : ((up2 (up2 i 419 ((i 36 66).toInt).toNat z_5) 36 66 z_7) 36 65).toInt = ((i 36 65) : Int32).toInt := congrArg Int32.toInt (((up2_k _ _ (by decide)).trans (congrFun (up2_n _ _ (by decide)) _)))
    have hw_11 : ((up2 (up2 i 419 ((i 36 66).toInt).toNat z_5) 36 66 z_7) 36 66).toInt = (z_7 : Int32).toInt := congrArg Int32.toInt ((up2_at _ _ _ _))
    have hw_12 : ((up2 (up2 i 419 ((i 36 66).toInt).toNat z_5) 36 66 z_7) 36 65).toInt = ((i 36 65) : Int32).toInt := congrArg Int32.toInt (((up2_k _ _ (by decide)).trans (congrFun (up2_n _ _ (by decide)) _)))
    have hw_13 : ((up2 (up2 i 419 ((i 36 66).toInt).toNat z_5) 36 66 z_7) 36 66).toInt = (z_7 : Int32).toInt := congrArg Int32.toInt ((up2_at _ _ _ _))
    exact sj_zret hx hb hr hlocks (by decide +kernel) hS (up2 (up2 i 419 ((i 36 66).toInt).toNat z_5) 36 66 z_7) ⟨hO_8, (fun a b ha => ((up2_o _ _ (by omega)).trans (up2_o _ _ (by omega)))), ⟨by decide, by decide⟩, (by refine ⟨fun h => ⟨by omega, by omega⟩, fun h => ⟨by omega, by omega⟩, fun h => by omega⟩), (fun h => ⟨by omega, by rw [show (up2 (up2 i 419 ((i 36 66).toInt).toNat z_5) 36 66 z_7) 418 = i 418 from ((up2_n _ _ (by decide)).trans (up2_n _ _ (by decide))), show ((up2 (up2 i 419 ((i 36 66).toInt).toNat z_5) 36 66 z_7) 36 65).toInt = (i 36 65).toInt by omega], by
          rw [show (up2 (up2 i 419 ((i 36 66).toInt).toNat z_5) 36 66 z_7) 419 = upd (i 419) ((i 36 66).toInt).toNat z_5 from ((up2_n _ _ (by decide)).trans (up2_r _ _ _ _)), show ((up2 (up2 i 419 ((i 36 66).toInt).toNat z_5) 36 66 z_7) 36 66).toInt.toNat = ((i 36 66).toInt).toNat + 1 by omega, stkS_push, show (z_5 : Int32).toInt = x.toInt by omega]⟩), (fun h1 h2 => by exfalso; omega)⟩ hH (sj_Knil hK) (Nat.le_of_ble_eq_true rfl) (Nat.le_of_ble_eq_true rfl) dX12_operand_33
  · skip
    have h_14 := s_ne (rfl : x.toInt = _) (show (33 : Int32).toInt = 33 from rfl) c_2
    refine lv_iload_n hx hb dX12_operand_6 rfl (lv_at hl 1 rfl) ?_
    refine lv_bipush (v := 40) hx hb dX12_operand_7 (by decide) ?_
    refine lv_icmp_ne (tgt := 34) hx hb dX12_operand_9 (by decide) (fun c_15 => ?_) (fun c_15 => ?_)
    · skip
      have h_16 := s_ne (rfl : x.toInt = _) (show (40 : Int32).toInt = 40 from rfl) c_15
      refine lv_iload_n hx hb dX12_operand_34 rfl (lv_at hl 1 rfl) ?_
      refine lv_bipush (v := 97) hx hb dX12_operand_35 (by decide) ?_
      refine lv_icmp_lt (tgt := 46) hx hb dX12_operand_37 (by decide) (fun c_17 => ?_) (fun c_17 => ?_)
      · skip
        have h_18 := s_lt (rfl : x.toInt = _) (show (97 : Int32).toInt = 97 from rfl) c_17
        refine lv_iconst (v := 0) hx hb dX12_operand_46 (by decide) ?_
        have hlv_19 : (0 : Int32).toInt = 0 := rfl
        exact sj_zret hx hb hr hlocks (by decide +kernel) hS i ⟨hO, (fun a b ha => rfl), ⟨by decide, by decide⟩, (by refine ⟨fun h => ⟨by omega, by omega⟩, fun h => ⟨by omega, by omega⟩, fun h => by omega⟩), (fun h => by exfalso; omega), (fun h1 h2 => by exfalso; omega)⟩ hH (sj_Knil hK) (Nat.le_of_ble_eq_true rfl) (Nat.le_of_ble_eq_true rfl) dX12_operand_47
      · skip
        have h_20 := s_nlt (rfl : x.toInt = _) (show (97 : Int32).toInt = 97 from rfl) c_17
        refine lv_iload_n hx hb dX12_operand_40 rfl (lv_at hl 1 rfl) ?_
        refine lv_bipush (v := 112) hx hb dX12_operand_41 (by decide) ?_
        refine lv_icmp_le (tgt := 48) hx hb dX12_operand_43 (by decide) (fun c_21 => ?_) (fun c_21 => ?_)
        · skip
          have h_22 := s_le (rfl : x.toInt = _) (show (112 : Int32).toInt = 112 from rfl) c_21
          refine lv_aload_n hx hb dX12_operand_48 rfl (lv_at hl 0 rfl) ?_
          refine h_getr (ci := 12) (C := RX12) (F := TX12) (N := 86) hx hb hts in12 hown hK hH (by decide) (rfl : kd 36 = 12) (by decide) rfl 63 (by decide) wd2 (fun _ h9 => h9) (by decide) rfl (t := 418) (hR 36 63 rfl) (by decide) dX12_operand_49 ?_
          refine lv_aload_n hx hb dX12_operand_52 rfl (lv_at hl 0 rfl) ?_
          have bx_23 : (0 : Int) ≤ (i 36 65).toInt ∧ (i 36 65).toInt ≤ 42 := hO 36 65
          refine h_geti (ci := 12) (C := RX12) (F := TX12) (N := 86) hx hb hts in12 hown hK hH (by decide) (rfl : kd 36 = 12) (by decide) rfl 65 (by decide) wd3 (fun _ h9 => h9) (by decide) rfl dX12_operand_53 ?_
          refine lv_iload_n hx hb dX12_operand_56 rfl (lv_at hl 2 rfl) ?_
          refine lv_iload_n hx hb dX12_operand_57 rfl (lv_at hl 1 rfl) ?_
          refine lv_bipush (v := 97) hx hb dX12_operand_58 (by decide) ?_
          refine lv_isub hx hb dX12_operand_60 ?_
          obtain ⟨z_24, ez_24, hz_24⟩ := s_sub (rfl : x.toInt = _) (show (97 : Int32).toInt = 97 from rfl) (by omega) (by omega)
          refine sj_i ez_24 ?_
          refine lv_ishr hx hb dX12_operand_61 ?_
          refine lv_topi (fun z_25 ez_25 => ?_)
          refine lv_iconst (v := 1) hx hb dX12_operand_62 (by decide) ?_
          refine lv_iand hx hb dX12_operand_63 ?_
          refine lv_topi (fun z_26 ez_26 => ?_)
          have hz_26 := s_and (k := 1) ez_26 (by decide +kernel)
          have hO_27 := okp hO (n := 418) (k := ((i 36 65).toInt).toNat) (v := z_26) (show (0 : Int) ≤ (z_26 : Int32).toInt ∧ (z_26 : Int32).toInt ≤ 1 from ⟨by omega, by omega⟩)
          refine h_iast hx hb hK hH hS (by decide) (rfl : kd 418 = 13) (s_vin (N := 42) (rfl : (i 36 65).toInt = _) (rfl : ln 418 = 42) (by omega) (by omega)) dX12_operand_64 (fun H locs hH hS => ?_)
          rw [s_cl (show (i 36 65).toInt = (i 36 65).toInt by omega)] at hH
          refine lv_aload_n hx hb dX12_operand_65 rfl (lv_at hl 0 rfl) ?_
          refine lv_dup hx hb dX12_operand_66 rfl ?_
          refine h_geti (ci := 12) (C := RX12) (F := TX12) (N := 86) hx hb hts in12 hown hK hH (by decide) (rfl : kd 36 = 12) (by decide) rfl 65 (by decide) wd3 (fun _ h9 => h9) (by decide) rfl dX12_operand_67 ?_
          refine sj_i (y := (i 36 65)) (congrFun (up2_n _ _ (by decide)) _) ?_
          refine lv_iconst (v := 1) hx hb dX12_operand_70 (by decide) ?_
          refine lv_iadd hx hb dX12_operand_71 ?_
          obtain ⟨z_28, ez_28, hz_28⟩ := s_add (rfl : (i 36 65).toInt = _) (show (1 : Int32).toInt = 1 from rfl) (by omega) (by omega)
          refine sj_i ez_28 ?_
          have hO_29 := okp hO_27 (n := 36) (k := 65) (v := z_28) (show (0 : Int) ≤ (z_28 : Int32).toInt ∧ (z_28 : Int32).toInt ≤ 42 from ⟨by omega, by omega⟩)
          refine h_puti (ty := .int) (ci := 12) (C := RX12) (F := TX12) (N := 86) hx hb hts in12 tyX12 tyX12_ok nmX12 hown hK hH hS (by decide) (rfl : kd 36 = 12) (by decide) rfl 65 (by decide) wd3 (fun _ h9 => h9) rfl (by decide +kernel) rfl rfl (by decide) rfl dX12_operand_72 (fun H locs hH hS => ?_)
          refine lv_aload_n hx hb dX12_operand_75 rfl (lv_at hl 0 rfl) ?_
          have hw_30 : ((up2 (up2 i 418 ((i 36 65).toInt).toNat z_26) 36 65 z_28) 36 65).toInt = (z_28 : Int32).toInt := congrArg Int32.toInt ((up2_at _ _ _ _))
          have hw_31 : ((up2 (up2 i 418 ((i 36 65).toInt).toNat z_26) 36 65 z_28) 36 66).toInt = ((i 36 66) : Int32).toInt := congrArg Int32.toInt (((up2_k _ _ (by decide)).trans (congrFun (up2_n _ _ (by decide)) _)))
          refine x_callv (va_runV (As := []) (rest := []) ⟨hx, hb, hml, hown, hts⟩ (m_negate l D g ka ad (up2 (up2 i 418 ((i 36 65).toInt).toNat z_26) 36 65 z_28) r L d  hO_29 hR H.size (by first | omega | decide)) (cwV 0 hts gX12_operand_X12_negate rfl rfl rfl (by decide +kernel) ⟨(Nat.le_of_ble_eq_true rfl), (Nat.le_of_ble_eq_true rfl)⟩) (x_preV (q := (RX12, TX12, 86)) hH hK (q_obj (by decide) (rfl : kd 36 = 12) (by decide)) rfl gxb (gxw hE hS (x_F hH hS hA))) rfl rfl hl.1 rfl (lv_room (Nat.le_of_ble_eq_true rfl)) dX12_operand_76 ⟨(Nat.le_of_ble_eq_true rfl), (Nat.le_of_ble_eq_true rfl)⟩) hH hS hA rfl rfl (fun im_34 H locs hw_33 hH hS => ?_)
          have hH : sj_H D A (hwc g ka im_34 r L d) H := hH
          obtain ⟨hO_36, hfr_35, he_37, hx2_38⟩ := hw_33
          refine lv_iconst (v := 1) hx hb dX12_operand_79 (by decide) ?_
          have hlv_39 : (1 : Int32).toInt = 1 := rfl
          exact sj_zret hx hb hr hlocks (by decide +kernel) hS im_34 ⟨hO_36, (fun a b ha => ((hfr_35 a b (by omega)).trans ((up2_o _ _ (by omega)).trans (up2_o _ _ (by omega))))), ⟨by decide, by decide⟩, (by refine ⟨fun h => ⟨by omega, by omega⟩, fun h => ⟨by omega, by omega⟩, fun h => by omega⟩), (fun h => by exfalso; omega), (fun h1 h2 => ⟨by omega, by
          have h9 := hx2_38
          rw [show (up2 (up2 i 418 ((i 36 65).toInt).toNat z_26) 36 65 z_28) 418 = upd (i 418) ((i 36 65).toInt).toNat z_26 from ((up2_n _ _ (by decide)).trans (up2_r _ _ _ _)), show ((up2 (up2 i 418 ((i 36 65).toInt).toNat z_26) 36 65 z_28) 36 65).toInt.toNat = ((i 36 65).toInt).toNat + 1 by omega, stkV_push, ← dec1, ← tb_eq ez_24 ez_25 ez_26, show ((up2 (up2 i 418 ((i 36 65).toInt).toNat z_26) 36 65 z_28) 36 66).toInt = (i 36 66).toInt by omega, show (up2 (up2 i 418 ((i 36 65).toInt).toNat z_26) 36 65 z_28) 419 = i 419 from ((up2_n _ _ (by decide)).trans (up2_n _ _ (by decide)))] at h9
          rw [show im_34 419 = i 419 from ((funext fun b9 => hfr_35 419 b9 (by omega)).trans ((up2_n _ _ (by decide)).trans (up2_n _ _ (by decide))))]
          exact h9⟩)⟩ hH (sj_Knil hK) (Nat.le_of_ble_eq_true rfl) (Nat.le_of_ble_eq_true rfl) dX12_operand_80
        · skip
          have h_40 := s_nle (rfl : x.toInt = _) (show (112 : Int32).toInt = 112 from rfl) c_21
          refine lv_iconst (v := 0) hx hb dX12_operand_46 (by decide) ?_
          have hlv_41 : (0 : Int32).toInt = 0 := rfl
          exact sj_zret hx hb hr hlocks (by decide +kernel) hS i ⟨hO, (fun a b ha => rfl), ⟨by decide, by decide⟩, (by refine ⟨fun h => ⟨by omega, by omega⟩, fun h => ⟨by omega, by omega⟩, fun h => by omega⟩), (fun h => by exfalso; omega), (fun h1 h2 => by exfalso; omega)⟩ hH (sj_Knil hK) (Nat.le_of_ble_eq_true rfl) (Nat.le_of_ble_eq_true rfl) dX12_operand_47
    · skip
      have h_42 := s_eq (rfl : x.toInt = _) (show (40 : Int32).toInt = 40 from rfl) c_15
      refine lv_aload_n hx hb dX12_operand_12 rfl (lv_at hl 0 rfl) ?_
      refine h_getr (ci := 12) (C := RX12) (F := TX12) (N := 86) hx hb hts in12 hown hK hH (by decide) (rfl : kd 36 = 12) (by decide) rfl 64 (by decide) wd0 (fun _ h9 => h9) (by decide) rfl (t := 419) (hR 36 64 rfl) (by decide) dX12_operand_13 ?_
      refine lv_aload_n hx hb dX12_operand_16 rfl (lv_at hl 0 rfl) ?_
      have bx_43 : (0 : Int) ≤ (i 36 66).toInt ∧ (i 36 66).toInt ≤ 42 := hO 36 66
      refine h_geti (ci := 12) (C := RX12) (F := TX12) (N := 86) hx hb hts in12 hown hK hH (by decide) (rfl : kd 36 = 12) (by decide) rfl 66 (by decide) wd1 (fun _ h9 => h9) (by decide) rfl dX12_operand_17 ?_
      refine lv_iload_n hx hb dX12_operand_20 rfl (lv_at hl 1 rfl) ?_
      obtain ⟨z_44, ez_44⟩ : ∃ z, vp_nar .char x = z := ⟨_, rfl⟩
      have hz_44 : z_44.toInt = x.toInt := by rw [← ez_44, s_narc (rfl : x.toInt = _) (by omega) (by omega)] <;> exact (rfl : x.toInt = _)
      have hO_45 := okp hO (n := 419) (k := ((i 36 66).toInt).toNat) (v := z_44) (show (0 : Int) ≤ (z_44 : Int32).toInt ∧ (z_44 : Int32).toInt ≤ 65535 from ⟨by omega, by omega⟩)
      refine h_cast hx hb hK hH hS (by decide) (rfl : kd 419 = 14) (s_vin (N := 42) (rfl : (i 36 66).toInt = _) (rfl : ln 419 = 42) (by omega) (by omega)) dX12_operand_21 (fun H locs hH hS => ?_)
      rw [ez_44] at hH
      rw [s_cl (show (i 36 66).toInt = (i 36 66).toInt by omega)] at hH
      refine lv_aload_n hx hb dX12_operand_22 rfl (lv_at hl 0 rfl) ?_
      refine lv_dup hx hb dX12_operand_23 rfl ?_
      refine h_geti (ci := 12) (C := RX12) (F := TX12) (N := 86) hx hb hts in12 hown hK hH (by decide) (rfl : kd 36 = 12) (by decide) rfl 66 (by decide) wd1 (fun _ h9 => h9) (by decide) rfl dX12_operand_24 ?_
      refine sj_i (y := (i 36 66)) (congrFun (up2_n _ _ (by decide)) _) ?_
      refine lv_iconst (v := 1) hx hb dX12_operand_27 (by decide) ?_
      refine lv_iadd hx hb dX12_operand_28 ?_
      obtain ⟨z_46, ez_46, hz_46⟩ := s_add (rfl : (i 36 66).toInt = _) (show (1 : Int32).toInt = 1 from rfl) (by omega) (by omega)
      refine sj_i ez_46 ?_
      have hO_47 := okp hO_45 (n := 36) (k := 66) (v := z_46) (show (0 : Int) ≤ (z_46 : Int32).toInt ∧ (z_46 : Int32).toInt ≤ 42 from ⟨by omega, by omega⟩)
      refine h_puti (ty := .int) (ci := 12) (C := RX12) (F := TX12) (N := 86) hx hb hts in12 tyX12 tyX12_ok nmX12 hown hK hH hS (by decide) (rfl : kd 36 = 12) (by decide) rfl 66 (by decide) wd1 (fun _ h9 => h9) rfl (by decide +kernel) rfl rfl (by decide) rfl dX12_operand_29 (fun H locs hH hS => ?_)
      refine lv_iconst (v := 1) hx hb dX12_operand_32 (by decide) ?_
      have hlv_48 : (1 : Int32).toInt = 1 := rfl
      have hw_49 : ((up2 (up2 i 419 ((i 36 66).toInt).toNat z_44) 36 66 z_46) 36 65).toInt = ((i 36 65) : Int32).toInt := congrArg Int32.toInt (((up2_k _ _ (by decide)).trans (congrFun (up2_n _ _ (by decide)) _)))
      have hw_50 : ((up2 (up2 i 419 ((i 36 66).toInt).toNat z_44) 36 66 z_46) 36 66).toInt = (z_46 : Int32).toInt := congrArg Int32.toInt ((up2_at _ _ _ _))
      have hw_51 : ((up2 (up2 i 419 ((i 36 66).toInt).toNat z_44) 36 66 z_46) 36 65).toInt = ((i 36 65) : Int32).toInt := congrArg Int32.toInt (((up2_k _ _ (by decide)).trans (congrFun (up2_n _ _ (by decide)) _)))
      have hw_52 : ((up2 (up2 i 419 ((i 36 66).toInt).toNat z_44) 36 66 z_46) 36 66).toInt = (z_46 : Int32).toInt := congrArg Int32.toInt ((up2_at _ _ _ _))
      exact sj_zret hx hb hr hlocks (by decide +kernel) hS (up2 (up2 i 419 ((i 36 66).toInt).toNat z_44) 36 66 z_46) ⟨hO_47, (fun a b ha => ((up2_o _ _ (by omega)).trans (up2_o _ _ (by omega)))), ⟨by decide, by decide⟩, (by refine ⟨fun h => ⟨by omega, by omega⟩, fun h => ⟨by omega, by omega⟩, fun h => by omega⟩), (fun h => ⟨by omega, by rw [show (up2 (up2 i 419 ((i 36 66).toInt).toNat z_44) 36 66 z_46) 418 = i 418 from ((up2_n _ _ (by decide)).trans (up2_n _ _ (by decide))), show ((up2 (up2 i 419 ((i 36 66).toInt).toNat z_44) 36 66 z_46) 36 65).toInt = (i 36 65).toInt by omega], by
          rw [show (up2 (up2 i 419 ((i 36 66).toInt).toNat z_44) 36 66 z_46) 419 = upd (i 419) ((i 36 66).toInt).toNat z_44 from ((up2_n _ _ (by decide)).trans (up2_r _ _ _ _)), show ((up2 (up2 i 419 ((i 36 66).toInt).toNat z_44) 36 66 z_46) 36 66).toInt.toNat = ((i 36 66).toInt).toNat + 1 by omega, stkS_push, show (z_44 : Int32).toInt = x.toInt by omega]⟩), (fun h1 h2 => by exfalso; omega)⟩ hH (sj_Knil hK) (Nat.le_of_ble_eq_true rfl) (Nat.le_of_ble_eq_true rfl) dX12_operand_33
