theorem dX3_addPart_0 : decode cX3_addPart 0 = .ok (.iload_n 2, 1) := by decide +kernel
theorem dX3_addPart_1 : decode cX3_addPart 1 = .ok (.istore 4, 2) := by decide +kernel
theorem dX3_addPart_3 : decode cX3_addPart 3 = .ok (.iload 4, 2) := by decide +kernel
theorem dX3_addPart_5 : decode cX3_addPart 5 = .ok (.iload_n 2, 1) := by decide +kernel
theorem dX3_addPart_6 : decode cX3_addPart 6 = .ok (.iload_n 3, 1) := by decide +kernel
theorem dX3_addPart_7 : decode cX3_addPart 7 = .ok (.iadd, 1) := by decide +kernel
theorem dX3_addPart_8 : decode cX3_addPart 8 = .ok (.if_icmp .ge 47, 3) := by decide +kernel
theorem dX3_addPart_55 : decode cX3_addPart 55 = .ok (.return_, 1) := by decide +kernel
theorem dX3_addPart_11 : decode cX3_addPart 11 = .ok (.aload_n 0, 1) := by decide +kernel
theorem dX3_addPart_12 : decode cX3_addPart 12 = .ok (.getfield 13, 3) := by decide +kernel
theorem dX3_addPart_15 : decode cX3_addPart 15 = .ok (.aload_n 0, 1) := by decide +kernel
theorem dX3_addPart_16 : decode cX3_addPart 16 = .ok (.getfield 7, 3) := by decide +kernel
theorem dX3_addPart_19 : decode cX3_addPart 19 = .ok (.arraylength, 1) := by decide +kernel
theorem dX3_addPart_20 : decode cX3_addPart 20 = .ok (.if_icmp .ge 35, 3) := by decide +kernel
theorem dX3_addPart_23 : decode cX3_addPart 23 = .ok (.aload_n 0, 1) := by decide +kernel
theorem dX3_addPart_24 : decode cX3_addPart 24 = .ok (.getfield 7, 3) := by decide +kernel
theorem dX3_addPart_27 : decode cX3_addPart 27 = .ok (.aload_n 0, 1) := by decide +kernel
theorem dX3_addPart_28 : decode cX3_addPart 28 = .ok (.getfield 13, 3) := by decide +kernel
theorem dX3_addPart_31 : decode cX3_addPart 31 = .ok (.aload_n 1, 1) := by decide +kernel
theorem dX3_addPart_32 : decode cX3_addPart 32 = .ok (.getfield 7, 3) := by decide +kernel
theorem dX3_addPart_35 : decode cX3_addPart 35 = .ok (.iload 4, 2) := by decide +kernel
theorem dX3_addPart_37 : decode cX3_addPart 37 = .ok (.caload, 1) := by decide +kernel
theorem dX3_addPart_38 : decode cX3_addPart 38 = .ok (.castore, 1) := by decide +kernel
theorem dX3_addPart_39 : decode cX3_addPart 39 = .ok (.aload_n 0, 1) := by decide +kernel
theorem dX3_addPart_40 : decode cX3_addPart 40 = .ok (.dup, 1) := by decide +kernel
theorem dX3_addPart_41 : decode cX3_addPart 41 = .ok (.getfield 13, 3) := by decide +kernel
theorem dX3_addPart_44 : decode cX3_addPart 44 = .ok (.iconst 1, 1) := by decide +kernel
theorem dX3_addPart_45 : decode cX3_addPart 45 = .ok (.iadd, 1) := by decide +kernel
theorem dX3_addPart_46 : decode cX3_addPart 46 = .ok (.putfield 13, 3) := by decide +kernel
theorem dX3_addPart_49 : decode cX3_addPart 49 = .ok (.iinc 4 1, 3) := by decide +kernel
theorem dX3_addPart_52 : decode cX3_addPart 52 = .ok (.goto (-49), 3) := by decide +kernel
theorem dX3_isWholeNumber_0 : decode cX3_isWholeNumber 0 = .ok (.aload_n 0, 1) := by decide +kernel
theorem dX3_isWholeNumber_1 : decode cX3_isWholeNumber 1 = .ok (.iconst 0, 1) := by decide +kernel
theorem dX3_isWholeNumber_2 : decode cX3_isWholeNumber 2 = .ok (.invokevirtual 17, 3) := by decide +kernel
theorem dX3_isWholeNumber_5 : decode cX3_isWholeNumber 5 = .ok (.bipush 45, 2) := by decide +kernel
theorem dX3_isWholeNumber_7 : decode cX3_isWholeNumber 7 = .ok (.if_icmp .ne 7, 3) := by decide +kernel
theorem dX3_isWholeNumber_14 : decode cX3_isWholeNumber 14 = .ok (.iconst 0, 1) := by decide +kernel
theorem dX3_isWholeNumber_15 : decode cX3_isWholeNumber 15 = .ok (.istore_n 1, 1) := by decide +kernel
theorem dX3_isWholeNumber_16 : decode cX3_isWholeNumber 16 = .ok (.aload_n 0, 1) := by decide +kernel
theorem dX3_isWholeNumber_17 : decode cX3_isWholeNumber 17 = .ok (.iload_n 1, 1) := by decide +kernel
theorem dX3_isWholeNumber_18 : decode cX3_isWholeNumber 18 = .ok (.bipush 9, 2) := by decide +kernel
theorem dX3_isWholeNumber_20 : decode cX3_isWholeNumber 20 = .ok (.invokevirtual 21, 3) := by decide +kernel
theorem dX3_isWholeNumber_23 : decode cX3_isWholeNumber 23 = .ok (.istore_n 2, 1) := by decide +kernel
theorem dX3_isWholeNumber_24 : decode cX3_isWholeNumber 24 = .ok (.iload_n 2, 1) := by decide +kernel
theorem dX3_isWholeNumber_25 : decode cX3_isWholeNumber 25 = .ok (.ifCond .le 17, 3) := by decide +kernel
theorem dX3_isWholeNumber_42 : decode cX3_isWholeNumber 42 = .ok (.iconst 0, 1) := by decide +kernel
theorem dX3_isWholeNumber_43 : decode cX3_isWholeNumber 43 = .ok (.ireturn, 1) := by decide +kernel
theorem dX3_isWholeNumber_28 : decode cX3_isWholeNumber 28 = .ok (.iload_n 1, 1) := by decide +kernel
theorem dX3_isWholeNumber_29 : decode cX3_isWholeNumber 29 = .ok (.iload_n 2, 1) := by decide +kernel
theorem dX3_isWholeNumber_30 : decode cX3_isWholeNumber 30 = .ok (.iadd, 1) := by decide +kernel
theorem dX3_isWholeNumber_31 : decode cX3_isWholeNumber 31 = .ok (.aload_n 0, 1) := by decide +kernel
theorem dX3_isWholeNumber_32 : decode cX3_isWholeNumber 32 = .ok (.getfield 13, 3) := by decide +kernel
theorem dX3_isWholeNumber_35 : decode cX3_isWholeNumber 35 = .ok (.if_icmp .ne 7, 3) := by decide +kernel
theorem dX3_isWholeNumber_38 : decode cX3_isWholeNumber 38 = .ok (.iconst 1, 1) := by decide +kernel
theorem dX3_isWholeNumber_39 : decode cX3_isWholeNumber 39 = .ok (.goto 4, 3) := by decide +kernel
theorem dX3_isWholeNumber_10 : decode cX3_isWholeNumber 10 = .ok (.iconst 1, 1) := by decide +kernel
theorem dX3_isWholeNumber_11 : decode cX3_isWholeNumber 11 = .ok (.goto 4, 3) := by decide +kernel
theorem dX3_wholeNumber_0 : decode cX3_wholeNumber 0 = .ok (.iconst 0, 1) := by decide +kernel
theorem dX3_wholeNumber_1 : decode cX3_wholeNumber 1 = .ok (.istore_n 3, 1) := by decide +kernel
theorem dX3_wholeNumber_2 : decode cX3_wholeNumber 2 = .ok (.iload_n 1, 1) := by decide +kernel
theorem dX3_wholeNumber_3 : decode cX3_wholeNumber 3 = .ok (.istore 4, 2) := by decide +kernel
theorem dX3_wholeNumber_5 : decode cX3_wholeNumber 5 = .ok (.iload 4, 2) := by decide +kernel
theorem dX3_wholeNumber_7 : decode cX3_wholeNumber 7 = .ok (.iload_n 2, 1) := by decide +kernel
theorem dX3_wholeNumber_8 : decode cX3_wholeNumber 8 = .ok (.if_icmp .ge 42, 3) := by decide +kernel
theorem dX3_wholeNumber_50 : decode cX3_wholeNumber 50 = .ok (.aload_n 0, 1) := by decide +kernel
theorem dX3_wholeNumber_51 : decode cX3_wholeNumber 51 = .ok (.iload_n 1, 1) := by decide +kernel
theorem dX3_wholeNumber_52 : decode cX3_wholeNumber 52 = .ok (.invokevirtual 17, 3) := by decide +kernel
theorem dX3_wholeNumber_55 : decode cX3_wholeNumber 55 = .ok (.bipush 45, 2) := by decide +kernel
theorem dX3_wholeNumber_57 : decode cX3_wholeNumber 57 = .ok (.if_icmp .ne 8, 3) := by decide +kernel
theorem dX3_wholeNumber_65 : decode cX3_wholeNumber 65 = .ok (.iload_n 3, 1) := by decide +kernel
theorem dX3_wholeNumber_66 : decode cX3_wholeNumber 66 = .ok (.ireturn, 1) := by decide +kernel
theorem dX3_wholeNumber_60 : decode cX3_wholeNumber 60 = .ok (.iload_n 3, 1) := by decide +kernel
theorem dX3_wholeNumber_61 : decode cX3_wholeNumber 61 = .ok (.ineg, 1) := by decide +kernel
theorem dX3_wholeNumber_62 : decode cX3_wholeNumber 62 = .ok (.goto 4, 3) := by decide +kernel
theorem dX3_wholeNumber_11 : decode cX3_wholeNumber 11 = .ok (.aload_n 0, 1) := by decide +kernel
theorem dX3_wholeNumber_12 : decode cX3_wholeNumber 12 = .ok (.iload 4, 2) := by decide +kernel
theorem dX3_wholeNumber_14 : decode cX3_wholeNumber 14 = .ok (.invokevirtual 17, 3) := by decide +kernel
theorem dX3_wholeNumber_17 : decode cX3_wholeNumber 17 = .ok (.istore 5, 2) := by decide +kernel
theorem dX3_wholeNumber_19 : decode cX3_wholeNumber 19 = .ok (.iload 5, 2) := by decide +kernel
theorem dX3_wholeNumber_21 : decode cX3_wholeNumber 21 = .ok (.bipush 48, 2) := by decide +kernel
theorem dX3_wholeNumber_23 : decode cX3_wholeNumber 23 = .ok (.if_icmp .lt 21, 3) := by decide +kernel
theorem dX3_wholeNumber_44 : decode cX3_wholeNumber 44 = .ok (.iinc 4 1, 3) := by decide +kernel
theorem dX3_wholeNumber_47 : decode cX3_wholeNumber 47 = .ok (.goto (-42), 3) := by decide +kernel
theorem dX3_wholeNumber_26 : decode cX3_wholeNumber 26 = .ok (.iload 5, 2) := by decide +kernel
theorem dX3_wholeNumber_28 : decode cX3_wholeNumber 28 = .ok (.bipush 57, 2) := by decide +kernel
theorem dX3_wholeNumber_30 : decode cX3_wholeNumber 30 = .ok (.if_icmp .gt 14, 3) := by decide +kernel
theorem dX3_wholeNumber_33 : decode cX3_wholeNumber 33 = .ok (.iload_n 3, 1) := by decide +kernel
theorem dX3_wholeNumber_34 : decode cX3_wholeNumber 34 = .ok (.bipush 10, 2) := by decide +kernel
theorem dX3_wholeNumber_36 : decode cX3_wholeNumber 36 = .ok (.imul, 1) := by decide +kernel
theorem dX3_wholeNumber_37 : decode cX3_wholeNumber 37 = .ok (.iload 5, 2) := by decide +kernel
theorem dX3_wholeNumber_39 : decode cX3_wholeNumber 39 = .ok (.bipush 48, 2) := by decide +kernel
theorem dX3_wholeNumber_41 : decode cX3_wholeNumber 41 = .ok (.isub, 1) := by decide +kernel
theorem dX3_wholeNumber_42 : decode cX3_wholeNumber 42 = .ok (.iadd, 1) := by decide +kernel
theorem dX3_wholeNumber_43 : decode cX3_wholeNumber 43 = .ok (.istore_n 3, 1) := by decide +kernel
theorem gw_X3_at : wsX3_at.all goodWord = true := by decide +kernel
theorem gX3_isWholeNumber_X3_at : GoodIn wsX3_isWholeNumber (wsV RX3 17 RX3 yX3_at wsX3_at) := goodIn_app (goodIn_sub (List.forall_mem_cons.mpr ⟨(List.mem_cons_of_mem _ (List.mem_append_left _ lm1)), List.forall_mem_cons.mpr ⟨(List.mem_cons_of_mem _ (List.mem_append_left _ lm2)), List.forall_mem_cons.mpr ⟨(List.mem_cons_of_mem _ (List.mem_append_left _ lm3)), List.forall_mem_cons.mpr ⟨(List.mem_cons_of_mem _ (List.mem_append_left _ lm4)), (fun _ h => absurd h List.not_mem_nil)⟩⟩⟩⟩) (by decide +kernel)) (goodIn_sub (by unfold wsX3_at; exact List.forall_mem_cons.mpr ⟨(List.mem_cons_of_mem _ (List.mem_append_left _ lm5)), List.forall_mem_append.mpr ⟨List.forall_mem_cons.mpr ⟨(List.mem_cons_of_mem _ (List.mem_append_left _ lm0)), List.forall_mem_cons.mpr ⟨(List.mem_cons_of_mem _ (List.mem_append_left _ lm6)), (fun _ h => absurd h List.not_mem_nil)⟩⟩, (fun _ h => (List.mem_cons_of_mem _ (List.mem_append_right _ h)))⟩⟩) gw_X3_at)
theorem gw_X3_digits : wsX3_digits.all goodWord = true := by decide +kernel
theorem gX3_isWholeNumber_X3_digits : GoodIn wsX3_isWholeNumber (wsV RX3 21 RX3 yX3_digits wsX3_digits) := goodIn_app (goodIn_sub (List.forall_mem_cons.mpr ⟨(List.mem_cons_of_mem _ (List.mem_append_left _ lm7)), List.forall_mem_cons.mpr ⟨(List.mem_cons_of_mem _ (List.mem_append_left _ lm8)), List.forall_mem_cons.mpr ⟨(List.mem_cons_of_mem _ (List.mem_append_left _ lm9)), List.forall_mem_cons.mpr ⟨(List.mem_cons_of_mem _ (List.mem_append_left _ lm4)), (fun _ h => absurd h List.not_mem_nil)⟩⟩⟩⟩) (by decide +kernel)) (goodIn_sub (by unfold wsX3_digits; exact List.forall_mem_cons.mpr ⟨(List.mem_cons_of_mem _ (List.mem_append_left _ lm10)), List.forall_mem_append.mpr ⟨List.forall_mem_cons.mpr ⟨(List.mem_cons_of_mem _ (List.mem_append_left _ lm0)), List.forall_mem_cons.mpr ⟨(List.mem_cons_of_mem _ (List.mem_append_left _ lm6)), (fun _ h => absurd h List.not_mem_nil)⟩⟩, (fun _ h => (List.mem_cons_of_mem _ (List.mem_append_right _ h)))⟩⟩) gw_X3_digits)
theorem gX3_wholeNumber_X3_at : GoodIn wsX3_wholeNumber (wsV RX3 17 RX3 yX3_at wsX3_at) := goodIn_app (goodIn_sub (List.forall_mem_cons.mpr ⟨(List.mem_cons_of_mem _ (List.mem_append_left _ lm0)), List.forall_mem_cons.mpr ⟨(List.mem_cons_of_mem _ (List.mem_append_left _ lm1)), List.forall_mem_cons.mpr ⟨(List.mem_cons_of_mem _ (List.mem_append_left _ lm2)), List.forall_mem_cons.mpr ⟨(List.mem_cons_of_mem _ (List.mem_append_left _ lm3)), (fun _ h => absurd h List.not_mem_nil)⟩⟩⟩⟩) (by decide +kernel)) (goodIn_sub (by unfold wsX3_at; exact List.forall_mem_cons.mpr ⟨(List.mem_cons_of_mem _ (List.mem_append_left _ lm4)), List.forall_mem_append.mpr ⟨List.forall_mem_cons.mpr ⟨(List.mem_cons_of_mem _ (List.mem_append_left _ lm5)), List.forall_mem_cons.mpr ⟨(List.mem_cons_of_mem _ (List.mem_append_left _ lm6)), (fun _ h => absurd h List.not_mem_nil)⟩⟩, (fun _ h => (List.mem_cons_of_mem _ (List.mem_append_right _ h)))⟩⟩) gw_X3_at)
set_option maxHeartbeats 2000000 in
set_option maxRecDepth 100000 in
theorem k_addPart_stepText (l : Launch) (D : va_G) (g : Nat → Nat) (ka : Nat → ClassId) (ad : Nat → Nat) (i : Nat → Nat → Int32) (r : Nat → Nat → Nat) (L : Nat → Nat → Int64) (d : Nat → Nat → UInt64) (x : Int32) (y : Int32) (hO : OkI i) (hR : RS r) (sz : Nat) (hx0 : 0 ≤ x.toInt) (hy0 : 0 ≤ y.toInt) (hxy : x.toInt + y.toInt ≤ 480) : Met l yX3_addPart wsX3_addPart ({ frames := 0, cells := 0, slots := 0, locals := 0 }) (va_Pc [.ref (g 14), .ref (g 4), .int x, .int y] (sj_B D (hwc g ka i r L d) (hT ka) sz (gx ad (va_A (hwc g ka i r L d) sz)))) (sj_Qv (S := (Nat → Nat → Int32)) D (fun u => OkI u ∧ (∀ a, ¬ (a = 14 ∨ a = 15) → u a = i a)) (fun u => hwc g ka u r L d) (fun _ => []) (va_A (hwc g ka i r L d) sz)) 0 0 (va_A (hwc g ka i r L d) sz) := by
  refine x_met (Ex := gx ad) (cc := cX3_addPart) (maxL := 5) (ret := none) (by decide) rfl (Nat.le_of_ble_eq_true rfl) ?_
  intro p e s m below meth c A ls hx hb hr hml hts hown hlocks hA hS hH hK hE hl
  have hown : s.vm.findClass RX3 = some m.cls := hown
  have in3 : ∀ w ∈ wsX30, w ∈ wsX3_addPart := (fun _ h => (List.mem_cons_of_mem _ (List.mem_append_right _ h)))
  have wd0 := hts (.fieldLink RX3 13 "StoryDesk$Letters" "length" "I") (List.mem_cons_of_mem _ (List.mem_append_left _ lm0))
  have wd1 := hts (.fieldLink RX3 7 "StoryDesk$Letters" "chars" "[C") (List.mem_cons_of_mem _ (List.mem_append_left _ lm1))
  have hl : lv_has ls 5 [(0, .ref (g 14)), (1, .ref (g 4)), (2, .int x), (3, .int y)] := hl
  have hK : va_K D vwCl (hT ka) s := hK
  refine lv_iload_n hx hb dX3_addPart_0 rfl (lv_at hl 2 rfl) ?_
  refine lv_istore (lv' := [(4, .int x), (0, .ref (g 14)), (1, .ref (g 4)), (2, .int x), (3, .int y)]) hx hb dX3_addPart_1 hl (by decide) rfl (fun ls hl => ?_)
  -- loop at 3
  have lp_1 : ∀ (fuel_lp_1 : Nat) (f : Int32) (j1 : Nat → Nat → Int32) (H : Heap) (locs : List Loc) (ls : Array Slot), (x.toInt + y.toInt - f.toInt).toNat < fuel_lp_1 → (0 : Int) ≤ f.toInt ∧ f.toInt ≤ 480 → OkI j1 → (∀ a, ¬ (a = 14 ∨ a = 15) → j1 a = i a) → lv_has ls 5 [(4, .int f), (0, .ref (g 14)), (1, .ref (g 4)), (2, .int x), (3, .int y)] → sj_H D A (hwc g ka j1 r L d) H → va_S A s.heap H locs → W p l e (headSpec wsX3_addPart ({ frames := 0, cells := 0, slots := 0, locals := 0 })).room s m ([.ref (g 14), .ref (g 4), .int x, .int y] : List Value).toArray below meth c H locs 0 0 (MQ below (sj_Qv (S := (Nat → Nat → Int32)) D (fun u => OkI u ∧ (∀ a, ¬ (a = 14 ∨ a = 15) → u a = i a)) (fun u => hwc g ka u r L d) (fun _ => []) A) ([.ref (g 14), .ref (g 4), .int x, .int y] : List Value).toArray s 0 0 A) (F0 m 3 ls []) := by
    intro fuel_lp_1
    induction fuel_lp_1 with
    | zero => intros; omega
    | succ fuel_lp_1 ih_lp_1 =>
      intro f j1 H locs ls hm hr_f hO_j1 hfr_j1 hl hH hS
      refine lv_iload hx hb dX3_addPart_3 (lv_at hl 0 rfl) ?_
      refine lv_iload_n hx hb dX3_addPart_5 rfl (lv_at hl 3 rfl) ?_
      refine lv_iload_n hx hb dX3_addPart_6 rfl (lv_at hl 4 rfl) ?_
      refine lv_iadd hx hb dX3_addPart_7 ?_
      obtain ⟨z_2, ez_2, hz_2⟩ := s_add (rfl : x.toInt = _) (rfl : y.toInt = _) (by omega) (by omega)
      refine sj_i ez_2 ?_
      refine lv_icmp_ge (tgt := 55) hx hb dX3_addPart_8 (by decide) (fun c_3 => ?_) (fun c_3 => ?_)
      · skip
        have h_4 := s_le (rfl : z_2.toInt = _) (rfl : f.toInt = _) c_3
        exact sj_vret hx hb hr hlocks hS j1 ⟨hO_j1, (fun a ha => (hfr_j1 a (by omega)))⟩ hH (sj_Knil hK) (Nat.le_of_ble_eq_true rfl) (Nat.le_of_ble_eq_true rfl) dX3_addPart_55
      · skip
        have h_5 := s_nle (rfl : z_2.toInt = _) (rfl : f.toInt = _) c_3
        refine lv_aload_n hx hb dX3_addPart_11 rfl (lv_at hl 1 rfl) ?_
        have bx_6 : (0 : Int) ≤ (j1 14 1).toInt ∧ (j1 14 1).toInt ≤ 60 := hO_j1 14 1
        refine h_geti (ci := 3) (C := RX3) (F := TX3) (N := 2) hx hb hts in3 hown hK hH (by decide) (rfl : kd 14 = 3) (by decide) rfl 1 (by decide) wd0 (fun _ h9 => h9) (by decide) rfl dX3_addPart_12 ?_
        refine lv_aload_n hx hb dX3_addPart_15 rfl (lv_at hl 1 rfl) ?_
        refine h_getr (ci := 3) (C := RX3) (F := TX3) (N := 2) hx hb hts in3 hown hK hH (by decide) (rfl : kd 14 = 3) (by decide) rfl 0 (by decide) wd1 (fun _ h9 => h9) (by decide) rfl (t := 15) (hR 14 0 rfl) (by decide) dX3_addPart_16 ?_
        refine h_alen (v := 60) hx hb hK hH (by decide) (rfl : kd 15 = 14) (by decide) (by rw [(rfl : ln 15 = 60)]; rfl) dX3_addPart_19 ?_
        refine lv_icmp_ge (tgt := 55) hx hb dX3_addPart_20 (by decide) (fun c_7 => ?_) (fun c_7 => ?_)
        · skip
          have h_8 := s_le (show (60 : Int32).toInt = 60 from rfl) (rfl : (j1 14 1).toInt = _) c_7
          exact sj_vret hx hb hr hlocks hS j1 ⟨hO_j1, (fun a ha => (hfr_j1 a (by omega)))⟩ hH (sj_Knil hK) (Nat.le_of_ble_eq_true rfl) (Nat.le_of_ble_eq_true rfl) dX3_addPart_55
        · skip
          have h_9 := s_nle (show (60 : Int32).toInt = 60 from rfl) (rfl : (j1 14 1).toInt = _) c_7
          refine lv_aload_n hx hb dX3_addPart_23 rfl (lv_at hl 1 rfl) ?_
          refine h_getr (ci := 3) (C := RX3) (F := TX3) (N := 2) hx hb hts in3 hown hK hH (by decide) (rfl : kd 14 = 3) (by decide) rfl 0 (by decide) wd1 (fun _ h9 => h9) (by decide) rfl (t := 15) (hR 14 0 rfl) (by decide) dX3_addPart_24 ?_
          refine lv_aload_n hx hb dX3_addPart_27 rfl (lv_at hl 1 rfl) ?_
          refine h_geti (ci := 3) (C := RX3) (F := TX3) (N := 2) hx hb hts in3 hown hK hH (by decide) (rfl : kd 14 = 3) (by decide) rfl 1 (by decide) wd0 (fun _ h9 => h9) (by decide) rfl dX3_addPart_28 ?_
          refine lv_aload_n hx hb dX3_addPart_31 rfl (lv_at hl 2 rfl) ?_
          refine h_getr (ci := 3) (C := RX3) (F := TX3) (N := 2) hx hb hts in3 hown hK hH (by decide) (rfl : kd 4 = 3) (by decide) rfl 0 (by decide) wd1 (fun _ h9 => h9) (by decide) rfl (t := 5) (hR 4 0 rfl) (by decide) dX3_addPart_32 ?_
          refine lv_iload hx hb dX3_addPart_35 (lv_at hl 0 rfl) ?_
          have bx_10 : (0 : Int) ≤ (i 5 (f.toInt).toNat).toInt ∧ (i 5 (f.toInt).toNat).toInt ≤ 65535 := hO 5 (f.toInt).toNat
          refine h_cald hx hb hK hH (by decide) (rfl : kd 5 = 14) (s_vin (N := 480) (rfl : f.toInt = _) (rfl : ln 5 = 480) (by omega) (by omega)) dX3_addPart_37 ?_
          have ek_11 : f.toNatClampNeg = (f.toInt).toNat := (s_cl (show f.toInt = f.toInt by omega))
          refine sj_i (y := (i 5 (f.toInt).toNat)) (by rw [ek_11]; exact (congrFun (hfr_j1 5 (by omega)) _)) ?_
          obtain ⟨z_12, ez_12⟩ : ∃ z, vp_nar .char (i 5 (f.toInt).toNat) = z := ⟨_, rfl⟩
          have hz_12 : z_12.toInt = (i 5 (f.toInt).toNat).toInt := by rw [← ez_12, s_narc (rfl : (i 5 (f.toInt).toNat).toInt = _) (by omega) (by omega)] <;> exact (rfl : (i 5 (f.toInt).toNat).toInt = _)
          have hO_13 := okp hO_j1 (n := 15) (k := ((j1 14 1).toInt).toNat) (v := z_12) (show (0 : Int) ≤ (z_12 : Int32).toInt ∧ (z_12 : Int32).toInt ≤ 65535 from ⟨by omega, by omega⟩)
          refine h_cast hx hb hK hH hS (by decide) (rfl : kd 15 = 14) (s_vin (N := 60) (rfl : (j1 14 1).toInt = _) (rfl : ln 15 = 60) (by omega) (by omega)) dX3_addPart_38 (fun H locs hH hS => ?_)
          rw [ez_12] at hH
          rw [s_cl (show (j1 14 1).toInt = (j1 14 1).toInt by omega)] at hH
          refine lv_aload_n hx hb dX3_addPart_39 rfl (lv_at hl 1 rfl) ?_
          refine lv_dup hx hb dX3_addPart_40 rfl ?_
          refine h_geti (ci := 3) (C := RX3) (F := TX3) (N := 2) hx hb hts in3 hown hK hH (by decide) (rfl : kd 14 = 3) (by decide) rfl 1 (by decide) wd0 (fun _ h9 => h9) (by decide) rfl dX3_addPart_41 ?_
          refine sj_i (y := (j1 14 1)) (congrFun (up2_n _ _ (by decide)) _) ?_
          refine lv_iconst (v := 1) hx hb dX3_addPart_44 (by decide) ?_
          refine lv_iadd hx hb dX3_addPart_45 ?_
          obtain ⟨z_14, ez_14, hz_14⟩ := s_add (rfl : (j1 14 1).toInt = _) (show (1 : Int32).toInt = 1 from rfl) (by omega) (by omega)
          refine sj_i ez_14 ?_
          have hO_15 := okp hO_13 (n := 14) (k := 1) (v := z_14) (show (0 : Int) ≤ (z_14 : Int32).toInt ∧ (z_14 : Int32).toInt ≤ 60 from ⟨by omega, by omega⟩)
          refine h_puti (ty := .int) (ci := 3) (C := RX3) (F := TX3) (N := 2) hx hb hts in3 tyX3 tyX3_ok nmX3 hown hK hH hS (by decide) (rfl : kd 14 = 3) (by decide) rfl 1 (by decide) wd0 (fun _ h9 => h9) rfl (by decide +kernel) rfl rfl (by decide) rfl dX3_addPart_46 (fun H locs hH hS => ?_)
          obtain ⟨z_16, ez_16, hz_16⟩ := s_add (rfl : f.toInt = _) (show (1 : Int32).toInt = 1 from rfl) (by omega) (by omega)
          refine lv_iinc (v := z_16) (lv' := [(4, .int z_16), (0, .ref (g 14)), (1, .ref (g 4)), (2, .int x), (3, .int y)]) hx hb dX3_addPart_49 hl (k := 0) rfl ez_16 (by decide) rfl (fun ls hl => ?_)
          refine lv_goto (tgt := 3) hx hb dX3_addPart_52 (by decide) ?_
          exact ih_lp_1 z_16 _ _ _ ls (by omega) (by omega) hO_15 (fun a ha => ((up2_n _ _ (by omega)).trans ((up2_n _ _ (by omega)).trans (hfr_j1 a (by omega))))) (lv_sub hl [0, 1, 2, 3, 4] rfl) hH hS
  exact lp_1 _ x _ _ _ ls (Nat.lt_succ_self _) (by omega) hO (fun a ha => rfl) (lv_sub hl [0, 1, 2, 3, 4] rfl) hH hS
set_option maxHeartbeats 2000000 in
set_option maxRecDepth 100000 in
theorem k_isWhole_stepText (l : Launch) (D : va_G) (g : Nat → Nat) (ka : Nat → ClassId) (ad : Nat → Nat) (i : Nat → Nat → Int32) (r : Nat → Nat → Nat) (L : Nat → Nat → Int64) (d : Nat → Nat → UInt64)  (hO : OkI i) (hR : RS r) (sz : Nat)  : Met l yX3_isWholeNumber wsX3_isWholeNumber ({ frames := 1, cells := 0, slots := 0, locals := 23 }) (va_Pc [.ref (g 14)] (sj_B D (hwc g ka i r L d) (hT ka) sz (gx ad (va_A (hwc g ka i r L d) sz)))) (sj_Qi (S := Unit) D (fun v u => ((0 : Int) ≤ v.toInt ∧ v.toInt ≤ 1)) (fun _ => hwc g ka i r L d) (fun _ => []) (va_A (hwc g ka i r L d) sz)) 0 0 (va_A (hwc g ka i r L d) sz) := by
  refine x_met (Ex := gx ad) (cc := cX3_isWholeNumber) (maxL := 3) (ret := (some .boolean)) (by decide) rfl (Nat.le_of_ble_eq_true rfl) ?_
  intro p e s m below meth c A ls hx hb hr hml hts hown hlocks hA hS hH hK hE hl
  have hown : s.vm.findClass RX3 = some m.cls := hown
  have in3 : ∀ w ∈ wsX30, w ∈ wsX3_isWholeNumber := (fun _ h => (List.mem_cons_of_mem _ (List.mem_append_right _ h)))
  have wd0 := hts (.fieldLink RX3 13 "StoryDesk$Letters" "length" "I") (List.mem_cons_of_mem _ (List.mem_append_left _ lm0))
  have hl : lv_has ls 3 [(0, .ref (g 14))] := hl
  have hK : va_K D vwCl (hT ka) s := hK
  refine lv_aload_n hx hb dX3_isWholeNumber_0 rfl (lv_at hl 0 rfl) ?_
  refine lv_iconst (v := 0) hx hb dX3_isWholeNumber_1 (by decide) ?_
  have hl_1 : (0 : Int32).toInt = 0 := rfl
  refine x_calli (va_runV (As := [.int 0]) (rest := []) ⟨hx, hb, hml, hown, hts⟩ (k_at_stepText l D g ka ad i r L d 0 hO hR s.heap.size ) (cwV 1 hts gX3_isWholeNumber_X3_at rfl rfl rfl (by decide +kernel) ⟨(Nat.le_of_ble_eq_true rfl), (Nat.le_of_ble_eq_true rfl)⟩) (x_preV (q := (RX3, TX3, 2)) hH hK (q_obj (by decide) (rfl : kd 14 = 3) (by decide)) rfl gxb (gxw hE hS (x_F hH hS hA))) rfl rfl hl.1 rfl (lv_room (Nat.le_of_ble_eq_true rfl)) dX3_isWholeNumber_2 ⟨(Nat.le_of_ble_eq_true rfl), (Nat.le_of_ble_eq_true rfl)⟩) hH hS hA rfl rfl (fun r_2 _ H locs hw_3 hH hS => ?_)
  obtain ⟨hr_5, he_6⟩ := hw_3
  have hr_5 : (-1 : Int) ≤ r_2.toInt ∧ r_2.toInt ≤ 65535 := hr_5
  refine lv_bipush (v := 45) hx hb dX3_isWholeNumber_5 (by decide) ?_
  refine lv_icmp_ne (tgt := 14) hx hb dX3_isWholeNumber_7 (by decide) (fun c_7 => ?_) (fun c_7 => ?_)
  · skip
    have h_8 := s_ne (rfl : r_2.toInt = _) (show (45 : Int32).toInt = 45 from rfl) c_7
    refine lv_iconst (v := 0) hx hb dX3_isWholeNumber_14 (by decide) ?_
    refine lv_istore_n (lv' := [(1, .int 0), (0, .ref (g 14))]) hx hb dX3_isWholeNumber_15 rfl hl (by decide) rfl (fun ls hl => ?_)
    refine lv_aload_n hx hb dX3_isWholeNumber_16 rfl (lv_at hl 1 rfl) ?_
    refine lv_iload_n hx hb dX3_isWholeNumber_17 rfl (lv_at hl 0 rfl) ?_
    refine lv_bipush (v := 9) hx hb dX3_isWholeNumber_18 (by decide) ?_
    have hl_9 : (0 : Int32).toInt = 0 := rfl
    have hl_10 : (9 : Int32).toInt = 9 := rfl
    refine x_calli (va_runV (As := [.int 0, .int 9]) (rest := []) ⟨hx, hb, hml, hown, hts⟩ (k_digits_stepText l D g ka ad i r L d 0 9 hO hR H.size (by first | omega | decide) (by first | omega | decide) (by first | omega | decide) (by first | omega | decide)) (cwV 2 hts gX3_isWholeNumber_X3_digits rfl rfl rfl (by decide +kernel) ⟨(Nat.le_of_ble_eq_true rfl), (Nat.le_of_ble_eq_true rfl)⟩) (x_preV (q := (RX3, TX3, 2)) hH hK (q_obj (by decide) (rfl : kd 14 = 3) (by decide)) rfl gxb (gxw hE hS (x_F hH hS hA))) rfl rfl hl.1 rfl (lv_room (Nat.le_of_ble_eq_true rfl)) dX3_isWholeNumber_20 ⟨(Nat.le_of_ble_eq_true rfl), (Nat.le_of_ble_eq_true rfl)⟩) hH hS hA rfl rfl (fun r_11 _ H locs hw_12 hH hS => ?_)
    have hr_14 := hw_12
    have hr_14 : (0 : Int) ≤ r_11.toInt ∧ r_11.toInt ≤ 9 := hr_14
    refine lv_istore_n (lv' := [(2, .int r_11), (1, .int 0), (0, .ref (g 14))]) hx hb dX3_isWholeNumber_23 rfl hl (by decide) rfl (fun ls hl => ?_)
    refine lv_iload_n hx hb dX3_isWholeNumber_24 rfl (lv_at hl 0 rfl) ?_
    refine lv_if_le (tgt := 42) hx hb dX3_isWholeNumber_25 (by decide) (fun c_15 => ?_) (fun c_15 => ?_)
    · skip
      have h_16 := s_le (rfl : r_11.toInt = _) (show (0 : Int32).toInt = 0 from rfl) c_15
      refine lv_iconst (v := 0) hx hb dX3_isWholeNumber_42 (by decide) ?_
      exact sj_zret hx hb hr hlocks (by decide +kernel) hS () ⟨by decide, by decide⟩ hH (sj_Knil hK) (Nat.le_of_ble_eq_true rfl) (Nat.le_of_ble_eq_true rfl) dX3_isWholeNumber_43
    · skip
      have h_17 := s_nle (rfl : r_11.toInt = _) (show (0 : Int32).toInt = 0 from rfl) c_15
      refine lv_iload_n hx hb dX3_isWholeNumber_28 rfl (lv_at hl 1 rfl) ?_
      refine lv_iload_n hx hb dX3_isWholeNumber_29 rfl (lv_at hl 0 rfl) ?_
      refine lv_iadd hx hb dX3_isWholeNumber_30 ?_
      obtain ⟨z_18, ez_18, hz_18⟩ := s_add (show (0 : Int32).toInt = 0 from rfl) (rfl : r_11.toInt = _) (by omega) (by omega)
      refine sj_i ez_18 ?_
      refine lv_aload_n hx hb dX3_isWholeNumber_31 rfl (lv_at hl 2 rfl) ?_
      have bx_19 : (0 : Int) ≤ (i 14 1).toInt ∧ (i 14 1).toInt ≤ 60 := hO 14 1
      refine h_geti (ci := 3) (C := RX3) (F := TX3) (N := 2) hx hb hts in3 hown hK hH (by decide) (rfl : kd 14 = 3) (by decide) rfl 1 (by decide) wd0 (fun _ h9 => h9) (by decide) rfl dX3_isWholeNumber_32 ?_
      refine lv_icmp_ne (tgt := 42) hx hb dX3_isWholeNumber_35 (by decide) (fun c_20 => ?_) (fun c_20 => ?_)
      · skip
        have h_21 := s_ne (rfl : z_18.toInt = _) (rfl : (i 14 1).toInt = _) c_20
        refine lv_iconst (v := 0) hx hb dX3_isWholeNumber_42 (by decide) ?_
        exact sj_zret hx hb hr hlocks (by decide +kernel) hS () ⟨by decide, by decide⟩ hH (sj_Knil hK) (Nat.le_of_ble_eq_true rfl) (Nat.le_of_ble_eq_true rfl) dX3_isWholeNumber_43
      · skip
        have h_22 := s_eq (rfl : z_18.toInt = _) (rfl : (i 14 1).toInt = _) c_20
        refine lv_iconst (v := 1) hx hb dX3_isWholeNumber_38 (by decide) ?_
        refine lv_goto (tgt := 43) hx hb dX3_isWholeNumber_39 (by decide) ?_
        exact sj_zret hx hb hr hlocks (by decide +kernel) hS () ⟨by decide, by decide⟩ hH (sj_Knil hK) (Nat.le_of_ble_eq_true rfl) (Nat.le_of_ble_eq_true rfl) dX3_isWholeNumber_43
  · skip
    have h_23 := s_eq (rfl : r_2.toInt = _) (show (45 : Int32).toInt = 45 from rfl) c_7
    refine lv_iconst (v := 1) hx hb dX3_isWholeNumber_10 (by decide) ?_
    refine lv_goto (tgt := 15) hx hb dX3_isWholeNumber_11 (by decide) ?_
    refine lv_istore_n (lv' := [(1, .int 1), (0, .ref (g 14))]) hx hb dX3_isWholeNumber_15 rfl hl (by decide) rfl (fun ls hl => ?_)
    refine lv_aload_n hx hb dX3_isWholeNumber_16 rfl (lv_at hl 1 rfl) ?_
    refine lv_iload_n hx hb dX3_isWholeNumber_17 rfl (lv_at hl 0 rfl) ?_
    refine lv_bipush (v := 9) hx hb dX3_isWholeNumber_18 (by decide) ?_
    have hl_24 : (1 : Int32).toInt = 1 := rfl
    have hl_25 : (9 : Int32).toInt = 9 := rfl
    refine x_calli (va_runV (As := [.int 1, .int 9]) (rest := []) ⟨hx, hb, hml, hown, hts⟩ (k_digits_stepText l D g ka ad i r L d 1 9 hO hR H.size (by first | omega | decide) (by first | omega | decide) (by first | omega | decide) (by first | omega | decide)) (cwV 2 hts gX3_isWholeNumber_X3_digits rfl rfl rfl (by decide +kernel) ⟨(Nat.le_of_ble_eq_true rfl), (Nat.le_of_ble_eq_true rfl)⟩) (x_preV (q := (RX3, TX3, 2)) hH hK (q_obj (by decide) (rfl : kd 14 = 3) (by decide)) rfl gxb (gxw hE hS (x_F hH hS hA))) rfl rfl hl.1 rfl (lv_room (Nat.le_of_ble_eq_true rfl)) dX3_isWholeNumber_20 ⟨(Nat.le_of_ble_eq_true rfl), (Nat.le_of_ble_eq_true rfl)⟩) hH hS hA rfl rfl (fun r_26 _ H locs hw_27 hH hS => ?_)
    have hr_29 := hw_27
    have hr_29 : (0 : Int) ≤ r_26.toInt ∧ r_26.toInt ≤ 9 := hr_29
    refine lv_istore_n (lv' := [(2, .int r_26), (1, .int 1), (0, .ref (g 14))]) hx hb dX3_isWholeNumber_23 rfl hl (by decide) rfl (fun ls hl => ?_)
    refine lv_iload_n hx hb dX3_isWholeNumber_24 rfl (lv_at hl 0 rfl) ?_
    refine lv_if_le (tgt := 42) hx hb dX3_isWholeNumber_25 (by decide) (fun c_30 => ?_) (fun c_30 => ?_)
    · skip
      have h_31 := s_le (rfl : r_26.toInt = _) (show (0 : Int32).toInt = 0 from rfl) c_30
      refine lv_iconst (v := 0) hx hb dX3_isWholeNumber_42 (by decide) ?_
      exact sj_zret hx hb hr hlocks (by decide +kernel) hS () ⟨by decide, by decide⟩ hH (sj_Knil hK) (Nat.le_of_ble_eq_true rfl) (Nat.le_of_ble_eq_true rfl) dX3_isWholeNumber_43
    · skip
      have h_32 := s_nle (rfl : r_26.toInt = _) (show (0 : Int32).toInt = 0 from rfl) c_30
      refine lv_iload_n hx hb dX3_isWholeNumber_28 rfl (lv_at hl 1 rfl) ?_
      refine lv_iload_n hx hb dX3_isWholeNumber_29 rfl (lv_at hl 0 rfl) ?_
      refine lv_iadd hx hb dX3_isWholeNumber_30 ?_
      obtain ⟨z_33, ez_33, hz_33⟩ := s_add (show (1 : Int32).toInt = 1 from rfl) (rfl : r_26.toInt = _) (by omega) (by omega)
      refine sj_i ez_33 ?_
      refine lv_aload_n hx hb dX3_isWholeNumber_31 rfl (lv_at hl 2 rfl) ?_
      have bx_34 : (0 : Int) ≤ (i 14 1).toInt ∧ (i 14 1).toInt ≤ 60 := hO 14 1
      refine h_geti (ci := 3) (C := RX3) (F := TX3) (N := 2) hx hb hts in3 hown hK hH (by decide) (rfl : kd 14 = 3) (by decide) rfl 1 (by decide) wd0 (fun _ h9 => h9) (by decide) rfl dX3_isWholeNumber_32 ?_
      refine lv_icmp_ne (tgt := 42) hx hb dX3_isWholeNumber_35 (by decide) (fun c_35 => ?_) (fun c_35 => ?_)
      · skip
        have h_36 := s_ne (rfl : z_33.toInt = _) (rfl : (i 14 1).toInt = _) c_35
        refine lv_iconst (v := 0) hx hb dX3_isWholeNumber_42 (by decide) ?_
        exact sj_zret hx hb hr hlocks (by decide +kernel) hS () ⟨by decide, by decide⟩ hH (sj_Knil hK) (Nat.le_of_ble_eq_true rfl) (Nat.le_of_ble_eq_true rfl) dX3_isWholeNumber_43
      · skip
        have h_37 := s_eq (rfl : z_33.toInt = _) (rfl : (i 14 1).toInt = _) c_35
        refine lv_iconst (v := 1) hx hb dX3_isWholeNumber_38 (by decide) ?_
        refine lv_goto (tgt := 43) hx hb dX3_isWholeNumber_39 (by decide) ?_
        exact sj_zret hx hb hr hlocks (by decide +kernel) hS () ⟨by decide, by decide⟩ hH (sj_Knil hK) (Nat.le_of_ble_eq_true rfl) (Nat.le_of_ble_eq_true rfl) dX3_isWholeNumber_43
set_option maxHeartbeats 2000000 in
set_option maxRecDepth 100000 in
theorem k_whole_stepText (l : Launch) (D : va_G) (g : Nat → Nat) (ka : Nat → ClassId) (ad : Nat → Nat) (i : Nat → Nat → Int32) (r : Nat → Nat → Nat) (L : Nat → Nat → Int64) (d : Nat → Nat → UInt64) (x : Int32) (y : Int32) (hO : OkI i) (hR : RS r) (sz : Nat)  : Met l yX3_wholeNumber wsX3_wholeNumber ({ frames := 1, cells := 0, slots := 0, locals := 21 }) (va_Pc [.ref (g 14), .int x, .int y] (sj_B D (hwc g ka i r L d) (hT ka) sz (gx ad (va_A (hwc g ka i r L d) sz)))) (sj_Qi (S := Unit) D (fun v u => True) (fun _ => hwc g ka i r L d) (fun _ => []) (va_A (hwc g ka i r L d) sz)) 0 0 (va_A (hwc g ka i r L d) sz) := by
  refine x_met (Ex := gx ad) (cc := cX3_wholeNumber) (maxL := 6) (ret := (some .int)) (by decide) rfl (Nat.le_of_ble_eq_true rfl) ?_
  intro p e s m below meth c A ls hx hb hr hml hts hown hlocks hA hS hH hK hE hl
  have hown : s.vm.findClass RX3 = some m.cls := hown
  have hl : lv_has ls 6 [(0, .ref (g 14)), (1, .int x), (2, .int y)] := hl
  have hK : va_K D vwCl (hT ka) s := hK
  have hg_1 := s_rng x
  have hg_2 := s_rng y
  refine lv_iconst (v := 0) hx hb dX3_wholeNumber_0 (by decide) ?_
  refine lv_istore_n (lv' := [(3, .int 0), (0, .ref (g 14)), (1, .int x), (2, .int y)]) hx hb dX3_wholeNumber_1 rfl hl (by decide) rfl (fun ls hl => ?_)
  refine lv_iload_n hx hb dX3_wholeNumber_2 rfl (lv_at hl 2 rfl) ?_
  refine lv_istore (lv' := [(4, .int x), (3, .int 0), (0, .ref (g 14)), (1, .int x), (2, .int y)]) hx hb dX3_wholeNumber_3 hl (by decide) rfl (fun ls hl => ?_)
  -- loop at 5
  have lp_3 : ∀ (fuel_lp_3 : Nat) (f : Int32) (t : Int32) (H : Heap) (locs : List Loc) (ls : Array Slot), (y.toInt - f.toInt).toNat < fuel_lp_3 → lv_has ls 6 [(4, .int f), (3, .int t), (0, .ref (g 14)), (1, .int x), (2, .int y)] → sj_H D A (hwc g ka i r L d) H → va_S A s.heap H locs → W p l e (headSpec wsX3_wholeNumber ({ frames := 1, cells := 0, slots := 0, locals := 21 })).room s m ([.ref (g 14), .int x, .int y] : List Value).toArray below meth c H locs 0 0 (MQ below (sj_Qi (S := Unit) D (fun v u => True) (fun _ => hwc g ka i r L d) (fun _ => []) A) ([.ref (g 14), .int x, .int y] : List Value).toArray s 0 0 A) (F0 m 5 ls []) := by
    intro fuel_lp_3
    induction fuel_lp_3 with
    | zero => intros; omega
    | succ fuel_lp_3 ih_lp_3 =>
      intro f t H locs ls hm  hl hH hS
      have hg_4 := s_rng f
      have hg_5 := s_rng t
      refine lv_iload hx hb dX3_wholeNumber_5 (lv_at hl 0 rfl) ?_
      refine lv_iload_n hx hb dX3_wholeNumber_7 rfl (lv_at hl 4 rfl) ?_
      refine lv_icmp_ge (tgt := 50) hx hb dX3_wholeNumber_8 (by decide) (fun c_6 => ?_) (fun c_6 => ?_)
      · skip
        have h_7 := s_le (rfl : y.toInt = _) (rfl : f.toInt = _) c_6
        refine lv_aload_n hx hb dX3_wholeNumber_50 rfl (lv_at hl 2 rfl) ?_
        refine lv_iload_n hx hb dX3_wholeNumber_51 rfl (lv_at hl 3 rfl) ?_
        refine x_calli (va_runV (As := [.int x]) (rest := []) ⟨hx, hb, hml, hown, hts⟩ (k_at_stepText l D g ka ad i r L d x hO hR H.size ) (cwV 1 hts gX3_wholeNumber_X3_at rfl rfl rfl (by decide +kernel) ⟨(Nat.le_of_ble_eq_true rfl), (Nat.le_of_ble_eq_true rfl)⟩) (x_preV (q := (RX3, TX3, 2)) hH hK (q_obj (by decide) (rfl : kd 14 = 3) (by decide)) rfl gxb (gxw hE hS (x_F hH hS hA))) rfl rfl hl.1 rfl (lv_room (Nat.le_of_ble_eq_true rfl)) dX3_wholeNumber_52 ⟨(Nat.le_of_ble_eq_true rfl), (Nat.le_of_ble_eq_true rfl)⟩) hH hS hA rfl rfl (fun r_8 _ H locs hw_9 hH hS => ?_)
        obtain ⟨hr_11, he_12⟩ := hw_9
        have hr_11 : (-1 : Int) ≤ r_8.toInt ∧ r_8.toInt ≤ 65535 := hr_11
        refine lv_bipush (v := 45) hx hb dX3_wholeNumber_55 (by decide) ?_
        refine lv_icmp_ne (tgt := 65) hx hb dX3_wholeNumber_57 (by decide) (fun c_13 => ?_) (fun c_13 => ?_)
        · skip
          have h_14 := s_ne (rfl : r_8.toInt = _) (show (45 : Int32).toInt = 45 from rfl) c_13
          refine lv_iload_n hx hb dX3_wholeNumber_65 rfl (lv_at hl 1 rfl) ?_
          exact sj_zret hx hb hr hlocks rfl hS () trivial hH (sj_Knil hK) (Nat.le_of_ble_eq_true rfl) (Nat.le_of_ble_eq_true rfl) dX3_wholeNumber_66
        · skip
          have h_15 := s_eq (rfl : r_8.toInt = _) (show (45 : Int32).toInt = 45 from rfl) c_13
          refine lv_iload_n hx hb dX3_wholeNumber_60 rfl (lv_at hl 1 rfl) ?_
          refine lv_ineg hx hb dX3_wholeNumber_61 ?_
          obtain ⟨z_16, ez_16⟩ : ∃ z, -t = z := ⟨_, rfl⟩
          refine sj_i ez_16 ?_
          refine lv_goto (tgt := 66) hx hb dX3_wholeNumber_62 (by decide) ?_
          exact sj_zret hx hb hr hlocks rfl hS () trivial hH (sj_Knil hK) (Nat.le_of_ble_eq_true rfl) (Nat.le_of_ble_eq_true rfl) dX3_wholeNumber_66
      · skip
        have h_17 := s_nle (rfl : y.toInt = _) (rfl : f.toInt = _) c_6
        refine lv_aload_n hx hb dX3_wholeNumber_11 rfl (lv_at hl 2 rfl) ?_
        refine lv_iload hx hb dX3_wholeNumber_12 (lv_at hl 0 rfl) ?_
        refine x_calli (va_runV (As := [.int f]) (rest := []) ⟨hx, hb, hml, hown, hts⟩ (k_at_stepText l D g ka ad i r L d f hO hR H.size ) (cwV 1 hts gX3_wholeNumber_X3_at rfl rfl rfl (by decide +kernel) ⟨(Nat.le_of_ble_eq_true rfl), (Nat.le_of_ble_eq_true rfl)⟩) (x_preV (q := (RX3, TX3, 2)) hH hK (q_obj (by decide) (rfl : kd 14 = 3) (by decide)) rfl gxb (gxw hE hS (x_F hH hS hA))) rfl rfl hl.1 rfl (lv_room (Nat.le_of_ble_eq_true rfl)) dX3_wholeNumber_14 ⟨(Nat.le_of_ble_eq_true rfl), (Nat.le_of_ble_eq_true rfl)⟩) hH hS hA rfl rfl (fun r_18 _ H locs hw_19 hH hS => ?_)
        obtain ⟨hr_21, he_22⟩ := hw_19
        have hr_21 : (-1 : Int) ≤ r_18.toInt ∧ r_18.toInt ≤ 65535 := hr_21
        refine lv_istore (lv' := [(5, .int r_18), (4, .int f), (3, .int t), (0, .ref (g 14)), (1, .int x), (2, .int y)]) hx hb dX3_wholeNumber_17 hl (by decide) rfl (fun ls hl => ?_)
        refine lv_iload hx hb dX3_wholeNumber_19 (lv_at hl 0 rfl) ?_
        refine lv_bipush (v := 48) hx hb dX3_wholeNumber_21 (by decide) ?_
        refine lv_icmp_lt (tgt := 44) hx hb dX3_wholeNumber_23 (by decide) (fun c_23 => ?_) (fun c_23 => ?_)
        · skip
          have h_24 := s_lt (rfl : r_18.toInt = _) (show (48 : Int32).toInt = 48 from rfl) c_23
          obtain ⟨z_25, ez_25, hz_25⟩ := s_add (rfl : f.toInt = _) (show (1 : Int32).toInt = 1 from rfl) (by omega) (by omega)
          refine lv_iinc (v := z_25) (lv' := [(4, .int z_25), (5, .int r_18), (3, .int t), (0, .ref (g 14)), (1, .int x), (2, .int y)]) hx hb dX3_wholeNumber_44 hl (k := 1) rfl ez_25 (by decide) rfl (fun ls hl => ?_)
          refine lv_goto (tgt := 5) hx hb dX3_wholeNumber_47 (by decide) ?_
          exact ih_lp_3 z_25 t _ _ ls (by omega)  (lv_sub hl [0, 2, 3, 4, 5] rfl) hH hS
        · skip
          have h_26 := s_nlt (rfl : r_18.toInt = _) (show (48 : Int32).toInt = 48 from rfl) c_23
          refine lv_iload hx hb dX3_wholeNumber_26 (lv_at hl 0 rfl) ?_
          refine lv_bipush (v := 57) hx hb dX3_wholeNumber_28 (by decide) ?_
          refine lv_icmp_gt (tgt := 44) hx hb dX3_wholeNumber_30 (by decide) (fun c_27 => ?_) (fun c_27 => ?_)
          · skip
            have h_28 := s_lt (show (57 : Int32).toInt = 57 from rfl) (rfl : r_18.toInt = _) c_27
            obtain ⟨z_29, ez_29, hz_29⟩ := s_add (rfl : f.toInt = _) (show (1 : Int32).toInt = 1 from rfl) (by omega) (by omega)
            refine lv_iinc (v := z_29) (lv' := [(4, .int z_29), (5, .int r_18), (3, .int t), (0, .ref (g 14)), (1, .int x), (2, .int y)]) hx hb dX3_wholeNumber_44 hl (k := 1) rfl ez_29 (by decide) rfl (fun ls hl => ?_)
            refine lv_goto (tgt := 5) hx hb dX3_wholeNumber_47 (by decide) ?_
            exact ih_lp_3 z_29 t _ _ ls (by omega)  (lv_sub hl [0, 2, 3, 4, 5] rfl) hH hS
          · skip
            have h_30 := s_nlt (show (57 : Int32).toInt = 57 from rfl) (rfl : r_18.toInt = _) c_27
            refine lv_iload_n hx hb dX3_wholeNumber_33 rfl (lv_at hl 2 rfl) ?_
            refine lv_bipush (v := 10) hx hb dX3_wholeNumber_34 (by decide) ?_
            refine lv_imul hx hb dX3_wholeNumber_36 ?_
            obtain ⟨z_31, ez_31⟩ : ∃ z, t * 10 = z := ⟨_, rfl⟩
            refine sj_i ez_31 ?_
            refine lv_iload hx hb dX3_wholeNumber_37 (lv_at hl 0 rfl) ?_
            refine lv_bipush (v := 48) hx hb dX3_wholeNumber_39 (by decide) ?_
            refine lv_isub hx hb dX3_wholeNumber_41 ?_
            obtain ⟨z_32, ez_32, hz_32⟩ := s_sub (rfl : r_18.toInt = _) (show (48 : Int32).toInt = 48 from rfl) (by omega) (by omega)
            refine sj_i ez_32 ?_
            refine lv_iadd hx hb dX3_wholeNumber_42 ?_
            obtain ⟨z_33, ez_33⟩ : ∃ z, z_31 + z_32 = z := ⟨_, rfl⟩
            refine sj_i ez_33 ?_
            refine lv_istore_n (lv' := [(3, .int z_33), (5, .int r_18), (4, .int f), (0, .ref (g 14)), (1, .int x), (2, .int y)]) hx hb dX3_wholeNumber_43 rfl hl (by decide) rfl (fun ls hl => ?_)
            obtain ⟨z_34, ez_34, hz_34⟩ := s_add (rfl : f.toInt = _) (show (1 : Int32).toInt = 1 from rfl) (by omega) (by omega)
            refine lv_iinc (v := z_34) (lv' := [(4, .int z_34), (3, .int z_33), (5, .int r_18), (0, .ref (g 14)), (1, .int x), (2, .int y)]) hx hb dX3_wholeNumber_44 hl (k := 2) rfl ez_34 (by decide) rfl (fun ls hl => ?_)
            refine lv_goto (tgt := 5) hx hb dX3_wholeNumber_47 (by decide) ?_
            exact ih_lp_3 z_34 z_33 _ _ ls (by omega)  (lv_sub hl [0, 1, 3, 4, 5] rfl) hH hS
  have hl_35 : (0 : Int32).toInt = 0 := rfl
  exact lp_3 _ x 0 _ _ ls (Nat.lt_succ_self _)  (lv_sub hl [0, 1, 2, 3, 4] rfl) hH hS
set_option maxHeartbeats 2000000 in
set_option maxRecDepth 100000 in
theorem k_addPart_cellText (l : Launch) (D : va_G) (g : Nat → Nat) (ka : Nat → ClassId) (ad : Nat → Nat) (i : Nat → Nat → Int32) (r : Nat → Nat → Nat) (L : Nat → Nat → Int64) (d : Nat → Nat → UInt64) (x : Int32) (y : Int32) (hO : OkI i) (hR : RS r) (sz : Nat) (hx0 : 0 ≤ x.toInt) (hy0 : 0 ≤ y.toInt) (hxy : x.toInt + y.toInt ≤ 480) : Met l yX3_addPart wsX3_addPart ({ frames := 0, cells := 0, slots := 0, locals := 0 }) (va_Pc [.ref (g 16), .ref (g 4), .int x, .int y] (sj_B D (hwc g ka i r L d) (hT ka) sz (gx ad (va_A (hwc g ka i r L d) sz)))) (sj_Qv (S := (Nat → Nat → Int32)) D (fun u => OkI u ∧ (∀ a, ¬ (a = 16 ∨ a = 17) → u a = i a)) (fun u => hwc g ka u r L d) (fun _ => []) (va_A (hwc g ka i r L d) sz)) 0 0 (va_A (hwc g ka i r L d) sz) := by
  refine x_met (Ex := gx ad) (cc := cX3_addPart) (maxL := 5) (ret := none) (by decide) rfl (Nat.le_of_ble_eq_true rfl) ?_
  intro p e s m below meth c A ls hx hb hr hml hts hown hlocks hA hS hH hK hE hl
  have hown : s.vm.findClass RX3 = some m.cls := hown
  have in3 : ∀ w ∈ wsX30, w ∈ wsX3_addPart := (fun _ h => (List.mem_cons_of_mem _ (List.mem_append_right _ h)))
  have wd0 := hts (.fieldLink RX3 13 "StoryDesk$Letters" "length" "I") (List.mem_cons_of_mem _ (List.mem_append_left _ lm0))
  have wd1 := hts (.fieldLink RX3 7 "StoryDesk$Letters" "chars" "[C") (List.mem_cons_of_mem _ (List.mem_append_left _ lm1))
  have hl : lv_has ls 5 [(0, .ref (g 16)), (1, .ref (g 4)), (2, .int x), (3, .int y)] := hl
  have hK : va_K D vwCl (hT ka) s := hK
  refine lv_iload_n hx hb dX3_addPart_0 rfl (lv_at hl 2 rfl) ?_
  refine lv_istore (lv' := [(4, .int x), (0, .ref (g 16)), (1, .ref (g 4)), (2, .int x), (3, .int y)]) hx hb dX3_addPart_1 hl (by decide) rfl (fun ls hl => ?_)
  -- loop at 3
  have lp_1 : ∀ (fuel_lp_1 : Nat) (f : Int32) (j1 : Nat → Nat → Int32) (H : Heap) (locs : List Loc) (ls : Array Slot), (x.toInt + y.toInt - f.toInt).toNat < fuel_lp_1 → (0 : Int) ≤ f.toInt ∧ f.toInt ≤ 480 → OkI j1 → (∀ a, ¬ (a = 16 ∨ a = 17) → j1 a = i a) → lv_has ls 5 [(4, .int f), (0, .ref (g 16)), (1, .ref (g 4)), (2, .int x), (3, .int y)] → sj_H D A (hwc g ka j1 r L d) H → va_S A s.heap H locs → W p l e (headSpec wsX3_addPart ({ frames := 0, cells := 0, slots := 0, locals := 0 })).room s m ([.ref (g 16), .ref (g 4), .int x, .int y] : List Value).toArray below meth c H locs 0 0 (MQ below (sj_Qv (S := (Nat → Nat → Int32)) D (fun u => OkI u ∧ (∀ a, ¬ (a = 16 ∨ a = 17) → u a = i a)) (fun u => hwc g ka u r L d) (fun _ => []) A) ([.ref (g 16), .ref (g 4), .int x, .int y] : List Value).toArray s 0 0 A) (F0 m 3 ls []) := by
    intro fuel_lp_1
    induction fuel_lp_1 with
    | zero => intros; omega
    | succ fuel_lp_1 ih_lp_1 =>
      intro f j1 H locs ls hm hr_f hO_j1 hfr_j1 hl hH hS
      refine lv_iload hx hb dX3_addPart_3 (lv_at hl 0 rfl) ?_
      refine lv_iload_n hx hb dX3_addPart_5 rfl (lv_at hl 3 rfl) ?_
      refine lv_iload_n hx hb dX3_addPart_6 rfl (lv_at hl 4 rfl) ?_
      refine lv_iadd hx hb dX3_addPart_7 ?_
      obtain ⟨z_2, ez_2, hz_2⟩ := s_add (rfl : x.toInt = _) (rfl : y.toInt = _) (by omega) (by omega)
      refine sj_i ez_2 ?_
      refine lv_icmp_ge (tgt := 55) hx hb dX3_addPart_8 (by decide) (fun c_3 => ?_) (fun c_3 => ?_)
      · skip
        have h_4 := s_le (rfl : z_2.toInt = _) (rfl : f.toInt = _) c_3
        exact sj_vret hx hb hr hlocks hS j1 ⟨hO_j1, (fun a ha => (hfr_j1 a (by omega)))⟩ hH (sj_Knil hK) (Nat.le_of_ble_eq_true rfl) (Nat.le_of_ble_eq_true rfl) dX3_addPart_55
      · skip
        have h_5 := s_nle (rfl : z_2.toInt = _) (rfl : f.toInt = _) c_3
        refine lv_aload_n hx hb dX3_addPart_11 rfl (lv_at hl 1 rfl) ?_
        have bx_6 : (0 : Int) ≤ (j1 16 1).toInt ∧ (j1 16 1).toInt ≤ 60 := hO_j1 16 1
        refine h_geti (ci := 3) (C := RX3) (F := TX3) (N := 2) hx hb hts in3 hown hK hH (by decide) (rfl : kd 16 = 3) (by decide) rfl 1 (by decide) wd0 (fun _ h9 => h9) (by decide) rfl dX3_addPart_12 ?_
        refine lv_aload_n hx hb dX3_addPart_15 rfl (lv_at hl 1 rfl) ?_
        refine h_getr (ci := 3) (C := RX3) (F := TX3) (N := 2) hx hb hts in3 hown hK hH (by decide) (rfl : kd 16 = 3) (by decide) rfl 0 (by decide) wd1 (fun _ h9 => h9) (by decide) rfl (t := 17) (hR 16 0 rfl) (by decide) dX3_addPart_16 ?_
        refine h_alen (v := 60) hx hb hK hH (by decide) (rfl : kd 17 = 14) (by decide) (by rw [(rfl : ln 17 = 60)]; rfl) dX3_addPart_19 ?_
        refine lv_icmp_ge (tgt := 55) hx hb dX3_addPart_20 (by decide) (fun c_7 => ?_) (fun c_7 => ?_)
        · skip
          have h_8 := s_le (show (60 : Int32).toInt = 60 from rfl) (rfl : (j1 16 1).toInt = _) c_7
          exact sj_vret hx hb hr hlocks hS j1 ⟨hO_j1, (fun a ha => (hfr_j1 a (by omega)))⟩ hH (sj_Knil hK) (Nat.le_of_ble_eq_true rfl) (Nat.le_of_ble_eq_true rfl) dX3_addPart_55
        · skip
          have h_9 := s_nle (show (60 : Int32).toInt = 60 from rfl) (rfl : (j1 16 1).toInt = _) c_7
          refine lv_aload_n hx hb dX3_addPart_23 rfl (lv_at hl 1 rfl) ?_
          refine h_getr (ci := 3) (C := RX3) (F := TX3) (N := 2) hx hb hts in3 hown hK hH (by decide) (rfl : kd 16 = 3) (by decide) rfl 0 (by decide) wd1 (fun _ h9 => h9) (by decide) rfl (t := 17) (hR 16 0 rfl) (by decide) dX3_addPart_24 ?_
          refine lv_aload_n hx hb dX3_addPart_27 rfl (lv_at hl 1 rfl) ?_
          refine h_geti (ci := 3) (C := RX3) (F := TX3) (N := 2) hx hb hts in3 hown hK hH (by decide) (rfl : kd 16 = 3) (by decide) rfl 1 (by decide) wd0 (fun _ h9 => h9) (by decide) rfl dX3_addPart_28 ?_
          refine lv_aload_n hx hb dX3_addPart_31 rfl (lv_at hl 2 rfl) ?_
          refine h_getr (ci := 3) (C := RX3) (F := TX3) (N := 2) hx hb hts in3 hown hK hH (by decide) (rfl : kd 4 = 3) (by decide) rfl 0 (by decide) wd1 (fun _ h9 => h9) (by decide) rfl (t := 5) (hR 4 0 rfl) (by decide) dX3_addPart_32 ?_
          refine lv_iload hx hb dX3_addPart_35 (lv_at hl 0 rfl) ?_
          have bx_10 : (0 : Int) ≤ (i 5 (f.toInt).toNat).toInt ∧ (i 5 (f.toInt).toNat).toInt ≤ 65535 := hO 5 (f.toInt).toNat
          refine h_cald hx hb hK hH (by decide) (rfl : kd 5 = 14) (s_vin (N := 480) (rfl : f.toInt = _) (rfl : ln 5 = 480) (by omega) (by omega)) dX3_addPart_37 ?_
          have ek_11 : f.toNatClampNeg = (f.toInt).toNat := (s_cl (show f.toInt = f.toInt by omega))
          refine sj_i (y := (i 5 (f.toInt).toNat)) (by rw [ek_11]; exact (congrFun (hfr_j1 5 (by omega)) _)) ?_
          obtain ⟨z_12, ez_12⟩ : ∃ z, vp_nar .char (i 5 (f.toInt).toNat) = z := ⟨_, rfl⟩
          have hz_12 : z_12.toInt = (i 5 (f.toInt).toNat).toInt := by rw [← ez_12, s_narc (rfl : (i 5 (f.toInt).toNat).toInt = _) (by omega) (by omega)] <;> exact (rfl : (i 5 (f.toInt).toNat).toInt = _)
          have hO_13 := okp hO_j1 (n := 17) (k := ((j1 16 1).toInt).toNat) (v := z_12) (show (0 : Int) ≤ (z_12 : Int32).toInt ∧ (z_12 : Int32).toInt ≤ 65535 from ⟨by omega, by omega⟩)
          refine h_cast hx hb hK hH hS (by decide) (rfl : kd 17 = 14) (s_vin (N := 60) (rfl : (j1 16 1).toInt = _) (rfl : ln 17 = 60) (by omega) (by omega)) dX3_addPart_38 (fun H locs hH hS => ?_)
          rw [ez_12] at hH
          rw [s_cl (show (j1 16 1).toInt = (j1 16 1).toInt by omega)] at hH
          refine lv_aload_n hx hb dX3_addPart_39 rfl (lv_at hl 1 rfl) ?_
          refine lv_dup hx hb dX3_addPart_40 rfl ?_
          refine h_geti (ci := 3) (C := RX3) (F := TX3) (N := 2) hx hb hts in3 hown hK hH (by decide) (rfl : kd 16 = 3) (by decide) rfl 1 (by decide) wd0 (fun _ h9 => h9) (by decide) rfl dX3_addPart_41 ?_
          refine sj_i (y := (j1 16 1)) (congrFun (up2_n _ _ (by decide)) _) ?_
          refine lv_iconst (v := 1) hx hb dX3_addPart_44 (by decide) ?_
          refine lv_iadd hx hb dX3_addPart_45 ?_
          obtain ⟨z_14, ez_14, hz_14⟩ := s_add (rfl : (j1 16 1).toInt = _) (show (1 : Int32).toInt = 1 from rfl) (by omega) (by omega)
          refine sj_i ez_14 ?_
          have hO_15 := okp hO_13 (n := 16) (k := 1) (v := z_14) (show (0 : Int) ≤ (z_14 : Int32).toInt ∧ (z_14 : Int32).toInt ≤ 60 from ⟨by omega, by omega⟩)
          refine h_puti (ty := .int) (ci := 3) (C := RX3) (F := TX3) (N := 2) hx hb hts in3 tyX3 tyX3_ok nmX3 hown hK hH hS (by decide) (rfl : kd 16 = 3) (by decide) rfl 1 (by decide) wd0 (fun _ h9 => h9) rfl (by decide +kernel) rfl rfl (by decide) rfl dX3_addPart_46 (fun H locs hH hS => ?_)
          obtain ⟨z_16, ez_16, hz_16⟩ := s_add (rfl : f.toInt = _) (show (1 : Int32).toInt = 1 from rfl) (by omega) (by omega)
          refine lv_iinc (v := z_16) (lv' := [(4, .int z_16), (0, .ref (g 16)), (1, .ref (g 4)), (2, .int x), (3, .int y)]) hx hb dX3_addPart_49 hl (k := 0) rfl ez_16 (by decide) rfl (fun ls hl => ?_)
          refine lv_goto (tgt := 3) hx hb dX3_addPart_52 (by decide) ?_
          exact ih_lp_1 z_16 _ _ _ ls (by omega) (by omega) hO_15 (fun a ha => ((up2_n _ _ (by omega)).trans ((up2_n _ _ (by omega)).trans (hfr_j1 a (by omega))))) (lv_sub hl [0, 1, 2, 3, 4] rfl) hH hS
  exact lp_1 _ x _ _ _ ls (Nat.lt_succ_self _) (by omega) hO (fun a ha => rfl) (lv_sub hl [0, 1, 2, 3, 4] rfl) hH hS
set_option maxHeartbeats 2000000 in
set_option maxRecDepth 100000 in
theorem k_isWhole_cellText (l : Launch) (D : va_G) (g : Nat → Nat) (ka : Nat → ClassId) (ad : Nat → Nat) (i : Nat → Nat → Int32) (r : Nat → Nat → Nat) (L : Nat → Nat → Int64) (d : Nat → Nat → UInt64)  (hO : OkI i) (hR : RS r) (sz : Nat)  : Met l yX3_isWholeNumber wsX3_isWholeNumber ({ frames := 1, cells := 0, slots := 0, locals := 23 }) (va_Pc [.ref (g 16)] (sj_B D (hwc g ka i r L d) (hT ka) sz (gx ad (va_A (hwc g ka i r L d) sz)))) (sj_Qi (S := Unit) D (fun v u => ((0 : Int) ≤ v.toInt ∧ v.toInt ≤ 1)) (fun _ => hwc g ka i r L d) (fun _ => []) (va_A (hwc g ka i r L d) sz)) 0 0 (va_A (hwc g ka i r L d) sz) := by
  refine x_met (Ex := gx ad) (cc := cX3_isWholeNumber) (maxL := 3) (ret := (some .boolean)) (by decide) rfl (Nat.le_of_ble_eq_true rfl) ?_
  intro p e s m below meth c A ls hx hb hr hml hts hown hlocks hA hS hH hK hE hl
  have hown : s.vm.findClass RX3 = some m.cls := hown
  have in3 : ∀ w ∈ wsX30, w ∈ wsX3_isWholeNumber := (fun _ h => (List.mem_cons_of_mem _ (List.mem_append_right _ h)))
  have wd0 := hts (.fieldLink RX3 13 "StoryDesk$Letters" "length" "I") (List.mem_cons_of_mem _ (List.mem_append_left _ lm0))
  have hl : lv_has ls 3 [(0, .ref (g 16))] := hl
  have hK : va_K D vwCl (hT ka) s := hK
  refine lv_aload_n hx hb dX3_isWholeNumber_0 rfl (lv_at hl 0 rfl) ?_
  refine lv_iconst (v := 0) hx hb dX3_isWholeNumber_1 (by decide) ?_
  have hl_1 : (0 : Int32).toInt = 0 := rfl
  refine x_calli (va_runV (As := [.int 0]) (rest := []) ⟨hx, hb, hml, hown, hts⟩ (k_at_cellText l D g ka ad i r L d 0 hO hR s.heap.size ) (cwV 1 hts gX3_isWholeNumber_X3_at rfl rfl rfl (by decide +kernel) ⟨(Nat.le_of_ble_eq_true rfl), (Nat.le_of_ble_eq_true rfl)⟩) (x_preV (q := (RX3, TX3, 2)) hH hK (q_obj (by decide) (rfl : kd 16 = 3) (by decide)) rfl gxb (gxw hE hS (x_F hH hS hA))) rfl rfl hl.1 rfl (lv_room (Nat.le_of_ble_eq_true rfl)) dX3_isWholeNumber_2 ⟨(Nat.le_of_ble_eq_true rfl), (Nat.le_of_ble_eq_true rfl)⟩) hH hS hA rfl rfl (fun r_2 _ H locs hw_3 hH hS => ?_)
  obtain ⟨hr_5, he_6⟩ := hw_3
  have hr_5 : (-1 : Int) ≤ r_2.toInt ∧ r_2.toInt ≤ 65535 := hr_5
  refine lv_bipush (v := 45) hx hb dX3_isWholeNumber_5 (by decide) ?_
  refine lv_icmp_ne (tgt := 14) hx hb dX3_isWholeNumber_7 (by decide) (fun c_7 => ?_) (fun c_7 => ?_)
  · skip
    have h_8 := s_ne (rfl : r_2.toInt = _) (show (45 : Int32).toInt = 45 from rfl) c_7
    refine lv_iconst (v := 0) hx hb dX3_isWholeNumber_14 (by decide) ?_
    refine lv_istore_n (lv' := [(1, .int 0), (0, .ref (g 16))]) hx hb dX3_isWholeNumber_15 rfl hl (by decide) rfl (fun ls hl => ?_)
    refine lv_aload_n hx hb dX3_isWholeNumber_16 rfl (lv_at hl 1 rfl) ?_
    refine lv_iload_n hx hb dX3_isWholeNumber_17 rfl (lv_at hl 0 rfl) ?_
    refine lv_bipush (v := 9) hx hb dX3_isWholeNumber_18 (by decide) ?_
    have hl_9 : (0 : Int32).toInt = 0 := rfl
    have hl_10 : (9 : Int32).toInt = 9 := rfl
    refine x_calli (va_runV (As := [.int 0, .int 9]) (rest := []) ⟨hx, hb, hml, hown, hts⟩ (k_digits_cellText l D g ka ad i r L d 0 9 hO hR H.size (by first | omega | decide) (by first | omega | decide) (by first | omega | decide) (by first | omega | decide)) (cwV 2 hts gX3_isWholeNumber_X3_digits rfl rfl rfl (by decide +kernel) ⟨(Nat.le_of_ble_eq_true rfl), (Nat.le_of_ble_eq_true rfl)⟩) (x_preV (q := (RX3, TX3, 2)) hH hK (q_obj (by decide) (rfl : kd 16 = 3) (by decide)) rfl gxb (gxw hE hS (x_F hH hS hA))) rfl rfl hl.1 rfl (lv_room (Nat.le_of_ble_eq_true rfl)) dX3_isWholeNumber_20 ⟨(Nat.le_of_ble_eq_true rfl), (Nat.le_of_ble_eq_true rfl)⟩) hH hS hA rfl rfl (fun r_11 _ H locs hw_12 hH hS => ?_)
    have hr_14 := hw_12
    have hr_14 : (0 : Int) ≤ r_11.toInt ∧ r_11.toInt ≤ 9 := hr_14
    refine lv_istore_n (lv' := [(2, .int r_11), (1, .int 0), (0, .ref (g 16))]) hx hb dX3_isWholeNumber_23 rfl hl (by decide) rfl (fun ls hl => ?_)
    refine lv_iload_n hx hb dX3_isWholeNumber_24 rfl (lv_at hl 0 rfl) ?_
    refine lv_if_le (tgt := 42) hx hb dX3_isWholeNumber_25 (by decide) (fun c_15 => ?_) (fun c_15 => ?_)
    · skip
      have h_16 := s_le (rfl : r_11.toInt = _) (show (0 : Int32).toInt = 0 from rfl) c_15
      refine lv_iconst (v := 0) hx hb dX3_isWholeNumber_42 (by decide) ?_
      exact sj_zret hx hb hr hlocks (by decide +kernel) hS () ⟨by decide, by decide⟩ hH (sj_Knil hK) (Nat.le_of_ble_eq_true rfl) (Nat.le_of_ble_eq_true rfl) dX3_isWholeNumber_43
    · skip
      have h_17 := s_nle (rfl : r_11.toInt = _) (show (0 : Int32).toInt = 0 from rfl) c_15
      refine lv_iload_n hx hb dX3_isWholeNumber_28 rfl (lv_at hl 1 rfl) ?_
      refine lv_iload_n hx hb dX3_isWholeNumber_29 rfl (lv_at hl 0 rfl) ?_
      refine lv_iadd hx hb dX3_isWholeNumber_30 ?_
      obtain ⟨z_18, ez_18, hz_18⟩ := s_add (show (0 : Int32).toInt = 0 from rfl) (rfl : r_11.toInt = _) (by omega) (by omega)
      refine sj_i ez_18 ?_
      refine lv_aload_n hx hb dX3_isWholeNumber_31 rfl (lv_at hl 2 rfl) ?_
      have bx_19 : (0 : Int) ≤ (i 16 1).toInt ∧ (i 16 1).toInt ≤ 60 := hO 16 1
      refine h_geti (ci := 3) (C := RX3) (F := TX3) (N := 2) hx hb hts in3 hown hK hH (by decide) (rfl : kd 16 = 3) (by decide) rfl 1 (by decide) wd0 (fun _ h9 => h9) (by decide) rfl dX3_isWholeNumber_32 ?_
      refine lv_icmp_ne (tgt := 42) hx hb dX3_isWholeNumber_35 (by decide) (fun c_20 => ?_) (fun c_20 => ?_)
      · skip
        have h_21 := s_ne (rfl : z_18.toInt = _) (rfl : (i 16 1).toInt = _) c_20
        refine lv_iconst (v := 0) hx hb dX3_isWholeNumber_42 (by decide) ?_
        exact sj_zret hx hb hr hlocks (by decide +kernel) hS () ⟨by decide, by decide⟩ hH (sj_Knil hK) (Nat.le_of_ble_eq_true rfl) (Nat.le_of_ble_eq_true rfl) dX3_isWholeNumber_43
      · skip
        have h_22 := s_eq (rfl : z_18.toInt = _) (rfl : (i 16 1).toInt = _) c_20
        refine lv_iconst (v := 1) hx hb dX3_isWholeNumber_38 (by decide) ?_
        refine lv_goto (tgt := 43) hx hb dX3_isWholeNumber_39 (by decide) ?_
        exact sj_zret hx hb hr hlocks (by decide +kernel) hS () ⟨by decide, by decide⟩ hH (sj_Knil hK) (Nat.le_of_ble_eq_true rfl) (Nat.le_of_ble_eq_true rfl) dX3_isWholeNumber_43
  · skip
    have h_23 := s_eq (rfl : r_2.toInt = _) (show (45 : Int32).toInt = 45 from rfl) c_7
    refine lv_iconst (v := 1) hx hb dX3_isWholeNumber_10 (by decide) ?_
    refine lv_goto (tgt := 15) hx hb dX3_isWholeNumber_11 (by decide) ?_
    refine lv_istore_n (lv' := [(1, .int 1), (0, .ref (g 16))]) hx hb dX3_isWholeNumber_15 rfl hl (by decide) rfl (fun ls hl => ?_)
    refine lv_aload_n hx hb dX3_isWholeNumber_16 rfl (lv_at hl 1 rfl) ?_
    refine lv_iload_n hx hb dX3_isWholeNumber_17 rfl (lv_at hl 0 rfl) ?_
    refine lv_bipush (v := 9) hx hb dX3_isWholeNumber_18 (by decide) ?_
    have hl_24 : (1 : Int32).toInt = 1 := rfl
    have hl_25 : (9 : Int32).toInt = 9 := rfl
    refine x_calli (va_runV (As := [.int 1, .int 9]) (rest := []) ⟨hx, hb, hml, hown, hts⟩ (k_digits_cellText l D g ka ad i r L d 1 9 hO hR H.size (by first | omega | decide) (by first | omega | decide) (by first | omega | decide) (by first | omega | decide)) (cwV 2 hts gX3_isWholeNumber_X3_digits rfl rfl rfl (by decide +kernel) ⟨(Nat.le_of_ble_eq_true rfl), (Nat.le_of_ble_eq_true rfl)⟩) (x_preV (q := (RX3, TX3, 2)) hH hK (q_obj (by decide) (rfl : kd 16 = 3) (by decide)) rfl gxb (gxw hE hS (x_F hH hS hA))) rfl rfl hl.1 rfl (lv_room (Nat.le_of_ble_eq_true rfl)) dX3_isWholeNumber_20 ⟨(Nat.le_of_ble_eq_true rfl), (Nat.le_of_ble_eq_true rfl)⟩) hH hS hA rfl rfl (fun r_26 _ H locs hw_27 hH hS => ?_)
    have hr_29 := hw_27
    have hr_29 : (0 : Int) ≤ r_26.toInt ∧ r_26.toInt ≤ 9 := hr_29
    refine lv_istore_n (lv' := [(2, .int r_26), (1, .int 1), (0, .ref (g 16))]) hx hb dX3_isWholeNumber_23 rfl hl (by decide) rfl (fun ls hl => ?_)
    refine lv_iload_n hx hb dX3_isWholeNumber_24 rfl (lv_at hl 0 rfl) ?_
    refine lv_if_le (tgt := 42) hx hb dX3_isWholeNumber_25 (by decide) (fun c_30 => ?_) (fun c_30 => ?_)
    · skip
      have h_31 := s_le (rfl : r_26.toInt = _) (show (0 : Int32).toInt = 0 from rfl) c_30
      refine lv_iconst (v := 0) hx hb dX3_isWholeNumber_42 (by decide) ?_
      exact sj_zret hx hb hr hlocks (by decide +kernel) hS () ⟨by decide, by decide⟩ hH (sj_Knil hK) (Nat.le_of_ble_eq_true rfl) (Nat.le_of_ble_eq_true rfl) dX3_isWholeNumber_43
    · skip
      have h_32 := s_nle (rfl : r_26.toInt = _) (show (0 : Int32).toInt = 0 from rfl) c_30
      refine lv_iload_n hx hb dX3_isWholeNumber_28 rfl (lv_at hl 1 rfl) ?_
      refine lv_iload_n hx hb dX3_isWholeNumber_29 rfl (lv_at hl 0 rfl) ?_
      refine lv_iadd hx hb dX3_isWholeNumber_30 ?_
      obtain ⟨z_33, ez_33, hz_33⟩ := s_add (show (1 : Int32).toInt = 1 from rfl) (rfl : r_26.toInt = _) (by omega) (by omega)
      refine sj_i ez_33 ?_
      refine lv_aload_n hx hb dX3_isWholeNumber_31 rfl (lv_at hl 2 rfl) ?_
      have bx_34 : (0 : Int) ≤ (i 16 1).toInt ∧ (i 16 1).toInt ≤ 60 := hO 16 1
      refine h_geti (ci := 3) (C := RX3) (F := TX3) (N := 2) hx hb hts in3 hown hK hH (by decide) (rfl : kd 16 = 3) (by decide) rfl 1 (by decide) wd0 (fun _ h9 => h9) (by decide) rfl dX3_isWholeNumber_32 ?_
      refine lv_icmp_ne (tgt := 42) hx hb dX3_isWholeNumber_35 (by decide) (fun c_35 => ?_) (fun c_35 => ?_)
      · skip
        have h_36 := s_ne (rfl : z_33.toInt = _) (rfl : (i 16 1).toInt = _) c_35
        refine lv_iconst (v := 0) hx hb dX3_isWholeNumber_42 (by decide) ?_
        exact sj_zret hx hb hr hlocks (by decide +kernel) hS () ⟨by decide, by decide⟩ hH (sj_Knil hK) (Nat.le_of_ble_eq_true rfl) (Nat.le_of_ble_eq_true rfl) dX3_isWholeNumber_43
      · skip
        have h_37 := s_eq (rfl : z_33.toInt = _) (rfl : (i 16 1).toInt = _) c_35
        refine lv_iconst (v := 1) hx hb dX3_isWholeNumber_38 (by decide) ?_
        refine lv_goto (tgt := 43) hx hb dX3_isWholeNumber_39 (by decide) ?_
        exact sj_zret hx hb hr hlocks (by decide +kernel) hS () ⟨by decide, by decide⟩ hH (sj_Knil hK) (Nat.le_of_ble_eq_true rfl) (Nat.le_of_ble_eq_true rfl) dX3_isWholeNumber_43
set_option maxHeartbeats 2000000 in
set_option maxRecDepth 100000 in
theorem k_whole_cellText (l : Launch) (D : va_G) (g : Nat → Nat) (ka : Nat → ClassId) (ad : Nat → Nat) (i : Nat → Nat → Int32) (r : Nat → Nat → Nat) (L : Nat → Nat → Int64) (d : Nat → Nat → UInt64) (x : Int32) (y : Int32) (hO : OkI i) (hR : RS r) (sz : Nat)  : Met l yX3_wholeNumber wsX3_wholeNumber ({ frames := 1, cells := 0, slots := 0, locals := 21 }) (va_Pc [.ref (g 16), .int x, .int y] (sj_B D (hwc g ka i r L d) (hT ka) sz (gx ad (va_A (hwc g ka i r L d) sz)))) (sj_Qi (S := Unit) D (fun v u => True) (fun _ => hwc g ka i r L d) (fun _ => []) (va_A (hwc g ka i r L d) sz)) 0 0 (va_A (hwc g ka i r L d) sz) := by
  refine x_met (Ex := gx ad) (cc := cX3_wholeNumber) (maxL := 6) (ret := (some .int)) (by decide) rfl (Nat.le_of_ble_eq_true rfl) ?_
  intro p e s m below meth c A ls hx hb hr hml hts hown hlocks hA hS hH hK hE hl
  have hown : s.vm.findClass RX3 = some m.cls := hown
  have hl : lv_has ls 6 [(0, .ref (g 16)), (1, .int x), (2, .int y)] := hl
  have hK : va_K D vwCl (hT ka) s := hK
  have hg_1 := s_rng x
  have hg_2 := s_rng y
  refine lv_iconst (v := 0) hx hb dX3_wholeNumber_0 (by decide) ?_
  refine lv_istore_n (lv' := [(3, .int 0), (0, .ref (g 16)), (1, .int x), (2, .int y)]) hx hb dX3_wholeNumber_1 rfl hl (by decide) rfl (fun ls hl => ?_)
  refine lv_iload_n hx hb dX3_wholeNumber_2 rfl (lv_at hl 2 rfl) ?_
  refine lv_istore (lv' := [(4, .int x), (3, .int 0), (0, .ref (g 16)), (1, .int x), (2, .int y)]) hx hb dX3_wholeNumber_3 hl (by decide) rfl (fun ls hl => ?_)
  -- loop at 5
  have lp_3 : ∀ (fuel_lp_3 : Nat) (f : Int32) (t : Int32) (H : Heap) (locs : List Loc) (ls : Array Slot), (y.toInt - f.toInt).toNat < fuel_lp_3 → lv_has ls 6 [(4, .int f), (3, .int t), (0, .ref (g 16)), (1, .int x), (2, .int y)] → sj_H D A (hwc g ka i r L d) H → va_S A s.heap H locs → W p l e (headSpec wsX3_wholeNumber ({ frames := 1, cells := 0, slots := 0, locals := 21 })).room s m ([.ref (g 16), .int x, .int y] : List Value).toArray below meth c H locs 0 0 (MQ below (sj_Qi (S := Unit) D (fun v u => True) (fun _ => hwc g ka i r L d) (fun _ => []) A) ([.ref (g 16), .int x, .int y] : List Value).toArray s 0 0 A) (F0 m 5 ls []) := by
    intro fuel_lp_3
    induction fuel_lp_3 with
    | zero => intros; omega
    | succ fuel_lp_3 ih_lp_3 =>
      intro f t H locs ls hm  hl hH hS
      have hg_4 := s_rng f
      have hg_5 := s_rng t
      refine lv_iload hx hb dX3_wholeNumber_5 (lv_at hl 0 rfl) ?_
      refine lv_iload_n hx hb dX3_wholeNumber_7 rfl (lv_at hl 4 rfl) ?_
      refine lv_icmp_ge (tgt := 50) hx hb dX3_wholeNumber_8 (by decide) (fun c_6 => ?_) (fun c_6 => ?_)
      · skip
        have h_7 := s_le (rfl : y.toInt = _) (rfl : f.toInt = _) c_6
        refine lv_aload_n hx hb dX3_wholeNumber_50 rfl (lv_at hl 2 rfl) ?_
        refine lv_iload_n hx hb dX3_wholeNumber_51 rfl (lv_at hl 3 rfl) ?_
        refine x_calli (va_runV (As := [.int x]) (rest := []) ⟨hx, hb, hml, hown, hts⟩ (k_at_cellText l D g ka ad i r L d x hO hR H.size ) (cwV 1 hts gX3_wholeNumber_X3_at rfl rfl rfl (by decide +kernel) ⟨(Nat.le_of_ble_eq_true rfl), (Nat.le_of_ble_eq_true rfl)⟩) (x_preV (q := (RX3, TX3, 2)) hH hK (q_obj (by decide) (rfl : kd 16 = 3) (by decide)) rfl gxb (gxw hE hS (x_F hH hS hA))) rfl rfl hl.1 rfl (lv_room (Nat.le_of_ble_eq_true rfl)) dX3_wholeNumber_52 ⟨(Nat.le_of_ble_eq_true rfl), (Nat.le_of_ble_eq_true rfl)⟩) hH hS hA rfl rfl (fun r_8 _ H locs hw_9 hH hS => ?_)
        obtain ⟨hr_11, he_12⟩ := hw_9
        have hr_11 : (-1 : Int) ≤ r_8.toInt ∧ r_8.toInt ≤ 65535 := hr_11
        refine lv_bipush (v := 45) hx hb dX3_wholeNumber_55 (by decide) ?_
        refine lv_icmp_ne (tgt := 65) hx hb dX3_wholeNumber_57 (by decide) (fun c_13 => ?_) (fun c_13 => ?_)
        · skip
          have h_14 := s_ne (rfl : r_8.toInt = _) (show (45 : Int32).toInt = 45 from rfl) c_13
          refine lv_iload_n hx hb dX3_wholeNumber_65 rfl (lv_at hl 1 rfl) ?_
          exact sj_zret hx hb hr hlocks rfl hS () trivial hH (sj_Knil hK) (Nat.le_of_ble_eq_true rfl) (Nat.le_of_ble_eq_true rfl) dX3_wholeNumber_66
        · skip
          have h_15 := s_eq (rfl : r_8.toInt = _) (show (45 : Int32).toInt = 45 from rfl) c_13
          refine lv_iload_n hx hb dX3_wholeNumber_60 rfl (lv_at hl 1 rfl) ?_
          refine lv_ineg hx hb dX3_wholeNumber_61 ?_
          obtain ⟨z_16, ez_16⟩ : ∃ z, -t = z := ⟨_, rfl⟩
          refine sj_i ez_16 ?_
          refine lv_goto (tgt := 66) hx hb dX3_wholeNumber_62 (by decide) ?_
          exact sj_zret hx hb hr hlocks rfl hS () trivial hH (sj_Knil hK) (Nat.le_of_ble_eq_true rfl) (Nat.le_of_ble_eq_true rfl) dX3_wholeNumber_66
      · skip
        have h_17 := s_nle (rfl : y.toInt = _) (rfl : f.toInt = _) c_6
        refine lv_aload_n hx hb dX3_wholeNumber_11 rfl (lv_at hl 2 rfl) ?_
        refine lv_iload hx hb dX3_wholeNumber_12 (lv_at hl 0 rfl) ?_
        refine x_calli (va_runV (As := [.int f]) (rest := []) ⟨hx, hb, hml, hown, hts⟩ (k_at_cellText l D g ka ad i r L d f hO hR H.size ) (cwV 1 hts gX3_wholeNumber_X3_at rfl rfl rfl (by decide +kernel) ⟨(Nat.le_of_ble_eq_true rfl), (Nat.le_of_ble_eq_true rfl)⟩) (x_preV (q := (RX3, TX3, 2)) hH hK (q_obj (by decide) (rfl : kd 16 = 3) (by decide)) rfl gxb (gxw hE hS (x_F hH hS hA))) rfl rfl hl.1 rfl (lv_room (Nat.le_of_ble_eq_true rfl)) dX3_wholeNumber_14 ⟨(Nat.le_of_ble_eq_true rfl), (Nat.le_of_ble_eq_true rfl)⟩) hH hS hA rfl rfl (fun r_18 _ H locs hw_19 hH hS => ?_)
        obtain ⟨hr_21, he_22⟩ := hw_19
        have hr_21 : (-1 : Int) ≤ r_18.toInt ∧ r_18.toInt ≤ 65535 := hr_21
        refine lv_istore (lv' := [(5, .int r_18), (4, .int f), (3, .int t), (0, .ref (g 16)), (1, .int x), (2, .int y)]) hx hb dX3_wholeNumber_17 hl (by decide) rfl (fun ls hl => ?_)
        refine lv_iload hx hb dX3_wholeNumber_19 (lv_at hl 0 rfl) ?_
        refine lv_bipush (v := 48) hx hb dX3_wholeNumber_21 (by decide) ?_
        refine lv_icmp_lt (tgt := 44) hx hb dX3_wholeNumber_23 (by decide) (fun c_23 => ?_) (fun c_23 => ?_)
        · skip
          have h_24 := s_lt (rfl : r_18.toInt = _) (show (48 : Int32).toInt = 48 from rfl) c_23
          obtain ⟨z_25, ez_25, hz_25⟩ := s_add (rfl : f.toInt = _) (show (1 : Int32).toInt = 1 from rfl) (by omega) (by omega)
          refine lv_iinc (v := z_25) (lv' := [(4, .int z_25), (5, .int r_18), (3, .int t), (0, .ref (g 16)), (1, .int x), (2, .int y)]) hx hb dX3_wholeNumber_44 hl (k := 1) rfl ez_25 (by decide) rfl (fun ls hl => ?_)
          refine lv_goto (tgt := 5) hx hb dX3_wholeNumber_47 (by decide) ?_
          exact ih_lp_3 z_25 t _ _ ls (by omega)  (lv_sub hl [0, 2, 3, 4, 5] rfl) hH hS
        · skip
          have h_26 := s_nlt (rfl : r_18.toInt = _) (show (48 : Int32).toInt = 48 from rfl) c_23
          refine lv_iload hx hb dX3_wholeNumber_26 (lv_at hl 0 rfl) ?_
          refine lv_bipush (v := 57) hx hb dX3_wholeNumber_28 (by decide) ?_
          refine lv_icmp_gt (tgt := 44) hx hb dX3_wholeNumber_30 (by decide) (fun c_27 => ?_) (fun c_27 => ?_)
          · skip
            have h_28 := s_lt (show (57 : Int32).toInt = 57 from rfl) (rfl : r_18.toInt = _) c_27
            obtain ⟨z_29, ez_29, hz_29⟩ := s_add (rfl : f.toInt = _) (show (1 : Int32).toInt = 1 from rfl) (by omega) (by omega)
            refine lv_iinc (v := z_29) (lv' := [(4, .int z_29), (5, .int r_18), (3, .int t), (0, .ref (g 16)), (1, .int x), (2, .int y)]) hx hb dX3_wholeNumber_44 hl (k := 1) rfl ez_29 (by decide) rfl (fun ls hl => ?_)
            refine lv_goto (tgt := 5) hx hb dX3_wholeNumber_47 (by decide) ?_
            exact ih_lp_3 z_29 t _ _ ls (by omega)  (lv_sub hl [0, 2, 3, 4, 5] rfl) hH hS
          · skip
            have h_30 := s_nlt (show (57 : Int32).toInt = 57 from rfl) (rfl : r_18.toInt = _) c_27
            refine lv_iload_n hx hb dX3_wholeNumber_33 rfl (lv_at hl 2 rfl) ?_
            refine lv_bipush (v := 10) hx hb dX3_wholeNumber_34 (by decide) ?_
            refine lv_imul hx hb dX3_wholeNumber_36 ?_
            obtain ⟨z_31, ez_31⟩ : ∃ z, t * 10 = z := ⟨_, rfl⟩
            refine sj_i ez_31 ?_
            refine lv_iload hx hb dX3_wholeNumber_37 (lv_at hl 0 rfl) ?_
            refine lv_bipush (v := 48) hx hb dX3_wholeNumber_39 (by decide) ?_
            refine lv_isub hx hb dX3_wholeNumber_41 ?_
            obtain ⟨z_32, ez_32, hz_32⟩ := s_sub (rfl : r_18.toInt = _) (show (48 : Int32).toInt = 48 from rfl) (by omega) (by omega)
            refine sj_i ez_32 ?_
            refine lv_iadd hx hb dX3_wholeNumber_42 ?_
            obtain ⟨z_33, ez_33⟩ : ∃ z, z_31 + z_32 = z := ⟨_, rfl⟩
            refine sj_i ez_33 ?_
            refine lv_istore_n (lv' := [(3, .int z_33), (5, .int r_18), (4, .int f), (0, .ref (g 16)), (1, .int x), (2, .int y)]) hx hb dX3_wholeNumber_43 rfl hl (by decide) rfl (fun ls hl => ?_)
            obtain ⟨z_34, ez_34, hz_34⟩ := s_add (rfl : f.toInt = _) (show (1 : Int32).toInt = 1 from rfl) (by omega) (by omega)
            refine lv_iinc (v := z_34) (lv' := [(4, .int z_34), (3, .int z_33), (5, .int r_18), (0, .ref (g 16)), (1, .int x), (2, .int y)]) hx hb dX3_wholeNumber_44 hl (k := 2) rfl ez_34 (by decide) rfl (fun ls hl => ?_)
            refine lv_goto (tgt := 5) hx hb dX3_wholeNumber_47 (by decide) ?_
            exact ih_lp_3 z_34 z_33 _ _ ls (by omega)  (lv_sub hl [0, 1, 3, 4, 5] rfl) hH hS
  have hl_35 : (0 : Int32).toInt = 0 := rfl
  exact lp_3 _ x 0 _ _ ls (Nat.lt_succ_self _)  (lv_sub hl [0, 1, 2, 3, 4] rfl) hH hS
