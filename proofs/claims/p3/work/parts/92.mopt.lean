theorem dX12_optional_0 : decode cX12_optional 0 = .ok (.aload_n 0, 1) := by decide +kernel
theorem dX12_optional_1 : decode cX12_optional 1 = .ok (.dup, 1) := by decide +kernel
theorem dX12_optional_2 : decode cX12_optional 2 = .ok (.getfield 269, 3) := by decide +kernel
theorem dX12_optional_5 : decode cX12_optional 5 = .ok (.iconst 1, 1) := by decide +kernel
theorem dX12_optional_6 : decode cX12_optional 6 = .ok (.iadd, 1) := by decide +kernel
theorem dX12_optional_7 : decode cX12_optional 7 = .ok (.putfield 269, 3) := by decide +kernel
theorem dX12_optional_10 : decode cX12_optional 10 = .ok (.aload_n 0, 1) := by decide +kernel
theorem dX12_optional_11 : decode cX12_optional 11 = .ok (.invokevirtual 278, 3) := by decide +kernel
theorem dX12_optional_14 : decode cX12_optional 14 = .ok (.aload_n 0, 1) := by decide +kernel
theorem dX12_optional_15 : decode cX12_optional 15 = .ok (.getfield 269, 3) := by decide +kernel
theorem dX12_optional_18 : decode cX12_optional 18 = .ok (.aload_n 0, 1) := by decide +kernel
theorem dX12_optional_19 : decode cX12_optional 19 = .ok (.getfield 272, 3) := by decide +kernel
theorem dX12_optional_22 : decode cX12_optional 22 = .ok (.if_icmp .ge 24, 3) := by decide +kernel
theorem dX12_optional_46 : decode cX12_optional 46 = .ok (.aload_n 0, 1) := by decide +kernel
theorem dX12_optional_47 : decode cX12_optional 47 = .ok (.getfield 269, 3) := by decide +kernel
theorem dX12_optional_50 : decode cX12_optional 50 = .ok (.aload_n 0, 1) := by decide +kernel
theorem dX12_optional_51 : decode cX12_optional 51 = .ok (.getfield 272, 3) := by decide +kernel
theorem dX12_optional_54 : decode cX12_optional 54 = .ok (.if_icmp .ge 17, 3) := by decide +kernel
theorem dX12_optional_71 : decode cX12_optional 71 = .ok (.iconst 0, 1) := by decide +kernel
theorem dX12_optional_72 : decode cX12_optional 72 = .ok (.ireturn, 1) := by decide +kernel
theorem dX12_optional_57 : decode cX12_optional 57 = .ok (.aload_n 0, 1) := by decide +kernel
theorem dX12_optional_58 : decode cX12_optional 58 = .ok (.getfield 266, 3) := by decide +kernel
theorem dX12_optional_61 : decode cX12_optional 61 = .ok (.aload_n 0, 1) := by decide +kernel
theorem dX12_optional_62 : decode cX12_optional 62 = .ok (.getfield 260, 3) := by decide +kernel
theorem dX12_optional_65 : decode cX12_optional 65 = .ok (.iconst 1, 1) := by decide +kernel
theorem dX12_optional_66 : decode cX12_optional 66 = .ok (.isub, 1) := by decide +kernel
theorem dX12_optional_67 : decode cX12_optional 67 = .ok (.iaload, 1) := by decide +kernel
theorem dX12_optional_68 : decode cX12_optional 68 = .ok (.ifCond .ne 5, 3) := by decide +kernel
theorem dX12_optional_73 : decode cX12_optional 73 = .ok (.aload_n 0, 1) := by decide +kernel
theorem dX12_optional_74 : decode cX12_optional 74 = .ok (.dup, 1) := by decide +kernel
theorem dX12_optional_75 : decode cX12_optional 75 = .ok (.getfield 269, 3) := by decide +kernel
theorem dX12_optional_78 : decode cX12_optional 78 = .ok (.iconst 1, 1) := by decide +kernel
theorem dX12_optional_79 : decode cX12_optional 79 = .ok (.iadd, 1) := by decide +kernel
theorem dX12_optional_80 : decode cX12_optional 80 = .ok (.putfield 269, 3) := by decide +kernel
theorem dX12_optional_83 : decode cX12_optional 83 = .ok (.aload_n 0, 1) := by decide +kernel
theorem dX12_optional_84 : decode cX12_optional 84 = .ok (.iconst 2, 1) := by decide +kernel
theorem dX12_optional_85 : decode cX12_optional 85 = .ok (.aload_n 0, 1) := by decide +kernel
theorem dX12_optional_86 : decode cX12_optional 86 = .ok (.getfield 260, 3) := by decide +kernel
theorem dX12_optional_89 : decode cX12_optional 89 = .ok (.iconst 1, 1) := by decide +kernel
theorem dX12_optional_90 : decode cX12_optional 90 = .ok (.isub, 1) := by decide +kernel
theorem dX12_optional_91 : decode cX12_optional 91 = .ok (.iconst 1, 1) := by decide +kernel
theorem dX12_optional_92 : decode cX12_optional 92 = .ok (.invokevirtual 285, 3) := by decide +kernel
theorem dX12_optional_95 : decode cX12_optional 95 = .ok (.iconst 1, 1) := by decide +kernel
theorem dX12_optional_96 : decode cX12_optional 96 = .ok (.ireturn, 1) := by decide +kernel
theorem dX12_optional_25 : decode cX12_optional 25 = .ok (.aload_n 1, 1) := by decide +kernel
theorem dX12_optional_26 : decode cX12_optional 26 = .ok (.aload_n 0, 1) := by decide +kernel
theorem dX12_optional_27 : decode cX12_optional 27 = .ok (.getfield 269, 3) := by decide +kernel
theorem dX12_optional_30 : decode cX12_optional 30 = .ok (.caload, 1) := by decide +kernel
theorem dX12_optional_31 : decode cX12_optional 31 = .ok (.bipush 41, 2) := by decide +kernel
theorem dX12_optional_33 : decode cX12_optional 33 = .ok (.if_icmp .eq 13, 3) := by decide +kernel
theorem dX12_optional_36 : decode cX12_optional 36 = .ok (.aload_n 0, 1) := by decide +kernel
theorem dX12_optional_37 : decode cX12_optional 37 = .ok (.aload_n 1, 1) := by decide +kernel
theorem dX12_optional_38 : decode cX12_optional 38 = .ok (.invokevirtual 281, 3) := by decide +kernel
theorem dX12_optional_41 : decode cX12_optional 41 = .ok (.ifCond .ne (-27), 3) := by decide +kernel
theorem dX12_optional_44 : decode cX12_optional 44 = .ok (.iconst 0, 1) := by decide +kernel
theorem dX12_optional_45 : decode cX12_optional 45 = .ok (.ireturn, 1) := by decide +kernel
theorem dX12_blank_0 : decode cX12_blank 0 = .ok (.aload_n 0, 1) := by decide +kernel
theorem dX12_blank_1 : decode cX12_blank 1 = .ok (.iconst 1, 1) := by decide +kernel
theorem dX12_blank_2 : decode cX12_blank 2 = .ok (.bipush 32, 2) := by decide +kernel
theorem dX12_blank_4 : decode cX12_blank 4 = .ok (.iconst 0, 1) := by decide +kernel
theorem dX12_blank_5 : decode cX12_blank 5 = .ok (.invokevirtual 285, 3) := by decide +kernel
theorem dX12_blank_8 : decode cX12_blank 8 = .ok (.aload_n 0, 1) := by decide +kernel
theorem dX12_blank_9 : decode cX12_blank 9 = .ok (.dup, 1) := by decide +kernel
theorem dX12_blank_10 : decode cX12_blank 10 = .ok (.getfield 269, 3) := by decide +kernel
theorem dX12_blank_13 : decode cX12_blank 13 = .ok (.iconst 1, 1) := by decide +kernel
theorem dX12_blank_14 : decode cX12_blank 14 = .ok (.iadd, 1) := by decide +kernel
theorem dX12_blank_15 : decode cX12_blank 15 = .ok (.putfield 269, 3) := by decide +kernel
theorem dX12_blank_18 : decode cX12_blank 18 = .ok (.iconst 1, 1) := by decide +kernel
theorem dX12_blank_19 : decode cX12_blank 19 = .ok (.ireturn, 1) := by decide +kernel
theorem dX12_parameter_0 : decode cX12_parameter 0 = .ok (.aload_n 0, 1) := by decide +kernel
theorem dX12_parameter_1 : decode cX12_parameter 1 = .ok (.getfield 269, 3) := by decide +kernel
theorem dX12_parameter_4 : decode cX12_parameter 4 = .ok (.iconst 2, 1) := by decide +kernel
theorem dX12_parameter_5 : decode cX12_parameter 5 = .ok (.iadd, 1) := by decide +kernel
theorem dX12_parameter_6 : decode cX12_parameter 6 = .ok (.aload_n 0, 1) := by decide +kernel
theorem dX12_parameter_7 : decode cX12_parameter 7 = .ok (.getfield 272, 3) := by decide +kernel
theorem dX12_parameter_10 : decode cX12_parameter 10 = .ok (.if_icmp .ge 16, 3) := by decide +kernel
theorem dX12_parameter_26 : decode cX12_parameter 26 = .ok (.iconst 0, 1) := by decide +kernel
theorem dX12_parameter_27 : decode cX12_parameter 27 = .ok (.ireturn, 1) := by decide +kernel
theorem dX12_parameter_13 : decode cX12_parameter 13 = .ok (.aload_n 1, 1) := by decide +kernel
theorem dX12_parameter_14 : decode cX12_parameter 14 = .ok (.aload_n 0, 1) := by decide +kernel
theorem dX12_parameter_15 : decode cX12_parameter 15 = .ok (.getfield 269, 3) := by decide +kernel
theorem dX12_parameter_18 : decode cX12_parameter 18 = .ok (.iconst 2, 1) := by decide +kernel
theorem dX12_parameter_19 : decode cX12_parameter 19 = .ok (.iadd, 1) := by decide +kernel
theorem dX12_parameter_20 : decode cX12_parameter 20 = .ok (.caload, 1) := by decide +kernel
theorem dX12_parameter_21 : decode cX12_parameter 21 = .ok (.bipush 125, 2) := by decide +kernel
theorem dX12_parameter_23 : decode cX12_parameter 23 = .ok (.if_icmp .eq 5, 3) := by decide +kernel
theorem dX12_parameter_28 : decode cX12_parameter 28 = .ok (.aload_n 1, 1) := by decide +kernel
theorem dX12_parameter_29 : decode cX12_parameter 29 = .ok (.aload_n 0, 1) := by decide +kernel
theorem dX12_parameter_30 : decode cX12_parameter 30 = .ok (.getfield 269, 3) := by decide +kernel
theorem dX12_parameter_33 : decode cX12_parameter 33 = .ok (.iconst 1, 1) := by decide +kernel
theorem dX12_parameter_34 : decode cX12_parameter 34 = .ok (.iadd, 1) := by decide +kernel
theorem dX12_parameter_35 : decode cX12_parameter 35 = .ok (.caload, 1) := by decide +kernel
theorem dX12_parameter_36 : decode cX12_parameter 36 = .ok (.istore_n 2, 1) := by decide +kernel
theorem dX12_parameter_37 : decode cX12_parameter 37 = .ok (.iload_n 2, 1) := by decide +kernel
theorem dX12_parameter_38 : decode cX12_parameter 38 = .ok (.bipush 105, 2) := by decide +kernel
theorem dX12_parameter_40 : decode cX12_parameter 40 = .ok (.if_icmp .eq 23, 3) := by decide +kernel
theorem dX12_parameter_63 : decode cX12_parameter 63 = .ok (.aload_n 0, 1) := by decide +kernel
theorem dX12_parameter_64 : decode cX12_parameter 64 = .ok (.dup, 1) := by decide +kernel
theorem dX12_parameter_65 : decode cX12_parameter 65 = .ok (.getfield 269, 3) := by decide +kernel
theorem dX12_parameter_68 : decode cX12_parameter 68 = .ok (.iconst 3, 1) := by decide +kernel
theorem dX12_parameter_69 : decode cX12_parameter 69 = .ok (.iadd, 1) := by decide +kernel
theorem dX12_parameter_70 : decode cX12_parameter 70 = .ok (.putfield 269, 3) := by decide +kernel
theorem dX12_parameter_73 : decode cX12_parameter 73 = .ok (.aload_n 0, 1) := by decide +kernel
theorem dX12_parameter_74 : decode cX12_parameter 74 = .ok (.iconst 4, 1) := by decide +kernel
theorem dX12_parameter_75 : decode cX12_parameter 75 = .ok (.iload_n 2, 1) := by decide +kernel
theorem dX12_parameter_76 : decode cX12_parameter 76 = .ok (.iconst 0, 1) := by decide +kernel
theorem dX12_parameter_77 : decode cX12_parameter 77 = .ok (.invokevirtual 285, 3) := by decide +kernel
theorem dX12_parameter_80 : decode cX12_parameter 80 = .ok (.iconst 1, 1) := by decide +kernel
theorem dX12_parameter_81 : decode cX12_parameter 81 = .ok (.ireturn, 1) := by decide +kernel
theorem dX12_parameter_43 : decode cX12_parameter 43 = .ok (.iload_n 2, 1) := by decide +kernel
theorem dX12_parameter_44 : decode cX12_parameter 44 = .ok (.bipush 100, 2) := by decide +kernel
theorem dX12_parameter_46 : decode cX12_parameter 46 = .ok (.if_icmp .eq 17, 3) := by decide +kernel
theorem dX12_parameter_49 : decode cX12_parameter 49 = .ok (.iload_n 2, 1) := by decide +kernel
theorem dX12_parameter_50 : decode cX12_parameter 50 = .ok (.bipush 119, 2) := by decide +kernel
theorem dX12_parameter_52 : decode cX12_parameter 52 = .ok (.if_icmp .eq 11, 3) := by decide +kernel
theorem dX12_parameter_55 : decode cX12_parameter 55 = .ok (.iload_n 2, 1) := by decide +kernel
theorem dX12_parameter_56 : decode cX12_parameter 56 = .ok (.bipush 115, 2) := by decide +kernel
theorem dX12_parameter_58 : decode cX12_parameter 58 = .ok (.if_icmp .eq 5, 3) := by decide +kernel
theorem dX12_parameter_61 : decode cX12_parameter 61 = .ok (.iconst 0, 1) := by decide +kernel
theorem dX12_parameter_62 : decode cX12_parameter 62 = .ok (.ireturn, 1) := by decide +kernel
theorem gw_X12_openText : wsX12_openText.all goodWord = true := by decide +kernel
theorem gX12_optional_X12_openText : GoodIn wsX12_optional (wsV RX12 278 RX12 yX12_openText wsX12_openText) := goodIn_app (goodIn_sub (List.forall_mem_cons.mpr ⟨(List.mem_cons_of_mem _ (List.mem_append_left _ lm4)), List.forall_mem_cons.mpr ⟨(List.mem_cons_of_mem _ (List.mem_append_left _ lm5)), List.forall_mem_cons.mpr ⟨(List.mem_cons_of_mem _ (List.mem_append_left _ lm6)), List.forall_mem_cons.mpr ⟨(List.mem_cons_of_mem _ (List.mem_append_left _ lm7)), (fun _ h => absurd h List.not_mem_nil)⟩⟩⟩⟩) (by decide +kernel)) (goodIn_sub (by unfold wsX12_openText; exact List.forall_mem_cons.mpr ⟨(List.mem_cons_of_mem _ (List.mem_append_left _ lm8)), List.forall_mem_append.mpr ⟨List.forall_mem_cons.mpr ⟨(List.mem_cons_of_mem _ (List.mem_append_left _ lm9)), List.forall_mem_cons.mpr ⟨(List.mem_cons_of_mem _ (List.mem_append_left _ lm3)), List.forall_mem_cons.mpr ⟨(List.mem_cons_of_mem _ (List.mem_append_left _ lm10)), List.forall_mem_cons.mpr ⟨(List.mem_cons_of_mem _ (List.mem_append_left _ lm2)), (fun _ h => absurd h List.not_mem_nil)⟩⟩⟩⟩, (fun _ h => (List.mem_cons_of_mem _ (List.mem_append_right _ h)))⟩⟩) gw_X12_openText)
theorem gw_X12_addPart : wsX12_addPart.all goodWord = true := by decide +kernel
theorem gX12_optional_X12_addPart : GoodIn wsX12_optional (wsV RX12 285 RX12 yX12_addPart wsX12_addPart) := goodIn_app (goodIn_sub (List.forall_mem_cons.mpr ⟨(List.mem_cons_of_mem _ (List.mem_append_left _ lm16)), List.forall_mem_cons.mpr ⟨(List.mem_cons_of_mem _ (List.mem_append_left _ lm17)), List.forall_mem_cons.mpr ⟨(List.mem_cons_of_mem _ (List.mem_append_left _ lm18)), List.forall_mem_cons.mpr ⟨(List.mem_cons_of_mem _ (List.mem_append_left _ lm7)), (fun _ h => absurd h List.not_mem_nil)⟩⟩⟩⟩) (by decide +kernel)) (goodIn_sub (by unfold wsX12_addPart; exact List.forall_mem_cons.mpr ⟨(List.mem_cons_of_mem _ (List.mem_append_left _ lm19)), List.forall_mem_append.mpr ⟨List.forall_mem_cons.mpr ⟨(List.mem_cons_of_mem _ (List.mem_append_left _ lm20)), List.forall_mem_cons.mpr ⟨(List.mem_cons_of_mem _ (List.mem_append_left _ lm21)), List.forall_mem_cons.mpr ⟨(List.mem_cons_of_mem _ (List.mem_append_left _ lm22)), List.forall_mem_cons.mpr ⟨(List.mem_cons_of_mem _ (List.mem_append_left _ lm23)), (fun _ h => absurd h List.not_mem_nil)⟩⟩⟩⟩, (fun _ h => (List.mem_cons_of_mem _ (List.mem_append_right _ h)))⟩⟩) gw_X12_addPart)
theorem gw_X12_takeOne : wsX12_takeOne.all goodWord = true := by decide +kernel
theorem gX12_optional_X12_takeOne : GoodIn wsX12_optional (wsV RX12 281 RX12 yX12_takeOne wsX12_takeOne) := goodIn_app (goodIn_sub (List.forall_mem_cons.mpr ⟨(List.mem_cons_of_mem _ (List.mem_append_left _ lm11)), List.forall_mem_cons.mpr ⟨(List.mem_cons_of_mem _ (List.mem_append_left _ lm12)), List.forall_mem_cons.mpr ⟨(List.mem_cons_of_mem _ (List.mem_append_left _ lm13)), List.forall_mem_cons.mpr ⟨(List.mem_cons_of_mem _ (List.mem_append_left _ lm7)), (fun _ h => absurd h List.not_mem_nil)⟩⟩⟩⟩) (by decide +kernel)) (goodIn_sub (by unfold wsX12_takeOne; exact List.forall_mem_cons.mpr ⟨(List.mem_cons_of_mem _ (List.mem_append_left _ lm14)), List.forall_mem_append.mpr ⟨List.forall_mem_cons.mpr ⟨(List.mem_cons_of_mem _ (List.mem_append_left _ lm0)), List.forall_mem_cons.mpr ⟨(List.mem_cons_of_mem _ (List.mem_append_left _ lm1)), List.forall_mem_cons.mpr ⟨(List.mem_cons_of_mem _ (List.mem_append_left _ lm15)), List.forall_mem_cons.mpr ⟨(List.mem_cons_of_mem _ (List.mem_append_left _ lm10)), List.forall_mem_cons.mpr ⟨(List.mem_cons_of_mem _ (List.mem_append_left _ lm2)), List.forall_mem_cons.mpr ⟨(List.mem_cons_of_mem _ (List.mem_append_left _ lm3)), (fun _ h => absurd h List.not_mem_nil)⟩⟩⟩⟩⟩⟩, (fun _ h => (List.mem_cons_of_mem _ (List.mem_append_right _ h)))⟩⟩) gw_X12_takeOne)
theorem gX12_blank_X12_addPart : GoodIn wsX12_blank (wsV RX12 285 RX12 yX12_addPart wsX12_addPart) := goodIn_app (goodIn_sub (List.forall_mem_cons.mpr ⟨(List.mem_cons_of_mem _ (List.mem_append_left _ lm1)), List.forall_mem_cons.mpr ⟨(List.mem_cons_of_mem _ (List.mem_append_left _ lm2)), List.forall_mem_cons.mpr ⟨(List.mem_cons_of_mem _ (List.mem_append_left _ lm3)), List.forall_mem_cons.mpr ⟨(List.mem_cons_of_mem _ (List.mem_append_left _ lm4)), (fun _ h => absurd h List.not_mem_nil)⟩⟩⟩⟩) (by decide +kernel)) (goodIn_sub (by unfold wsX12_addPart; exact List.forall_mem_cons.mpr ⟨(List.mem_cons_of_mem _ (List.mem_append_left _ lm5)), List.forall_mem_append.mpr ⟨List.forall_mem_cons.mpr ⟨(List.mem_cons_of_mem _ (List.mem_append_left _ lm6)), List.forall_mem_cons.mpr ⟨(List.mem_cons_of_mem _ (List.mem_append_left _ lm7)), List.forall_mem_cons.mpr ⟨(List.mem_cons_of_mem _ (List.mem_append_left _ lm8)), List.forall_mem_cons.mpr ⟨(List.mem_cons_of_mem _ (List.mem_append_left _ lm9)), (fun _ h => absurd h List.not_mem_nil)⟩⟩⟩⟩, (fun _ h => (List.mem_cons_of_mem _ (List.mem_append_right _ h)))⟩⟩) gw_X12_addPart)
theorem gX12_parameter_X12_addPart : GoodIn wsX12_parameter (wsV RX12 285 RX12 yX12_addPart wsX12_addPart) := goodIn_app (goodIn_sub (List.forall_mem_cons.mpr ⟨(List.mem_cons_of_mem _ (List.mem_append_left _ lm2)), List.forall_mem_cons.mpr ⟨(List.mem_cons_of_mem _ (List.mem_append_left _ lm3)), List.forall_mem_cons.mpr ⟨(List.mem_cons_of_mem _ (List.mem_append_left _ lm4)), List.forall_mem_cons.mpr ⟨(List.mem_cons_of_mem _ (List.mem_append_left _ lm5)), (fun _ h => absurd h List.not_mem_nil)⟩⟩⟩⟩) (by decide +kernel)) (goodIn_sub (by unfold wsX12_addPart; exact List.forall_mem_cons.mpr ⟨(List.mem_cons_of_mem _ (List.mem_append_left _ lm6)), List.forall_mem_append.mpr ⟨List.forall_mem_cons.mpr ⟨(List.mem_cons_of_mem _ (List.mem_append_left _ lm7)), List.forall_mem_cons.mpr ⟨(List.mem_cons_of_mem _ (List.mem_append_left _ lm8)), List.forall_mem_cons.mpr ⟨(List.mem_cons_of_mem _ (List.mem_append_left _ lm9)), List.forall_mem_cons.mpr ⟨(List.mem_cons_of_mem _ (List.mem_append_left _ lm10)), (fun _ h => absurd h List.not_mem_nil)⟩⟩⟩⟩, (fun _ h => (List.mem_cons_of_mem _ (List.mem_append_right _ h)))⟩⟩) gw_X12_addPart)
set_option maxHeartbeats 2000000 in
set_option maxRecDepth 100000 in
theorem m_optional_T (l : Launch) (D : va_G) (g : Nat → Nat) (ka : Nat → ClassId) (ad : Nat → Nat) (i : Nat → Nat → Int32) (r : Nat → Nat → Nat) (L : Nat → Nat → Int64) (d : Nat → Nat → UInt64)  (hO : OkI i) (hR : RS r) (sz : Nat) (hpu : (i 36 54).toInt < (i 36 55).toInt) (hul : (i 36 55).toInt ≤ 480) (ht : (i 36 49).toInt ≤ 61) (hp : (i 36 45).toInt ≤ 63) (hpo : (i 36 52).toInt + ((i 36 55).toInt - (i 36 54).toInt) ≤ 64) (hex : exI i) : Met l yX12_optional wsX12_optional ({ frames := 1, cells := 0, slots := 0, locals := 23 }) (va_Pc [.ref (g 36), .ref (g 379)] (sj_B D (hwc g ka i r L d) (hT ka) sz (gx ad (va_A (hwc g ka i r L d) sz)))) (sj_Qi (S := (Nat → Nat → Int32)) D (fun v u => OkI u ∧ (∀ a b, ¬ ((a = 36 ∧ (b = 45 ∨ b = 49 ∨ b = 52 ∨ b = 54)) ∨ a = 406 ∨ a = 407 ∨ a = 408 ∨ a = 409 ∨ a = 410 ∨ a = 411) → u a b = i a b) ∧ ((0 : Int) ≤ v.toInt ∧ v.toInt ≤ 1) ∧ ((v.toInt = 1 ∧ opL (lnL (i 379) ((i 36 54).toInt + 1) (i 36 55).toInt) 0 = some (lnL (i 379) (u 36 54).toInt (i 36 55).toInt) ∧ (i 36 54).toInt + 2 ≤ (u 36 54).toInt ∧ (u 36 54).toInt ≤ (i 36 55).toInt ∧ (u 36 45).toInt = (i 36 45).toInt + 1 ∧ (u 36 49).toInt = (i 36 49).toInt + 1 ∧ (u 36 52).toInt - (i 36 52).toInt ≤ (u 36 54).toInt - (i 36 54).toInt ∧ c4 u = c4 i ∧ exI u) ∨ (v.toInt = 0 ∧ opL (lnL (i 379) ((i 36 54).toInt + 1) (i 36 55).toInt) 0 = none))) (fun u => hwc g ka u r L d) (fun _ => []) (va_A (hwc g ka i r L d) sz)) 0 0 (va_A (hwc g ka i r L d) sz) := by
  refine x_met (Ex := gx ad) (cc := cX12_optional) (maxL := 2) (ret := (some .boolean)) (by decide) rfl (Nat.le_of_ble_eq_true rfl) ?_
  intro p e s m below meth c A ls hx hb hr hml hts hown hlocks hA hS hH hK hE hl
  have hown : s.vm.findClass RX12 = some m.cls := hown
  have in12 : ∀ w ∈ wsX120, w ∈ wsX12_optional := (fun _ h => (List.mem_cons_of_mem _ (List.mem_append_right _ h)))
  have wd0 := hts (.fieldLink RX12 269 "StoryDeskModel" "place" "I") (List.mem_cons_of_mem _ (List.mem_append_left _ lm0))
  have wd1 := hts (.fieldLink RX12 272 "StoryDeskModel" "until" "I") (List.mem_cons_of_mem _ (List.mem_append_left _ lm1))
  have wd2 := hts (.fieldLink RX12 266 "StoryDeskModel" "textSize" "[I") (List.mem_cons_of_mem _ (List.mem_append_left _ lm2))
  have wd3 := hts (.fieldLink RX12 260 "StoryDeskModel" "texts" "I") (List.mem_cons_of_mem _ (List.mem_append_left _ lm3))
  have hl : lv_has ls 2 [(0, .ref (g 36)), (1, .ref (g 379))] := hl
  have hK : va_K D vwCl (hT ka) s := hK
  have hx45 : (0 : Int) ≤ (i 36 45).toInt ∧ (i 36 45).toInt ≤ 64 := hO 36 45
  have hx49 : (0 : Int) ≤ (i 36 49).toInt ∧ (i 36 49).toInt ≤ 64 := hO 36 49
  have hx52 : (0 : Int) ≤ (i 36 52).toInt ∧ (i 36 52).toInt ≤ 64 := hO 36 52
  have hx54 : (0 : Int) ≤ (i 36 54).toInt ∧ (i 36 54).toInt ≤ 720 := hO 36 54
  have hx55 : (0 : Int) ≤ (i 36 55).toInt ∧ (i 36 55).toInt ≤ 720 := hO 36 55
  refine lv_aload_n hx hb dX12_optional_0 rfl (lv_at hl 0 rfl) ?_
  refine lv_dup hx hb dX12_optional_1 rfl ?_
  have bx_1 : (0 : Int) ≤ (i 36 54).toInt ∧ (i 36 54).toInt ≤ 720 := hO 36 54
  refine h_geti (ci := 12) (C := RX12) (F := TX12) (N := 86) hx hb hts in12 hown hK hH (by decide) (rfl : kd 36 = 12) (by decide) rfl 54 (by decide) wd0 (fun _ h9 => h9) (by decide) rfl dX12_optional_2 ?_
  refine lv_iconst (v := 1) hx hb dX12_optional_5 (by decide) ?_
  refine lv_iadd hx hb dX12_optional_6 ?_
  obtain ⟨z_2, ez_2, hz_2⟩ := s_add (rfl : (i 36 54).toInt = _) (show (1 : Int32).toInt = 1 from rfl) (by omega) (by omega)
  refine sj_i ez_2 ?_
  have hO_3 := okp hO (n := 36) (k := 54) (v := z_2) (show (0 : Int) ≤ (z_2 : Int32).toInt ∧ (z_2 : Int32).toInt ≤ 720 from ⟨by omega, by omega⟩)
  refine h_puti (ty := .int) (ci := 12) (C := RX12) (F := TX12) (N := 86) hx hb hts in12 tyX12 tyX12_ok nmX12 hown hK hH hS (by decide) (rfl : kd 36 = 12) (by decide) rfl 54 (by decide) wd0 (fun _ h9 => h9) rfl (by decide +kernel) rfl rfl (by decide) rfl dX12_optional_7 (fun H locs hH hS => ?_)
  refine lv_aload_n hx hb dX12_optional_10 rfl (lv_at hl 0 rfl) ?_
  have hwt_4 : ((up2 i 36 54 z_2) 36 49).toInt = ((i 36 49) : Int32).toInt := congrArg Int32.toInt (up2_k _ _ (by decide))
  have hwt_5 : ((up2 i 36 54 z_2) 36 52).toInt = ((i 36 52) : Int32).toInt := congrArg Int32.toInt (up2_k _ _ (by decide))
  refine x_callv (va_runV (As := []) (rest := []) ⟨hx, hb, hml, hown, hts⟩ (m_openText l D g ka ad (up2 i 36 54 z_2) r L d  hO_3 hR H.size (by first | omega | decide) (exI_fr hex (up2_o _ _ (by omega)) (up2_o _ _ (by omega)) (up2_o _ _ (by omega)) (fun a h1 h2 => funext fun b => (up2_o _ _ (by omega))))) (cwV 0 hts gX12_optional_X12_openText rfl rfl rfl (by decide +kernel) ⟨(Nat.le_of_ble_eq_true rfl), (Nat.le_of_ble_eq_true rfl)⟩) (x_preV (q := (RX12, TX12, 86)) hH hK (q_obj (by decide) (rfl : kd 36 = 12) (by decide)) rfl gxb (gxw hE hS (x_F hH hS hA))) rfl rfl hl.1 rfl (lv_room (Nat.le_of_ble_eq_true rfl)) dX12_optional_11 ⟨(Nat.le_of_ble_eq_true rfl), (Nat.le_of_ble_eq_true rfl)⟩) hH hS hA rfl rfl (fun im_8 H locs hw_7 hH hS => ?_)
  have hH : sj_H D A (hwc g ka im_8 r L d) H := hH
  obtain ⟨hO_10, hfr_9, hx2_11, hx2_12, hx2_13, hx2_14⟩ := hw_7
  have hot_15 := hx2_12
  have hot_16 := hx2_13
  -- loop at 14
  have lp_17 : ∀ (fuel_lp_17 : Nat)  (j1 : Nat → Nat → Int32) (H : Heap) (locs : List Loc) (ls : Array Slot), ((i 36 55).toInt - (j1 36 54).toInt).toNat < fuel_lp_17 → ((i 36 54).toInt + 1 ≤ (j1 36 54).toInt ∧ (j1 36 54).toInt ≤ (i 36 55).toInt) ∧ (j1 36 52).toInt - (i 36 52).toInt ≤ (j1 36 54).toInt - (i 36 54).toInt - 1 ∧ (j1 36 49).toInt = (i 36 49).toInt + 1 ∧ 0 ≤ lsz j1 → opL (lnL (i 379) ((i 36 54).toInt + 1) (i 36 55).toInt) 0 = opL (lnL (i 379) (j1 36 54).toInt (i 36 55).toInt) (lsz j1) → exI j1 → OkI j1 → (∀ a b, ¬ ((a = 36 ∧ (b = 52 ∨ b = 54)) ∨ a = 410 ∨ a = 411) → j1 a b = im_8 a b) → lv_has ls 2 [(0, .ref (g 36)), (1, .ref (g 379))] → sj_H D A (hwc g ka j1 r L d) H → va_S A s.heap H locs → W p l e (headSpec wsX12_optional ({ frames := 1, cells := 0, slots := 0, locals := 23 })).room s m ([.ref (g 36), .ref (g 379)] : List Value).toArray below meth c H locs 0 0 (MQ below (sj_Qi (S := (Nat → Nat → Int32)) D (fun v u => OkI u ∧ (∀ a b, ¬ ((a = 36 ∧ (b = 45 ∨ b = 49 ∨ b = 52 ∨ b = 54)) ∨ a = 406 ∨ a = 407 ∨ a = 408 ∨ a = 409 ∨ a = 410 ∨ a = 411) → u a b = i a b) ∧ ((0 : Int) ≤ v.toInt ∧ v.toInt ≤ 1) ∧ ((v.toInt = 1 ∧ opL (lnL (i 379) ((i 36 54).toInt + 1) (i 36 55).toInt) 0 = some (lnL (i 379) (u 36 54).toInt (i 36 55).toInt) ∧ (i 36 54).toInt + 2 ≤ (u 36 54).toInt ∧ (u 36 54).toInt ≤ (i 36 55).toInt ∧ (u 36 45).toInt = (i 36 45).toInt + 1 ∧ (u 36 49).toInt = (i 36 49).toInt + 1 ∧ (u 36 52).toInt - (i 36 52).toInt ≤ (u 36 54).toInt - (i 36 54).toInt ∧ c4 u = c4 i ∧ exI u) ∨ (v.toInt = 0 ∧ opL (lnL (i 379) ((i 36 54).toInt + 1) (i 36 55).toInt) 0 = none))) (fun u => hwc g ka u r L d) (fun _ => []) A) ([.ref (g 36), .ref (g 379)] : List Value).toArray s 0 0 A) (F0 m 14 ls []) := by
    intro fuel_lp_17
    induction fuel_lp_17 with
    | zero => intros; omega
    | succ fuel_lp_17 ih_lp_17 =>
      intro j1 H locs ls hm hi_lp_17_0 hi_lp_17_1 hi_lp_17_2 hO_j1 hfr_j1 hl hH hS
      have hx52j : (0 : Int) ≤ (j1 36 52).toInt ∧ (j1 36 52).toInt ≤ 64 := hO_j1 36 52
      refine lv_aload_n hx hb dX12_optional_14 rfl (lv_at hl 0 rfl) ?_
      have bx_18 : (0 : Int) ≤ (j1 36 54).toInt ∧ (j1 36 54).toInt ≤ 720 := hO_j1 36 54
      refine h_geti (ci := 12) (C := RX12) (F := TX12) (N := 86) hx hb hts in12 hown hK hH (by decide) (rfl : kd 36 = 12) (by decide) rfl 54 (by decide) wd0 (fun _ h9 => h9) (by decide) rfl dX12_optional_15 ?_
      refine lv_aload_n hx hb dX12_optional_18 rfl (lv_at hl 0 rfl) ?_
      have bx_19 : (0 : Int) ≤ (i 36 55).toInt ∧ (i 36 55).toInt ≤ 720 := hO 36 55
      refine h_geti (ci := 12) (C := RX12) (F := TX12) (N := 86) hx hb hts in12 hown hK hH (by decide) (rfl : kd 36 = 12) (by decide) rfl 55 (by decide) wd1 (fun _ h9 => h9) (by decide) rfl dX12_optional_19 ?_
      refine sj_i (y := (i 36 55)) ((hfr_j1 36 55 (by omega)).trans ((hfr_9 36 55 (by omega)).trans (up2_k _ _ (by decide)))) ?_
      refine lv_icmp_ge (tgt := 46) hx hb dX12_optional_22 (by decide) (fun c_20 => ?_) (fun c_20 => ?_)
      · skip
        have h_21 := s_le (rfl : (i 36 55).toInt = _) (rfl : (j1 36 54).toInt = _) c_20
        refine lv_aload_n hx hb dX12_optional_46 rfl (lv_at hl 0 rfl) ?_
        refine h_geti (ci := 12) (C := RX12) (F := TX12) (N := 86) hx hb hts in12 hown hK hH (by decide) (rfl : kd 36 = 12) (by decide) rfl 54 (by decide) wd0 (fun _ h9 => h9) (by decide) rfl dX12_optional_47 ?_
        refine lv_aload_n hx hb dX12_optional_50 rfl (lv_at hl 0 rfl) ?_
        refine h_geti (ci := 12) (C := RX12) (F := TX12) (N := 86) hx hb hts in12 hown hK hH (by decide) (rfl : kd 36 = 12) (by decide) rfl 55 (by decide) wd1 (fun _ h9 => h9) (by decide) rfl dX12_optional_51 ?_
        refine sj_i (y := (i 36 55)) ((hfr_j1 36 55 (by omega)).trans ((hfr_9 36 55 (by omega)).trans (up2_k _ _ (by decide)))) ?_
        refine lv_icmp_ge (tgt := 71) hx hb dX12_optional_54 (by decide) (fun c_22 => ?_) (fun c_22 => ?_)
        · skip
          have h_23 := s_le (rfl : (i 36 55).toInt = _) (rfl : (j1 36 54).toInt = _) c_22
          refine lv_iconst (v := 0) hx hb dX12_optional_71 (by decide) ?_
          have hV_24 : ((0 : Int32).toInt = 1 ∧ opL (lnL (i 379) ((i 36 54).toInt + 1) (i 36 55).toInt) 0 = some (lnL (i 379) (j1 36 54).toInt (i 36 55).toInt) ∧ (i 36 54).toInt + 2 ≤ (j1 36 54).toInt ∧ (j1 36 54).toInt ≤ (i 36 55).toInt ∧ (j1 36 45).toInt = (i 36 45).toInt + 1 ∧ (j1 36 49).toInt = (i 36 49).toInt + 1 ∧ (j1 36 52).toInt - (i 36 52).toInt ≤ (j1 36 54).toInt - (i 36 54).toInt ∧ c4 j1 = c4 i ∧ exI j1) ∨ ((0 : Int32).toInt = 0 ∧ opL (lnL (i 379) ((i 36 54).toInt + 1) (i 36 55).toInt) 0 = none) := (Or.inr ⟨by rfl, hi_lp_17_1.trans (op_no (by omega) (by omega))⟩)
          exact sj_zret hx hb hr hlocks (by decide +kernel) hS j1 ⟨hO_j1, (fun a b ha => ((hfr_j1 a b (by omega)).trans ((hfr_9 a b (by omega)).trans (up2_o _ _ (by omega))))), ⟨by decide, by decide⟩, hV_24⟩ hH (sj_Knil hK) (Nat.le_of_ble_eq_true rfl) (Nat.le_of_ble_eq_true rfl) dX12_optional_72
        · skip
          have h_25 := s_nle (rfl : (i 36 55).toInt = _) (rfl : (j1 36 54).toInt = _) c_22
          refine lv_aload_n hx hb dX12_optional_57 rfl (lv_at hl 0 rfl) ?_
          refine h_getr (ci := 12) (C := RX12) (F := TX12) (N := 86) hx hb hts in12 hown hK hH (by decide) (rfl : kd 36 = 12) (by decide) rfl 51 (by decide) wd2 (fun _ h9 => h9) (by decide) rfl (t := 410) (hR 36 51 rfl) (by decide) dX12_optional_58 ?_
          refine lv_aload_n hx hb dX12_optional_61 rfl (lv_at hl 0 rfl) ?_
          have bx_26 : (0 : Int) ≤ (im_8 36 49).toInt ∧ (im_8 36 49).toInt ≤ 64 := hO_10 36 49
          refine h_geti (ci := 12) (C := RX12) (F := TX12) (N := 86) hx hb hts in12 hown hK hH (by decide) (rfl : kd 36 = 12) (by decide) rfl 49 (by decide) wd3 (fun _ h9 => h9) (by decide) rfl dX12_optional_62 ?_
          refine sj_i (y := (im_8 36 49)) (hfr_j1 36 49 (by omega)) ?_
          refine lv_iconst (v := 1) hx hb dX12_optional_65 (by decide) ?_
          refine lv_isub hx hb dX12_optional_66 ?_
          obtain ⟨z_27, ez_27, hz_27⟩ := s_sub (rfl : (im_8 36 49).toInt = _) (show (1 : Int32).toInt = 1 from rfl) (by omega) (by omega)
          refine sj_i ez_27 ?_
          have hls_28 : lsz j1 = ((j1 410 ((im_8 36 49).toInt - 1).toNat) : Int32).toInt := by unfold lsz; rw [show j1 36 49 = (im_8 36 49) from (hfr_j1 36 49 (by omega))]; try exact congrArg Int32.toInt (rfl)
          refine h_iald hx hb hK hH (by decide) (rfl : kd 410 = 13) (s_vin (N := 64) (rfl : z_27.toInt = _) (rfl : ln 410 = 64) (by omega) (by omega)) dX12_optional_67 ?_
          have ek_29 : z_27.toNatClampNeg = ((im_8 36 49).toInt - 1).toNat := (s_cl (show z_27.toInt = (im_8 36 49).toInt - 1 by omega))
          refine sj_i (y := (j1 410 ((im_8 36 49).toInt - 1).toNat)) (by rw [ek_29]) ?_
          refine lv_if_ne (tgt := 73) hx hb dX12_optional_68 (by decide) (fun c_30 => ?_) (fun c_30 => ?_)
          · skip
            have h_31 := s_ne (rfl : (j1 410 ((im_8 36 49).toInt - 1).toNat).toInt = _) (show (0 : Int32).toInt = 0 from rfl) c_30
            refine lv_aload_n hx hb dX12_optional_73 rfl (lv_at hl 0 rfl) ?_
            refine lv_dup hx hb dX12_optional_74 rfl ?_
            refine h_geti (ci := 12) (C := RX12) (F := TX12) (N := 86) hx hb hts in12 hown hK hH (by decide) (rfl : kd 36 = 12) (by decide) rfl 54 (by decide) wd0 (fun _ h9 => h9) (by decide) rfl dX12_optional_75 ?_
            refine lv_iconst (v := 1) hx hb dX12_optional_78 (by decide) ?_
            refine lv_iadd hx hb dX12_optional_79 ?_
            obtain ⟨z_32, ez_32, hz_32⟩ := s_add (rfl : (j1 36 54).toInt = _) (show (1 : Int32).toInt = 1 from rfl) (by omega) (by omega)
            refine sj_i ez_32 ?_
            have hO_33 := okp hO_j1 (n := 36) (k := 54) (v := z_32) (show (0 : Int) ≤ (z_32 : Int32).toInt ∧ (z_32 : Int32).toInt ≤ 720 from ⟨by omega, by omega⟩)
            refine h_puti (ty := .int) (ci := 12) (C := RX12) (F := TX12) (N := 86) hx hb hts in12 tyX12 tyX12_ok nmX12 hown hK hH hS (by decide) (rfl : kd 36 = 12) (by decide) rfl 54 (by decide) wd0 (fun _ h9 => h9) rfl (by decide +kernel) rfl rfl (by decide) rfl dX12_optional_80 (fun H locs hH hS => ?_)
            refine lv_aload_n hx hb dX12_optional_83 rfl (lv_at hl 0 rfl) ?_
            refine lv_iconst (v := 2) hx hb dX12_optional_84 (by decide) ?_
            refine lv_aload_n hx hb dX12_optional_85 rfl (lv_at hl 0 rfl) ?_
            refine h_geti (ci := 12) (C := RX12) (F := TX12) (N := 86) hx hb hts in12 hown hK hH (by decide) (rfl : kd 36 = 12) (by decide) rfl 49 (by decide) wd3 (fun _ h9 => h9) (by decide) rfl dX12_optional_86 ?_
            refine sj_i (y := (im_8 36 49)) ((up2_k _ _ (by decide)).trans (hfr_j1 36 49 (by omega))) ?_
            refine lv_iconst (v := 1) hx hb dX12_optional_89 (by decide) ?_
            refine lv_isub hx hb dX12_optional_90 ?_
            obtain ⟨z_34, ez_34, hz_34⟩ := s_sub (rfl : (im_8 36 49).toInt = _) (show (1 : Int32).toInt = 1 from rfl) (by omega) (by omega)
            refine sj_i ez_34 ?_
            refine lv_iconst (v := 1) hx hb dX12_optional_91 (by decide) ?_
            have hl_35 : (2 : Int32).toInt = 2 := rfl
            have hl_36 : (1 : Int32).toInt = 1 := rfl
            have hwt_37 : ((up2 j1 36 54 z_32) 36 45).toInt = ((i 36 45) : Int32).toInt := congrArg Int32.toInt ((up2_k _ _ (by decide)).trans ((hfr_j1 36 45 (by omega)).trans ((hfr_9 36 45 (by omega)).trans (up2_k _ _ (by decide)))))
            have hwt_38 : ((up2 j1 36 54 z_32) 36 49).toInt = ((im_8 36 49) : Int32).toInt := congrArg Int32.toInt ((up2_k _ _ (by decide)).trans (hfr_j1 36 49 (by omega)))
            refine x_callv (va_runV (As := [.int 2, .int z_34, .int 1]) (rest := []) ⟨hx, hb, hml, hown, hts⟩ (m_addPart l D g ka ad (up2 j1 36 54 z_32) r L d 2 z_34 1 hO_33 hR H.size (by first | omega | decide) (exI_fr hi_lp_17_2 (up2_o _ _ (by omega)) (up2_o _ _ (by omega)) (up2_o _ _ (by omega)) (fun a h1 h2 => funext fun b => (up2_o _ _ (by omega)))) (by unfold pOk; omega)) (cwV 3 hts gX12_optional_X12_addPart rfl rfl rfl (by decide +kernel) ⟨(Nat.le_of_ble_eq_true rfl), (Nat.le_of_ble_eq_true rfl)⟩) (x_preV (q := (RX12, TX12, 86)) hH hK (q_obj (by decide) (rfl : kd 36 = 12) (by decide)) rfl gxb (gxw hE hS (x_F hH hS hA))) rfl rfl hl.1 rfl (lv_room (Nat.le_of_ble_eq_true rfl)) dX12_optional_92 ⟨(Nat.le_of_ble_eq_true rfl), (Nat.le_of_ble_eq_true rfl)⟩) hH hS hA rfl rfl (fun im_41 H locs hw_40 hH hS => ?_)
            have hH : sj_H D A (hwc g ka im_41 r L d) H := hH
            obtain ⟨hO_43, hfr_42, hx2_44, hx2_45, hx2_46⟩ := hw_40
            have hap_47 := hx2_44
            have hc49 : c4 im_41 = c4 (up2 j1 36 54 z_32) := (hx2_46.resolve_left (fun q => by have := q.1; omega)).2
            refine lv_iconst (v := 1) hx hb dX12_optional_95 (by decide) ?_
            have hp_48 : (im_41 36 54).toInt = (z_32 : Int32).toInt := congrArg Int32.toInt (((hfr_42 36 54 (by omega)).trans (up2_at _ _ _ _)))
            have hp_49 : (im_41 36 52).toInt = ((j1 36 52) : Int32).toInt := congrArg Int32.toInt (((hfr_42 36 52 (by omega)).trans (up2_k _ _ (by decide))))
            have hp_50 : (im_41 36 49).toInt = ((im_8 36 49) : Int32).toInt := congrArg Int32.toInt (((hfr_42 36 49 (by omega)).trans ((up2_k _ _ (by decide)).trans (hfr_j1 36 49 (by omega)))))
            have hp_51 : (im_41 36 45).toInt = ((im_41 36 45) : Int32).toInt := rfl
            have hV_52 : ((1 : Int32).toInt = 1 ∧ opL (lnL (i 379) ((i 36 54).toInt + 1) (i 36 55).toInt) 0 = some (lnL (i 379) (im_41 36 54).toInt (i 36 55).toInt) ∧ (i 36 54).toInt + 2 ≤ (im_41 36 54).toInt ∧ (im_41 36 54).toInt ≤ (i 36 55).toInt ∧ (im_41 36 45).toInt = (i 36 45).toInt + 1 ∧ (im_41 36 49).toInt = (i 36 49).toInt + 1 ∧ (im_41 36 52).toInt - (i 36 52).toInt ≤ (im_41 36 54).toInt - (i 36 54).toInt ∧ c4 im_41 = c4 i ∧ exI im_41) ∨ ((1 : Int32).toInt = 0 ∧ opL (lnL (i 379) ((i 36 54).toInt + 1) (i 36 55).toInt) 0 = none) := (Or.inl ⟨by rfl, by rw [hi_lp_17_1, op_close (by omega) (by omega) (by omega), if_neg (by omega), show (im_41 36 54).toInt = (j1 36 54).toInt + 1 by omega], by omega, by omega, by omega, by omega, by omega, (hc49.trans (c4_fr ((up2_o _ _ (by omega)).trans ((hfr_j1 36 45 (by omega)).trans ((hfr_9 36 45 (by omega)).trans (up2_o _ _ (by omega))))) (funext fun b => ((up2_o _ _ (by omega)).trans ((hfr_j1 406 b (by omega)).trans ((hfr_9 406 b (by omega)).trans (up2_o _ _ (by omega)))))))), hx2_45⟩)
            exact sj_zret hx hb hr hlocks (by decide +kernel) hS im_41 ⟨hO_43, (fun a b ha => ((hfr_42 a b (by omega)).trans ((up2_o _ _ (by omega)).trans ((hfr_j1 a b (by omega)).trans ((hfr_9 a b (by omega)).trans (up2_o _ _ (by omega))))))), ⟨by decide, by decide⟩, hV_52⟩ hH (sj_Knil hK) (Nat.le_of_ble_eq_true rfl) (Nat.le_of_ble_eq_true rfl) dX12_optional_96
          · skip
            have h_53 := s_eq (rfl : (j1 410 ((im_8 36 49).toInt - 1).toNat).toInt = _) (show (0 : Int32).toInt = 0 from rfl) c_30
            refine lv_iconst (v := 0) hx hb dX12_optional_71 (by decide) ?_
            have hV_54 : ((0 : Int32).toInt = 1 ∧ opL (lnL (i 379) ((i 36 54).toInt + 1) (i 36 55).toInt) 0 = some (lnL (i 379) (j1 36 54).toInt (i 36 55).toInt) ∧ (i 36 54).toInt + 2 ≤ (j1 36 54).toInt ∧ (j1 36 54).toInt ≤ (i 36 55).toInt ∧ (j1 36 45).toInt = (i 36 45).toInt + 1 ∧ (j1 36 49).toInt = (i 36 49).toInt + 1 ∧ (j1 36 52).toInt - (i 36 52).toInt ≤ (j1 36 54).toInt - (i 36 54).toInt ∧ c4 j1 = c4 i ∧ exI j1) ∨ ((0 : Int32).toInt = 0 ∧ opL (lnL (i 379) ((i 36 54).toInt + 1) (i 36 55).toInt) 0 = none) := (Or.inr ⟨by rfl, hi_lp_17_1.trans (op_no (by omega) (by omega))⟩)
            exact sj_zret hx hb hr hlocks (by decide +kernel) hS j1 ⟨hO_j1, (fun a b ha => ((hfr_j1 a b (by omega)).trans ((hfr_9 a b (by omega)).trans (up2_o _ _ (by omega))))), ⟨by decide, by decide⟩, hV_54⟩ hH (sj_Knil hK) (Nat.le_of_ble_eq_true rfl) (Nat.le_of_ble_eq_true rfl) dX12_optional_72
      · skip
        have h_55 := s_nle (rfl : (i 36 55).toInt = _) (rfl : (j1 36 54).toInt = _) c_20
        refine lv_aload_n hx hb dX12_optional_25 rfl (lv_at hl 1 rfl) ?_
        refine lv_aload_n hx hb dX12_optional_26 rfl (lv_at hl 0 rfl) ?_
        refine h_geti (ci := 12) (C := RX12) (F := TX12) (N := 86) hx hb hts in12 hown hK hH (by decide) (rfl : kd 36 = 12) (by decide) rfl 54 (by decide) wd0 (fun _ h9 => h9) (by decide) rfl dX12_optional_27 ?_
        have bx_56 : (0 : Int) ≤ (i 379 ((j1 36 54).toInt).toNat).toInt ∧ (i 379 ((j1 36 54).toInt).toNat).toInt ≤ 65535 := hO 379 ((j1 36 54).toInt).toNat
        refine h_cald hx hb hK hH (by decide) (rfl : kd 379 = 14) (s_vin (N := 480) (rfl : (j1 36 54).toInt = _) (rfl : ln 379 = 480) (by omega) (by omega)) dX12_optional_30 ?_
        have ek_57 : (j1 36 54).toNatClampNeg = ((j1 36 54).toInt).toNat := (s_cl (show (j1 36 54).toInt = (j1 36 54).toInt by omega))
        refine sj_i (y := (i 379 ((j1 36 54).toInt).toNat)) (by rw [ek_57]; exact ((hfr_j1 379 ((j1 36 54).toInt).toNat (by omega)).trans ((hfr_9 379 ((j1 36 54).toInt).toNat (by omega)).trans (congrFun (up2_n _ _ (by decide)) _)))) ?_
        refine lv_bipush (v := 41) hx hb dX12_optional_31 (by decide) ?_
        refine lv_icmp_eq (tgt := 46) hx hb dX12_optional_33 (by decide) (fun c_58 => ?_) (fun c_58 => ?_)
        · skip
          have h_59 := s_eq (rfl : (i 379 ((j1 36 54).toInt).toNat).toInt = _) (show (41 : Int32).toInt = 41 from rfl) c_58
          refine lv_aload_n hx hb dX12_optional_46 rfl (lv_at hl 0 rfl) ?_
          refine h_geti (ci := 12) (C := RX12) (F := TX12) (N := 86) hx hb hts in12 hown hK hH (by decide) (rfl : kd 36 = 12) (by decide) rfl 54 (by decide) wd0 (fun _ h9 => h9) (by decide) rfl dX12_optional_47 ?_
          refine lv_aload_n hx hb dX12_optional_50 rfl (lv_at hl 0 rfl) ?_
          refine h_geti (ci := 12) (C := RX12) (F := TX12) (N := 86) hx hb hts in12 hown hK hH (by decide) (rfl : kd 36 = 12) (by decide) rfl 55 (by decide) wd1 (fun _ h9 => h9) (by decide) rfl dX12_optional_51 ?_
          refine sj_i (y := (i 36 55)) ((hfr_j1 36 55 (by omega)).trans ((hfr_9 36 55 (by omega)).trans (up2_k _ _ (by decide)))) ?_
          refine lv_icmp_ge (tgt := 71) hx hb dX12_optional_54 (by decide) (fun c_60 => ?_) (fun c_60 => ?_)
          · skip
            have h_61 := s_le (rfl : (i 36 55).toInt = _) (rfl : (j1 36 54).toInt = _) c_60
            refine lv_iconst (v := 0) hx hb dX12_optional_71 (by decide) ?_
            have hV_62 : ((0 : Int32).toInt = 1 ∧ opL (lnL (i 379) ((i 36 54).toInt + 1) (i 36 55).toInt) 0 = some (lnL (i 379) (j1 36 54).toInt (i 36 55).toInt) ∧ (i 36 54).toInt + 2 ≤ (j1 36 54).toInt ∧ (j1 36 54).toInt ≤ (i 36 55).toInt ∧ (j1 36 45).toInt = (i 36 45).toInt + 1 ∧ (j1 36 49).toInt = (i 36 49).toInt + 1 ∧ (j1 36 52).toInt - (i 36 52).toInt ≤ (j1 36 54).toInt - (i 36 54).toInt ∧ c4 j1 = c4 i ∧ exI j1) ∨ ((0 : Int32).toInt = 0 ∧ opL (lnL (i 379) ((i 36 54).toInt + 1) (i 36 55).toInt) 0 = none) := (Or.inr ⟨by rfl, hi_lp_17_1.trans (op_no (by omega) (by omega))⟩)
            exact sj_zret hx hb hr hlocks (by decide +kernel) hS j1 ⟨hO_j1, (fun a b ha => ((hfr_j1 a b (by omega)).trans ((hfr_9 a b (by omega)).trans (up2_o _ _ (by omega))))), ⟨by decide, by decide⟩, hV_62⟩ hH (sj_Knil hK) (Nat.le_of_ble_eq_true rfl) (Nat.le_of_ble_eq_true rfl) dX12_optional_72
          · skip
            have h_63 := s_nle (rfl : (i 36 55).toInt = _) (rfl : (j1 36 54).toInt = _) c_60
            refine lv_aload_n hx hb dX12_optional_57 rfl (lv_at hl 0 rfl) ?_
            refine h_getr (ci := 12) (C := RX12) (F := TX12) (N := 86) hx hb hts in12 hown hK hH (by decide) (rfl : kd 36 = 12) (by decide) rfl 51 (by decide) wd2 (fun _ h9 => h9) (by decide) rfl (t := 410) (hR 36 51 rfl) (by decide) dX12_optional_58 ?_
            refine lv_aload_n hx hb dX12_optional_61 rfl (lv_at hl 0 rfl) ?_
            have bx_64 : (0 : Int) ≤ (im_8 36 49).toInt ∧ (im_8 36 49).toInt ≤ 64 := hO_10 36 49
            refine h_geti (ci := 12) (C := RX12) (F := TX12) (N := 86) hx hb hts in12 hown hK hH (by decide) (rfl : kd 36 = 12) (by decide) rfl 49 (by decide) wd3 (fun _ h9 => h9) (by decide) rfl dX12_optional_62 ?_
            refine sj_i (y := (im_8 36 49)) (hfr_j1 36 49 (by omega)) ?_
            refine lv_iconst (v := 1) hx hb dX12_optional_65 (by decide) ?_
            refine lv_isub hx hb dX12_optional_66 ?_
            obtain ⟨z_65, ez_65, hz_65⟩ := s_sub (rfl : (im_8 36 49).toInt = _) (show (1 : Int32).toInt = 1 from rfl) (by omega) (by omega)
            refine sj_i ez_65 ?_
            have hls_66 : lsz j1 = ((j1 410 ((im_8 36 49).toInt - 1).toNat) : Int32).toInt := by unfold lsz; rw [show j1 36 49 = (im_8 36 49) from (hfr_j1 36 49 (by omega))]; try exact congrArg Int32.toInt (rfl)
            refine h_iald hx hb hK hH (by decide) (rfl : kd 410 = 13) (s_vin (N := 64) (rfl : z_65.toInt = _) (rfl : ln 410 = 64) (by omega) (by omega)) dX12_optional_67 ?_
            have ek_67 : z_65.toNatClampNeg = ((im_8 36 49).toInt - 1).toNat := (s_cl (show z_65.toInt = (im_8 36 49).toInt - 1 by omega))
            refine sj_i (y := (j1 410 ((im_8 36 49).toInt - 1).toNat)) (by rw [ek_67]) ?_
            refine lv_if_ne (tgt := 73) hx hb dX12_optional_68 (by decide) (fun c_68 => ?_) (fun c_68 => ?_)
            · skip
              have h_69 := s_ne (rfl : (j1 410 ((im_8 36 49).toInt - 1).toNat).toInt = _) (show (0 : Int32).toInt = 0 from rfl) c_68
              refine lv_aload_n hx hb dX12_optional_73 rfl (lv_at hl 0 rfl) ?_
              refine lv_dup hx hb dX12_optional_74 rfl ?_
              refine h_geti (ci := 12) (C := RX12) (F := TX12) (N := 86) hx hb hts in12 hown hK hH (by decide) (rfl : kd 36 = 12) (by decide) rfl 54 (by decide) wd0 (fun _ h9 => h9) (by decide) rfl dX12_optional_75 ?_
              refine lv_iconst (v := 1) hx hb dX12_optional_78 (by decide) ?_
              refine lv_iadd hx hb dX12_optional_79 ?_
              obtain ⟨z_70, ez_70, hz_70⟩ := s_add (rfl : (j1 36 54).toInt = _) (show (1 : Int32).toInt = 1 from rfl) (by omega) (by omega)
              refine sj_i ez_70 ?_
              have hO_71 := okp hO_j1 (n := 36) (k := 54) (v := z_70) (show (0 : Int) ≤ (z_70 : Int32).toInt ∧ (z_70 : Int32).toInt ≤ 720 from ⟨by omega, by omega⟩)
              refine h_puti (ty := .int) (ci := 12) (C := RX12) (F := TX12) (N := 86) hx hb hts in12 tyX12 tyX12_ok nmX12 hown hK hH hS (by decide) (rfl : kd 36 = 12) (by decide) rfl 54 (by decide) wd0 (fun _ h9 => h9) rfl (by decide +kernel) rfl rfl (by decide) rfl dX12_optional_80 (fun H locs hH hS => ?_)
              refine lv_aload_n hx hb dX12_optional_83 rfl (lv_at hl 0 rfl) ?_
              refine lv_iconst (v := 2) hx hb dX12_optional_84 (by decide) ?_
              refine lv_aload_n hx hb dX12_optional_85 rfl (lv_at hl 0 rfl) ?_
              refine h_geti (ci := 12) (C := RX12) (F := TX12) (N := 86) hx hb hts in12 hown hK hH (by decide) (rfl : kd 36 = 12) (by decide) rfl 49 (by decide) wd3 (fun _ h9 => h9) (by decide) rfl dX12_optional_86 ?_
              refine sj_i (y := (im_8 36 49)) ((up2_k _ _ (by decide)).trans (hfr_j1 36 49 (by omega))) ?_
              refine lv_iconst (v := 1) hx hb dX12_optional_89 (by decide) ?_
              refine lv_isub hx hb dX12_optional_90 ?_
              obtain ⟨z_72, ez_72, hz_72⟩ := s_sub (rfl : (im_8 36 49).toInt = _) (show (1 : Int32).toInt = 1 from rfl) (by omega) (by omega)
              refine sj_i ez_72 ?_
              refine lv_iconst (v := 1) hx hb dX12_optional_91 (by decide) ?_
              have hl_73 : (2 : Int32).toInt = 2 := rfl
              have hl_74 : (1 : Int32).toInt = 1 := rfl
              have hwt_75 : ((up2 j1 36 54 z_70) 36 45).toInt = ((i 36 45) : Int32).toInt := congrArg Int32.toInt ((up2_k _ _ (by decide)).trans ((hfr_j1 36 45 (by omega)).trans ((hfr_9 36 45 (by omega)).trans (up2_k _ _ (by decide)))))
              have hwt_76 : ((up2 j1 36 54 z_70) 36 49).toInt = ((im_8 36 49) : Int32).toInt := congrArg Int32.toInt ((up2_k _ _ (by decide)).trans (hfr_j1 36 49 (by omega)))
              refine x_callv (va_runV (As := [.int 2, .int z_72, .int 1]) (rest := []) ⟨hx, hb, hml, hown, hts⟩ (m_addPart l D g ka ad (up2 j1 36 54 z_70) r L d 2 z_72 1 hO_71 hR H.size (by first | omega | decide) (exI_fr hi_lp_17_2 (up2_o _ _ (by omega)) (up2_o _ _ (by omega)) (up2_o _ _ (by omega)) (fun a h1 h2 => funext fun b => (up2_o _ _ (by omega)))) (by unfold pOk; omega)) (cwV 3 hts gX12_optional_X12_addPart rfl rfl rfl (by decide +kernel) ⟨(Nat.le_of_ble_eq_true rfl), (Nat.le_of_ble_eq_true rfl)⟩) (x_preV (q := (RX12, TX12, 86)) hH hK (q_obj (by decide) (rfl : kd 36 = 12) (by decide)) rfl gxb (gxw hE hS (x_F hH hS hA))) rfl rfl hl.1 rfl (lv_room (Nat.le_of_ble_eq_true rfl)) dX12_optional_92 ⟨(Nat.le_of_ble_eq_true rfl), (Nat.le_of_ble_eq_true rfl)⟩) hH hS hA rfl rfl (fun im_79 H locs hw_78 hH hS => ?_)
              have hH : sj_H D A (hwc g ka im_79 r L d) H := hH
              obtain ⟨hO_81, hfr_80, hx2_82, hx2_83, hx2_84⟩ := hw_78
              have hap_85 := hx2_82
              have hc49 : c4 im_79 = c4 (up2 j1 36 54 z_70) := (hx2_84.resolve_left (fun q => by have := q.1; omega)).2
              refine lv_iconst (v := 1) hx hb dX12_optional_95 (by decide) ?_
              have hp_86 : (im_79 36 54).toInt = (z_70 : Int32).toInt := congrArg Int32.toInt (((hfr_80 36 54 (by omega)).trans (up2_at _ _ _ _)))
              have hp_87 : (im_79 36 52).toInt = ((j1 36 52) : Int32).toInt := congrArg Int32.toInt (((hfr_80 36 52 (by omega)).trans (up2_k _ _ (by decide))))
              have hp_88 : (im_79 36 49).toInt = ((im_8 36 49) : Int32).toInt := congrArg Int32.toInt (((hfr_80 36 49 (by omega)).trans ((up2_k _ _ (by decide)).trans (hfr_j1 36 49 (by omega)))))
              have hp_89 : (im_79 36 45).toInt = ((im_79 36 45) : Int32).toInt := rfl
              have hV_90 : ((1 : Int32).toInt = 1 ∧ opL (lnL (i 379) ((i 36 54).toInt + 1) (i 36 55).toInt) 0 = some (lnL (i 379) (im_79 36 54).toInt (i 36 55).toInt) ∧ (i 36 54).toInt + 2 ≤ (im_79 36 54).toInt ∧ (im_79 36 54).toInt ≤ (i 36 55).toInt ∧ (im_79 36 45).toInt = (i 36 45).toInt + 1 ∧ (im_79 36 49).toInt = (i 36 49).toInt + 1 ∧ (im_79 36 52).toInt - (i 36 52).toInt ≤ (im_79 36 54).toInt - (i 36 54).toInt ∧ c4 im_79 = c4 i ∧ exI im_79) ∨ ((1 : Int32).toInt = 0 ∧ opL (lnL (i 379) ((i 36 54).toInt + 1) (i 36 55).toInt) 0 = none) := (Or.inl ⟨by rfl, by rw [hi_lp_17_1, op_close (by omega) (by omega) (by omega), if_neg (by omega), show (im_79 36 54).toInt = (j1 36 54).toInt + 1 by omega], by omega, by omega, by omega, by omega, by omega, (hc49.trans (c4_fr ((up2_o _ _ (by omega)).trans ((hfr_j1 36 45 (by omega)).trans ((hfr_9 36 45 (by omega)).trans (up2_o _ _ (by omega))))) (funext fun b => ((up2_o _ _ (by omega)).trans ((hfr_j1 406 b (by omega)).trans ((hfr_9 406 b (by omega)).trans (up2_o _ _ (by omega)))))))), hx2_83⟩)
              exact sj_zret hx hb hr hlocks (by decide +kernel) hS im_79 ⟨hO_81, (fun a b ha => ((hfr_80 a b (by omega)).trans ((up2_o _ _ (by omega)).trans ((hfr_j1 a b (by omega)).trans ((hfr_9 a b (by omega)).trans (up2_o _ _ (by omega))))))), ⟨by decide, by decide⟩, hV_90⟩ hH (sj_Knil hK) (Nat.le_of_ble_eq_true rfl) (Nat.le_of_ble_eq_true rfl) dX12_optional_96
            · skip
              have h_91 := s_eq (rfl : (j1 410 ((im_8 36 49).toInt - 1).toNat).toInt = _) (show (0 : Int32).toInt = 0 from rfl) c_68
              refine lv_iconst (v := 0) hx hb dX12_optional_71 (by decide) ?_
              have hV_92 : ((0 : Int32).toInt = 1 ∧ opL (lnL (i 379) ((i 36 54).toInt + 1) (i 36 55).toInt) 0 = some (lnL (i 379) (j1 36 54).toInt (i 36 55).toInt) ∧ (i 36 54).toInt + 2 ≤ (j1 36 54).toInt ∧ (j1 36 54).toInt ≤ (i 36 55).toInt ∧ (j1 36 45).toInt = (i 36 45).toInt + 1 ∧ (j1 36 49).toInt = (i 36 49).toInt + 1 ∧ (j1 36 52).toInt - (i 36 52).toInt ≤ (j1 36 54).toInt - (i 36 54).toInt ∧ c4 j1 = c4 i ∧ exI j1) ∨ ((0 : Int32).toInt = 0 ∧ opL (lnL (i 379) ((i 36 54).toInt + 1) (i 36 55).toInt) 0 = none) := (Or.inr ⟨by rfl, hi_lp_17_1.trans (op_no (by omega) (by omega))⟩)
              exact sj_zret hx hb hr hlocks (by decide +kernel) hS j1 ⟨hO_j1, (fun a b ha => ((hfr_j1 a b (by omega)).trans ((hfr_9 a b (by omega)).trans (up2_o _ _ (by omega))))), ⟨by decide, by decide⟩, hV_92⟩ hH (sj_Knil hK) (Nat.le_of_ble_eq_true rfl) (Nat.le_of_ble_eq_true rfl) dX12_optional_72
        · skip
          have h_93 := s_ne (rfl : (i 379 ((j1 36 54).toInt).toNat).toInt = _) (show (41 : Int32).toInt = 41 from rfl) c_58
          refine lv_aload_n hx hb dX12_optional_36 rfl (lv_at hl 0 rfl) ?_
          refine lv_aload_n hx hb dX12_optional_37 rfl (lv_at hl 1 rfl) ?_
          have hwt_94 : (j1 36 49).toInt = ((im_8 36 49) : Int32).toInt := congrArg Int32.toInt (hfr_j1 36 49 (by omega))
          have hwt_95 : (j1 36 55).toInt = ((i 36 55) : Int32).toInt := congrArg Int32.toInt ((hfr_j1 36 55 (by omega)).trans ((hfr_9 36 55 (by omega)).trans (up2_k _ _ (by decide))))
          refine x_calli (va_runV (As := [.ref (g 379)]) (rest := []) ⟨hx, hb, hml, hown, hts⟩ (m_takeOne_T l D g ka ad j1 r L d  hO_j1 hR H.size (by first | omega | decide) (by first | omega | decide) (by first | omega | decide) (by first | omega | decide) hi_lp_17_2) (cwV 1 hts gX12_optional_X12_takeOne rfl rfl rfl (by decide +kernel) ⟨(Nat.le_of_ble_eq_true rfl), (Nat.le_of_ble_eq_true rfl)⟩) (x_preV (q := (RX12, TX12, 86)) hH hK (q_obj (by decide) (rfl : kd 36 = 12) (by decide)) rfl gxb (gxw hE hS (x_F hH hS hA))) rfl rfl hl.1 rfl (lv_room (Nat.le_of_ble_eq_true rfl)) dX12_optional_38 ⟨(Nat.le_of_ble_eq_true rfl), (Nat.le_of_ble_eq_true rfl)⟩) hH hS hA rfl rfl (fun r_96 im_98 H locs hw_97 hH hS => ?_)
          have hH : sj_H D A (hwc g ka im_98 r L d) H := hH
          obtain ⟨hO_100, hfr_99, hr_101, hx2_102⟩ := hw_97
          have hr_101 : (0 : Int) ≤ r_96.toInt ∧ r_96.toInt ≤ 1 := hr_101
          have hct : (j1 379 (j1 36 54).toInt.toNat).toInt = (i 379 (j1 36 54).toInt.toNat).toInt := congrArg Int32.toInt (((hfr_j1 379 (j1 36 54).toInt.toNat (by omega)).trans ((hfr_9 379 (j1 36 54).toInt.toNat (by omega)).trans (up2_o _ _ (by omega)))))
          have hju : (j1 36 55).toInt = (i 36 55).toInt := congrArg Int32.toInt (((hfr_j1 36 55 (by omega)).trans ((hfr_9 36 55 (by omega)).trans (up2_o _ _ (by omega)))))
          refine lv_if_ne (tgt := 14) hx hb dX12_optional_41 (by decide) (fun c_103 => ?_) (fun c_103 => ?_)
          · skip
            have h_104 := s_ne (rfl : r_96.toInt = _) (show (0 : Int32).toInt = 0 from rfl) c_103
            have htk := hx2_102.resolve_right (fun q => by have := q.1; omega)
            have htk2 := htk.2.1
            have htk3 := htk.2.2.1
            have htk4 := htk.2.2.2.1
            have hp_105 : (im_98 36 54).toInt = ((im_98 36 54) : Int32).toInt := rfl
            have hp_106 : (im_98 36 52).toInt = ((im_98 36 52) : Int32).toInt := rfl
            have hp_107 : (im_98 36 49).toInt = ((im_8 36 49) : Int32).toInt := congrArg Int32.toInt (((hfr_99 36 49 (by omega)).trans (hfr_j1 36 49 (by omega))))
            have hp_108 : (im_98 36 54).toInt = ((im_98 36 54) : Int32).toInt := rfl
            exact ih_lp_17  _ _ _ ls (by omega) (by omega) (hi_lp_17_1.trans (op_st (by omega) (by omega) (by omega) (by omega) htk4)) htk.2.2.2.2.2 hO_100 (fun a b ha => ((hfr_99 a b (by omega)).trans (hfr_j1 a b (by omega)))) (lv_sub hl [0, 1] rfl) hH hS
          · skip
            have h_109 := s_eq (rfl : r_96.toInt = _) (show (0 : Int32).toInt = 0 from rfl) c_103
            have htn := (hx2_102.resolve_left (fun q => by have := q.1; omega)).2
            have htn1 := htn.1
            have htn2 := htn.2
            refine lv_iconst (v := 0) hx hb dX12_optional_44 (by decide) ?_
            have hV_110 : ((0 : Int32).toInt = 1 ∧ opL (lnL (i 379) ((i 36 54).toInt + 1) (i 36 55).toInt) 0 = some (lnL (i 379) (im_98 36 54).toInt (i 36 55).toInt) ∧ (i 36 54).toInt + 2 ≤ (im_98 36 54).toInt ∧ (im_98 36 54).toInt ≤ (i 36 55).toInt ∧ (im_98 36 45).toInt = (i 36 45).toInt + 1 ∧ (im_98 36 49).toInt = (i 36 49).toInt + 1 ∧ (im_98 36 52).toInt - (i 36 52).toInt ≤ (im_98 36 54).toInt - (i 36 54).toInt ∧ c4 im_98 = c4 i ∧ exI im_98) ∨ ((0 : Int32).toInt = 0 ∧ opL (lnL (i 379) ((i 36 54).toInt + 1) (i 36 55).toInt) 0 = none) := (Or.inr ⟨by rfl, by rw [hi_lp_17_1]; exact op_escE (by omega) (by omega) (by omega) (by omega)⟩)
            exact sj_zret hx hb hr hlocks (by decide +kernel) hS im_98 ⟨hO_100, (fun a b ha => ((hfr_99 a b (by omega)).trans ((hfr_j1 a b (by omega)).trans ((hfr_9 a b (by omega)).trans (up2_o _ _ (by omega)))))), ⟨by decide, by decide⟩, hV_110⟩ hH (sj_Knil hK) (Nat.le_of_ble_eq_true rfl) (Nat.le_of_ble_eq_true rfl) dX12_optional_45
  have hp_111 : (im_8 36 54).toInt = (z_2 : Int32).toInt := congrArg Int32.toInt (((hfr_9 36 54 (by omega)).trans (up2_at _ _ _ _)))
  have hp_112 : (im_8 36 52).toInt = ((i 36 52) : Int32).toInt := congrArg Int32.toInt (((hfr_9 36 52 (by omega)).trans (up2_k _ _ (by decide))))
  have hp_113 : (im_8 36 49).toInt = ((im_8 36 49) : Int32).toInt := rfl
  have hp_114 : (im_8 36 54).toInt = (z_2 : Int32).toInt := congrArg Int32.toInt (((hfr_9 36 54 (by omega)).trans (up2_at _ _ _ _)))
  exact lp_17 _  _ _ _ ls (Nat.lt_succ_self _) (by omega) (by rw [show (im_8 36 54).toInt = (i 36 54).toInt + 1 by omega, hx2_13]) hx2_11 hO_10 (fun a b ha => rfl) (lv_sub hl [0, 1] rfl) hH hS
set_option maxHeartbeats 2000000 in
set_option maxRecDepth 100000 in
theorem m_optional_W (l : Launch) (D : va_G) (g : Nat → Nat) (ka : Nat → ClassId) (ad : Nat → Nat) (i : Nat → Nat → Int32) (r : Nat → Nat → Nat) (L : Nat → Nat → Int64) (d : Nat → Nat → UInt64)  (hO : OkI i) (hR : RS r) (sz : Nat) (hpu : (i 36 54).toInt < (i 36 55).toInt) (hul : (i 36 55).toInt ≤ 720) (ht : (i 36 49).toInt ≤ 61) (hp : (i 36 45).toInt ≤ 63) (hpo : (i 36 52).toInt + ((i 36 55).toInt - (i 36 54).toInt) ≤ 64) (hex : exI i) : Met l yX12_optional wsX12_optional ({ frames := 1, cells := 0, slots := 0, locals := 23 }) (va_Pc [.ref (g 36), .ref (g 403)] (sj_B D (hwc g ka i r L d) (hT ka) sz (gx ad (va_A (hwc g ka i r L d) sz)))) (sj_Qi (S := (Nat → Nat → Int32)) D (fun v u => OkI u ∧ (∀ a b, ¬ ((a = 36 ∧ (b = 45 ∨ b = 49 ∨ b = 52 ∨ b = 54)) ∨ a = 406 ∨ a = 407 ∨ a = 408 ∨ a = 409 ∨ a = 410 ∨ a = 411) → u a b = i a b) ∧ ((0 : Int) ≤ v.toInt ∧ v.toInt ≤ 1) ∧ ((v.toInt = 1 ∧ opL (lnL (i 403) ((i 36 54).toInt + 1) (i 36 55).toInt) 0 = some (lnL (i 403) (u 36 54).toInt (i 36 55).toInt) ∧ (i 36 54).toInt + 2 ≤ (u 36 54).toInt ∧ (u 36 54).toInt ≤ (i 36 55).toInt ∧ (u 36 45).toInt = (i 36 45).toInt + 1 ∧ (u 36 49).toInt = (i 36 49).toInt + 1 ∧ (u 36 52).toInt - (i 36 52).toInt ≤ (u 36 54).toInt - (i 36 54).toInt ∧ c4 u = c4 i ∧ exI u) ∨ (v.toInt = 0 ∧ opL (lnL (i 403) ((i 36 54).toInt + 1) (i 36 55).toInt) 0 = none))) (fun u => hwc g ka u r L d) (fun _ => []) (va_A (hwc g ka i r L d) sz)) 0 0 (va_A (hwc g ka i r L d) sz) := by
  refine x_met (Ex := gx ad) (cc := cX12_optional) (maxL := 2) (ret := (some .boolean)) (by decide) rfl (Nat.le_of_ble_eq_true rfl) ?_
  intro p e s m below meth c A ls hx hb hr hml hts hown hlocks hA hS hH hK hE hl
  have hown : s.vm.findClass RX12 = some m.cls := hown
  have in12 : ∀ w ∈ wsX120, w ∈ wsX12_optional := (fun _ h => (List.mem_cons_of_mem _ (List.mem_append_right _ h)))
  have wd0 := hts (.fieldLink RX12 269 "StoryDeskModel" "place" "I") (List.mem_cons_of_mem _ (List.mem_append_left _ lm0))
  have wd1 := hts (.fieldLink RX12 272 "StoryDeskModel" "until" "I") (List.mem_cons_of_mem _ (List.mem_append_left _ lm1))
  have wd2 := hts (.fieldLink RX12 266 "StoryDeskModel" "textSize" "[I") (List.mem_cons_of_mem _ (List.mem_append_left _ lm2))
  have wd3 := hts (.fieldLink RX12 260 "StoryDeskModel" "texts" "I") (List.mem_cons_of_mem _ (List.mem_append_left _ lm3))
  have hl : lv_has ls 2 [(0, .ref (g 36)), (1, .ref (g 403))] := hl
  have hK : va_K D vwCl (hT ka) s := hK
  have hx45 : (0 : Int) ≤ (i 36 45).toInt ∧ (i 36 45).toInt ≤ 64 := hO 36 45
  have hx49 : (0 : Int) ≤ (i 36 49).toInt ∧ (i 36 49).toInt ≤ 64 := hO 36 49
  have hx52 : (0 : Int) ≤ (i 36 52).toInt ∧ (i 36 52).toInt ≤ 64 := hO 36 52
  have hx54 : (0 : Int) ≤ (i 36 54).toInt ∧ (i 36 54).toInt ≤ 720 := hO 36 54
  have hx55 : (0 : Int) ≤ (i 36 55).toInt ∧ (i 36 55).toInt ≤ 720 := hO 36 55
  refine lv_aload_n hx hb dX12_optional_0 rfl (lv_at hl 0 rfl) ?_
  refine lv_dup hx hb dX12_optional_1 rfl ?_
  have bx_1 : (0 : Int) ≤ (i 36 54).toInt ∧ (i 36 54).toInt ≤ 720 := hO 36 54
  refine h_geti (ci := 12) (C := RX12) (F := TX12) (N := 86) hx hb hts in12 hown hK hH (by decide) (rfl : kd 36 = 12) (by decide) rfl 54 (by decide) wd0 (fun _ h9 => h9) (by decide) rfl dX12_optional_2 ?_
  refine lv_iconst (v := 1) hx hb dX12_optional_5 (by decide) ?_
  refine lv_iadd hx hb dX12_optional_6 ?_
  obtain ⟨z_2, ez_2, hz_2⟩ := s_add (rfl : (i 36 54).toInt = _) (show (1 : Int32).toInt = 1 from rfl) (by omega) (by omega)
  refine sj_i ez_2 ?_
  have hO_3 := okp hO (n := 36) (k := 54) (v := z_2) (show (0 : Int) ≤ (z_2 : Int32).toInt ∧ (z_2 : Int32).toInt ≤ 720 from ⟨by omega, by omega⟩)
  refine h_puti (ty := .int) (ci := 12) (C := RX12) (F := TX12) (N := 86) hx hb hts in12 tyX12 tyX12_ok nmX12 hown hK hH hS (by decide) (rfl : kd 36 = 12) (by decide) rfl 54 (by decide) wd0 (fun _ h9 => h9) rfl (by decide +kernel) rfl rfl (by decide) rfl dX12_optional_7 (fun H locs hH hS => ?_)
  refine lv_aload_n hx hb dX12_optional_10 rfl (lv_at hl 0 rfl) ?_
  have hwt_4 : ((up2 i 36 54 z_2) 36 49).toInt = ((i 36 49) : Int32).toInt := congrArg Int32.toInt (up2_k _ _ (by decide))
  have hwt_5 : ((up2 i 36 54 z_2) 36 52).toInt = ((i 36 52) : Int32).toInt := congrArg Int32.toInt (up2_k _ _ (by decide))
  refine x_callv (va_runV (As := []) (rest := []) ⟨hx, hb, hml, hown, hts⟩ (m_openText l D g ka ad (up2 i 36 54 z_2) r L d  hO_3 hR H.size (by first | omega | decide) (exI_fr hex (up2_o _ _ (by omega)) (up2_o _ _ (by omega)) (up2_o _ _ (by omega)) (fun a h1 h2 => funext fun b => (up2_o _ _ (by omega))))) (cwV 0 hts gX12_optional_X12_openText rfl rfl rfl (by decide +kernel) ⟨(Nat.le_of_ble_eq_true rfl), (Nat.le_of_ble_eq_true rfl)⟩) (x_preV (q := (RX12, TX12, 86)) hH hK (q_obj (by decide) (rfl : kd 36 = 12) (by decide)) rfl gxb (gxw hE hS (x_F hH hS hA))) rfl rfl hl.1 rfl (lv_room (Nat.le_of_ble_eq_true rfl)) dX12_optional_11 ⟨(Nat.le_of_ble_eq_true rfl), (Nat.le_of_ble_eq_true rfl)⟩) hH hS hA rfl rfl (fun im_8 H locs hw_7 hH hS => ?_)
  have hH : sj_H D A (hwc g ka im_8 r L d) H := hH
  obtain ⟨hO_10, hfr_9, hx2_11, hx2_12, hx2_13, hx2_14⟩ := hw_7
  have hot_15 := hx2_12
  have hot_16 := hx2_13
  -- loop at 14
  have lp_17 : ∀ (fuel_lp_17 : Nat)  (j1 : Nat → Nat → Int32) (H : Heap) (locs : List Loc) (ls : Array Slot), ((i 36 55).toInt - (j1 36 54).toInt).toNat < fuel_lp_17 → ((i 36 54).toInt + 1 ≤ (j1 36 54).toInt ∧ (j1 36 54).toInt ≤ (i 36 55).toInt) ∧ (j1 36 52).toInt - (i 36 52).toInt ≤ (j1 36 54).toInt - (i 36 54).toInt - 1 ∧ (j1 36 49).toInt = (i 36 49).toInt + 1 ∧ 0 ≤ lsz j1 → opL (lnL (i 403) ((i 36 54).toInt + 1) (i 36 55).toInt) 0 = opL (lnL (i 403) (j1 36 54).toInt (i 36 55).toInt) (lsz j1) → exI j1 → OkI j1 → (∀ a b, ¬ ((a = 36 ∧ (b = 52 ∨ b = 54)) ∨ a = 410 ∨ a = 411) → j1 a b = im_8 a b) → lv_has ls 2 [(0, .ref (g 36)), (1, .ref (g 403))] → sj_H D A (hwc g ka j1 r L d) H → va_S A s.heap H locs → W p l e (headSpec wsX12_optional ({ frames := 1, cells := 0, slots := 0, locals := 23 })).room s m ([.ref (g 36), .ref (g 403)] : List Value).toArray below meth c H locs 0 0 (MQ below (sj_Qi (S := (Nat → Nat → Int32)) D (fun v u => OkI u ∧ (∀ a b, ¬ ((a = 36 ∧ (b = 45 ∨ b = 49 ∨ b = 52 ∨ b = 54)) ∨ a = 406 ∨ a = 407 ∨ a = 408 ∨ a = 409 ∨ a = 410 ∨ a = 411) → u a b = i a b) ∧ ((0 : Int) ≤ v.toInt ∧ v.toInt ≤ 1) ∧ ((v.toInt = 1 ∧ opL (lnL (i 403) ((i 36 54).toInt + 1) (i 36 55).toInt) 0 = some (lnL (i 403) (u 36 54).toInt (i 36 55).toInt) ∧ (i 36 54).toInt + 2 ≤ (u 36 54).toInt ∧ (u 36 54).toInt ≤ (i 36 55).toInt ∧ (u 36 45).toInt = (i 36 45).toInt + 1 ∧ (u 36 49).toInt = (i 36 49).toInt + 1 ∧ (u 36 52).toInt - (i 36 52).toInt ≤ (u 36 54).toInt - (i 36 54).toInt ∧ c4 u = c4 i ∧ exI u) ∨ (v.toInt = 0 ∧ opL (lnL (i 403) ((i 36 54).toInt + 1) (i 36 55).toInt) 0 = none))) (fun u => hwc g ka u r L d) (fun _ => []) A) ([.ref (g 36), .ref (g 403)] : List Value).toArray s 0 0 A) (F0 m 14 ls []) := by
    intro fuel_lp_17
    induction fuel_lp_17 with
    | zero => intros; omega
    | succ fuel_lp_17 ih_lp_17 =>
      intro j1 H locs ls hm hi_lp_17_0 hi_lp_17_1 hi_lp_17_2 hO_j1 hfr_j1 hl hH hS
      have hx52j : (0 : Int) ≤ (j1 36 52).toInt ∧ (j1 36 52).toInt ≤ 64 := hO_j1 36 52
      refine lv_aload_n hx hb dX12_optional_14 rfl (lv_at hl 0 rfl) ?_
      have bx_18 : (0 : Int) ≤ (j1 36 54).toInt ∧ (j1 36 54).toInt ≤ 720 := hO_j1 36 54
      refine h_geti (ci := 12) (C := RX12) (F := TX12) (N := 86) hx hb hts in12 hown hK hH (by decide) (rfl : kd 36 = 12) (by decide) rfl 54 (by decide) wd0 (fun _ h9 => h9) (by decide) rfl dX12_optional_15 ?_
      refine lv_aload_n hx hb dX12_optional_18 rfl (lv_at hl 0 rfl) ?_
      have bx_19 : (0 : Int) ≤ (i 36 55).toInt ∧ (i 36 55).toInt ≤ 720 := hO 36 55
      refine h_geti (ci := 12) (C := RX12) (F := TX12) (N := 86) hx hb hts in12 hown hK hH (by decide) (rfl : kd 36 = 12) (by decide) rfl 55 (by decide) wd1 (fun _ h9 => h9) (by decide) rfl dX12_optional_19 ?_
      refine sj_i (y := (i 36 55)) ((hfr_j1 36 55 (by omega)).trans ((hfr_9 36 55 (by omega)).trans (up2_k _ _ (by decide)))) ?_
      refine lv_icmp_ge (tgt := 46) hx hb dX12_optional_22 (by decide) (fun c_20 => ?_) (fun c_20 => ?_)
      · skip
        have h_21 := s_le (rfl : (i 36 55).toInt = _) (rfl : (j1 36 54).toInt = _) c_20
        refine lv_aload_n hx hb dX12_optional_46 rfl (lv_at hl 0 rfl) ?_
        refine h_geti (ci := 12) (C := RX12) (F := TX12) (N := 86) hx hb hts in12 hown hK hH (by decide) (rfl : kd 36 = 12) (by decide) rfl 54 (by decide) wd0 (fun _ h9 => h9) (by decide) rfl dX12_optional_47 ?_
        refine lv_aload_n hx hb dX12_optional_50 rfl (lv_at hl 0 rfl) ?_
        refine h_geti (ci := 12) (C := RX12) (F := TX12) (N := 86) hx hb hts in12 hown hK hH (by decide) (rfl : kd 36 = 12) (by decide) rfl 55 (by decide) wd1 (fun _ h9 => h9) (by decide) rfl dX12_optional_51 ?_
        refine sj_i (y := (i 36 55)) ((hfr_j1 36 55 (by omega)).trans ((hfr_9 36 55 (by omega)).trans (up2_k _ _ (by decide)))) ?_
        refine lv_icmp_ge (tgt := 71) hx hb dX12_optional_54 (by decide) (fun c_22 => ?_) (fun c_22 => ?_)
        · skip
          have h_23 := s_le (rfl : (i 36 55).toInt = _) (rfl : (j1 36 54).toInt = _) c_22
          refine lv_iconst (v := 0) hx hb dX12_optional_71 (by decide) ?_
          have hV_24 : ((0 : Int32).toInt = 1 ∧ opL (lnL (i 403) ((i 36 54).toInt + 1) (i 36 55).toInt) 0 = some (lnL (i 403) (j1 36 54).toInt (i 36 55).toInt) ∧ (i 36 54).toInt + 2 ≤ (j1 36 54).toInt ∧ (j1 36 54).toInt ≤ (i 36 55).toInt ∧ (j1 36 45).toInt = (i 36 45).toInt + 1 ∧ (j1 36 49).toInt = (i 36 49).toInt + 1 ∧ (j1 36 52).toInt - (i 36 52).toInt ≤ (j1 36 54).toInt - (i 36 54).toInt ∧ c4 j1 = c4 i ∧ exI j1) ∨ ((0 : Int32).toInt = 0 ∧ opL (lnL (i 403) ((i 36 54).toInt + 1) (i 36 55).toInt) 0 = none) := (Or.inr ⟨by rfl, hi_lp_17_1.trans (op_no (by omega) (by omega))⟩)
          exact sj_zret hx hb hr hlocks (by decide +kernel) hS j1 ⟨hO_j1, (fun a b ha => ((hfr_j1 a b (by omega)).trans ((hfr_9 a b (by omega)).trans (up2_o _ _ (by omega))))), ⟨by decide, by decide⟩, hV_24⟩ hH (sj_Knil hK) (Nat.le_of_ble_eq_true rfl) (Nat.le_of_ble_eq_true rfl) dX12_optional_72
        · skip
          have h_25 := s_nle (rfl : (i 36 55).toInt = _) (rfl : (j1 36 54).toInt = _) c_22
          refine lv_aload_n hx hb dX12_optional_57 rfl (lv_at hl 0 rfl) ?_
          refine h_getr (ci := 12) (C := RX12) (F := TX12) (N := 86) hx hb hts in12 hown hK hH (by decide) (rfl : kd 36 = 12) (by decide) rfl 51 (by decide) wd2 (fun _ h9 => h9) (by decide) rfl (t := 410) (hR 36 51 rfl) (by decide) dX12_optional_58 ?_
          refine lv_aload_n hx hb dX12_optional_61 rfl (lv_at hl 0 rfl) ?_
          have bx_26 : (0 : Int) ≤ (im_8 36 49).toInt ∧ (im_8 36 49).toInt ≤ 64 := hO_10 36 49
          refine h_geti (ci := 12) (C := RX12) (F := TX12) (N := 86) hx hb hts in12 hown hK hH (by decide) (rfl : kd 36 = 12) (by decide) rfl 49 (by decide) wd3 (fun _ h9 => h9) (by decide) rfl dX12_optional_62 ?_
          refine sj_i (y := (im_8 36 49)) (hfr_j1 36 49 (by omega)) ?_
          refine lv_iconst (v := 1) hx hb dX12_optional_65 (by decide) ?_
          refine lv_isub hx hb dX12_optional_66 ?_
          obtain ⟨z_27, ez_27, hz_27⟩ := s_sub (rfl : (im_8 36 49).toInt = _) (show (1 : Int32).toInt = 1 from rfl) (by omega) (by omega)
          refine sj_i ez_27 ?_
          have hls_28 : lsz j1 = ((j1 410 ((im_8 36 49).toInt - 1).toNat) : Int32).toInt := by unfold lsz; rw [show j1 36 49 = (im_8 36 49) from (hfr_j1 36 49 (by omega))]; try exact congrArg Int32.toInt (rfl)
          refine h_iald hx hb hK hH (by decide) (rfl : kd 410 = 13) (s_vin (N := 64) (rfl : z_27.toInt = _) (rfl : ln 410 = 64) (by omega) (by omega)) dX12_optional_67 ?_
          have ek_29 : z_27.toNatClampNeg = ((im_8 36 49).toInt - 1).toNat := (s_cl (show z_27.toInt = (im_8 36 49).toInt - 1 by omega))
          refine sj_i (y := (j1 410 ((im_8 36 49).toInt - 1).toNat)) (by rw [ek_29]) ?_
          refine lv_if_ne (tgt := 73) hx hb dX12_optional_68 (by decide) (fun c_30 => ?_) (fun c_30 => ?_)
          · skip
            have h_31 := s_ne (rfl : (j1 410 ((im_8 36 49).toInt - 1).toNat).toInt = _) (show (0 : Int32).toInt = 0 from rfl) c_30
            refine lv_aload_n hx hb dX12_optional_73 rfl (lv_at hl 0 rfl) ?_
            refine lv_dup hx hb dX12_optional_74 rfl ?_
            refine h_geti (ci := 12) (C := RX12) (F := TX12) (N := 86) hx hb hts in12 hown hK hH (by decide) (rfl : kd 36 = 12) (by decide) rfl 54 (by decide) wd0 (fun _ h9 => h9) (by decide) rfl dX12_optional_75 ?_
            refine lv_iconst (v := 1) hx hb dX12_optional_78 (by decide) ?_
            refine lv_iadd hx hb dX12_optional_79 ?_
            obtain ⟨z_32, ez_32, hz_32⟩ := s_add (rfl : (j1 36 54).toInt = _) (show (1 : Int32).toInt = 1 from rfl) (by omega) (by omega)
            refine sj_i ez_32 ?_
            have hO_33 := okp hO_j1 (n := 36) (k := 54) (v := z_32) (show (0 : Int) ≤ (z_32 : Int32).toInt ∧ (z_32 : Int32).toInt ≤ 720 from ⟨by omega, by omega⟩)
            refine h_puti (ty := .int) (ci := 12) (C := RX12) (F := TX12) (N := 86) hx hb hts in12 tyX12 tyX12_ok nmX12 hown hK hH hS (by decide) (rfl : kd 36 = 12) (by decide) rfl 54 (by decide) wd0 (fun _ h9 => h9) rfl (by decide +kernel) rfl rfl (by decide) rfl dX12_optional_80 (fun H locs hH hS => ?_)
            refine lv_aload_n hx hb dX12_optional_83 rfl (lv_at hl 0 rfl) ?_
            refine lv_iconst (v := 2) hx hb dX12_optional_84 (by decide) ?_
            refine lv_aload_n hx hb dX12_optional_85 rfl (lv_at hl 0 rfl) ?_
            refine h_geti (ci := 12) (C := RX12) (F := TX12) (N := 86) hx hb hts in12 hown hK hH (by decide) (rfl : kd 36 = 12) (by decide) rfl 49 (by decide) wd3 (fun _ h9 => h9) (by decide) rfl dX12_optional_86 ?_
            refine sj_i (y := (im_8 36 49)) ((up2_k _ _ (by decide)).trans (hfr_j1 36 49 (by omega))) ?_
            refine lv_iconst (v := 1) hx hb dX12_optional_89 (by decide) ?_
            refine lv_isub hx hb dX12_optional_90 ?_
            obtain ⟨z_34, ez_34, hz_34⟩ := s_sub (rfl : (im_8 36 49).toInt = _) (show (1 : Int32).toInt = 1 from rfl) (by omega) (by omega)
            refine sj_i ez_34 ?_
            refine lv_iconst (v := 1) hx hb dX12_optional_91 (by decide) ?_
            have hl_35 : (2 : Int32).toInt = 2 := rfl
            have hl_36 : (1 : Int32).toInt = 1 := rfl
            have hwt_37 : ((up2 j1 36 54 z_32) 36 45).toInt = ((i 36 45) : Int32).toInt := congrArg Int32.toInt ((up2_k _ _ (by decide)).trans ((hfr_j1 36 45 (by omega)).trans ((hfr_9 36 45 (by omega)).trans (up2_k _ _ (by decide)))))
            have hwt_38 : ((up2 j1 36 54 z_32) 36 49).toInt = ((im_8 36 49) : Int32).toInt := congrArg Int32.toInt ((up2_k _ _ (by decide)).trans (hfr_j1 36 49 (by omega)))
            refine x_callv (va_runV (As := [.int 2, .int z_34, .int 1]) (rest := []) ⟨hx, hb, hml, hown, hts⟩ (m_addPart l D g ka ad (up2 j1 36 54 z_32) r L d 2 z_34 1 hO_33 hR H.size (by first | omega | decide) (exI_fr hi_lp_17_2 (up2_o _ _ (by omega)) (up2_o _ _ (by omega)) (up2_o _ _ (by omega)) (fun a h1 h2 => funext fun b => (up2_o _ _ (by omega)))) (by unfold pOk; omega)) (cwV 3 hts gX12_optional_X12_addPart rfl rfl rfl (by decide +kernel) ⟨(Nat.le_of_ble_eq_true rfl), (Nat.le_of_ble_eq_true rfl)⟩) (x_preV (q := (RX12, TX12, 86)) hH hK (q_obj (by decide) (rfl : kd 36 = 12) (by decide)) rfl gxb (gxw hE hS (x_F hH hS hA))) rfl rfl hl.1 rfl (lv_room (Nat.le_of_ble_eq_true rfl)) dX12_optional_92 ⟨(Nat.le_of_ble_eq_true rfl), (Nat.le_of_ble_eq_true rfl)⟩) hH hS hA rfl rfl (fun im_41 H locs hw_40 hH hS => ?_)
            have hH : sj_H D A (hwc g ka im_41 r L d) H := hH
            obtain ⟨hO_43, hfr_42, hx2_44, hx2_45, hx2_46⟩ := hw_40
            have hap_47 := hx2_44
            have hc49 : c4 im_41 = c4 (up2 j1 36 54 z_32) := (hx2_46.resolve_left (fun q => by have := q.1; omega)).2
            refine lv_iconst (v := 1) hx hb dX12_optional_95 (by decide) ?_
            have hp_48 : (im_41 36 54).toInt = (z_32 : Int32).toInt := congrArg Int32.toInt (((hfr_42 36 54 (by omega)).trans (up2_at _ _ _ _)))
            have hp_49 : (im_41 36 52).toInt = ((j1 36 52) : Int32).toInt := congrArg Int32.toInt (((hfr_42 36 52 (by omega)).trans (up2_k _ _ (by decide))))
            have hp_50 : (im_41 36 49).toInt = ((im_8 36 49) : Int32).toInt := congrArg Int32.toInt (((hfr_42 36 49 (by omega)).trans ((up2_k _ _ (by decide)).trans (hfr_j1 36 49 (by omega)))))
            have hp_51 : (im_41 36 45).toInt = ((im_41 36 45) : Int32).toInt := rfl
            have hV_52 : ((1 : Int32).toInt = 1 ∧ opL (lnL (i 403) ((i 36 54).toInt + 1) (i 36 55).toInt) 0 = some (lnL (i 403) (im_41 36 54).toInt (i 36 55).toInt) ∧ (i 36 54).toInt + 2 ≤ (im_41 36 54).toInt ∧ (im_41 36 54).toInt ≤ (i 36 55).toInt ∧ (im_41 36 45).toInt = (i 36 45).toInt + 1 ∧ (im_41 36 49).toInt = (i 36 49).toInt + 1 ∧ (im_41 36 52).toInt - (i 36 52).toInt ≤ (im_41 36 54).toInt - (i 36 54).toInt ∧ c4 im_41 = c4 i ∧ exI im_41) ∨ ((1 : Int32).toInt = 0 ∧ opL (lnL (i 403) ((i 36 54).toInt + 1) (i 36 55).toInt) 0 = none) := (Or.inl ⟨by rfl, by rw [hi_lp_17_1, op_close (by omega) (by omega) (by omega), if_neg (by omega), show (im_41 36 54).toInt = (j1 36 54).toInt + 1 by omega], by omega, by omega, by omega, by omega, by omega, (hc49.trans (c4_fr ((up2_o _ _ (by omega)).trans ((hfr_j1 36 45 (by omega)).trans ((hfr_9 36 45 (by omega)).trans (up2_o _ _ (by omega))))) (funext fun b => ((up2_o _ _ (by omega)).trans ((hfr_j1 406 b (by omega)).trans ((hfr_9 406 b (by omega)).trans (up2_o _ _ (by omega)))))))), hx2_45⟩)
            exact sj_zret hx hb hr hlocks (by decide +kernel) hS im_41 ⟨hO_43, (fun a b ha => ((hfr_42 a b (by omega)).trans ((up2_o _ _ (by omega)).trans ((hfr_j1 a b (by omega)).trans ((hfr_9 a b (by omega)).trans (up2_o _ _ (by omega))))))), ⟨by decide, by decide⟩, hV_52⟩ hH (sj_Knil hK) (Nat.le_of_ble_eq_true rfl) (Nat.le_of_ble_eq_true rfl) dX12_optional_96
          · skip
            have h_53 := s_eq (rfl : (j1 410 ((im_8 36 49).toInt - 1).toNat).toInt = _) (show (0 : Int32).toInt = 0 from rfl) c_30
            refine lv_iconst (v := 0) hx hb dX12_optional_71 (by decide) ?_
            have hV_54 : ((0 : Int32).toInt = 1 ∧ opL (lnL (i 403) ((i 36 54).toInt + 1) (i 36 55).toInt) 0 = some (lnL (i 403) (j1 36 54).toInt (i 36 55).toInt) ∧ (i 36 54).toInt + 2 ≤ (j1 36 54).toInt ∧ (j1 36 54).toInt ≤ (i 36 55).toInt ∧ (j1 36 45).toInt = (i 36 45).toInt + 1 ∧ (j1 36 49).toInt = (i 36 49).toInt + 1 ∧ (j1 36 52).toInt - (i 36 52).toInt ≤ (j1 36 54).toInt - (i 36 54).toInt ∧ c4 j1 = c4 i ∧ exI j1) ∨ ((0 : Int32).toInt = 0 ∧ opL (lnL (i 403) ((i 36 54).toInt + 1) (i 36 55).toInt) 0 = none) := (Or.inr ⟨by rfl, hi_lp_17_1.trans (op_no (by omega) (by omega))⟩)
            exact sj_zret hx hb hr hlocks (by decide +kernel) hS j1 ⟨hO_j1, (fun a b ha => ((hfr_j1 a b (by omega)).trans ((hfr_9 a b (by omega)).trans (up2_o _ _ (by omega))))), ⟨by decide, by decide⟩, hV_54⟩ hH (sj_Knil hK) (Nat.le_of_ble_eq_true rfl) (Nat.le_of_ble_eq_true rfl) dX12_optional_72
      · skip
        have h_55 := s_nle (rfl : (i 36 55).toInt = _) (rfl : (j1 36 54).toInt = _) c_20
        refine lv_aload_n hx hb dX12_optional_25 rfl (lv_at hl 1 rfl) ?_
        refine lv_aload_n hx hb dX12_optional_26 rfl (lv_at hl 0 rfl) ?_
        refine h_geti (ci := 12) (C := RX12) (F := TX12) (N := 86) hx hb hts in12 hown hK hH (by decide) (rfl : kd 36 = 12) (by decide) rfl 54 (by decide) wd0 (fun _ h9 => h9) (by decide) rfl dX12_optional_27 ?_
        have bx_56 : (0 : Int) ≤ (i 403 ((j1 36 54).toInt).toNat).toInt ∧ (i 403 ((j1 36 54).toInt).toNat).toInt ≤ 65535 := hO 403 ((j1 36 54).toInt).toNat
        refine h_cald hx hb hK hH (by decide) (rfl : kd 403 = 14) (s_vin (N := 720) (rfl : (j1 36 54).toInt = _) (rfl : ln 403 = 720) (by omega) (by omega)) dX12_optional_30 ?_
        have ek_57 : (j1 36 54).toNatClampNeg = ((j1 36 54).toInt).toNat := (s_cl (show (j1 36 54).toInt = (j1 36 54).toInt by omega))
        refine sj_i (y := (i 403 ((j1 36 54).toInt).toNat)) (by rw [ek_57]; exact ((hfr_j1 403 ((j1 36 54).toInt).toNat (by omega)).trans ((hfr_9 403 ((j1 36 54).toInt).toNat (by omega)).trans (congrFun (up2_n _ _ (by decide)) _)))) ?_
        refine lv_bipush (v := 41) hx hb dX12_optional_31 (by decide) ?_
        refine lv_icmp_eq (tgt := 46) hx hb dX12_optional_33 (by decide) (fun c_58 => ?_) (fun c_58 => ?_)
        · skip
          have h_59 := s_eq (rfl : (i 403 ((j1 36 54).toInt).toNat).toInt = _) (show (41 : Int32).toInt = 41 from rfl) c_58
          refine lv_aload_n hx hb dX12_optional_46 rfl (lv_at hl 0 rfl) ?_
          refine h_geti (ci := 12) (C := RX12) (F := TX12) (N := 86) hx hb hts in12 hown hK hH (by decide) (rfl : kd 36 = 12) (by decide) rfl 54 (by decide) wd0 (fun _ h9 => h9) (by decide) rfl dX12_optional_47 ?_
          refine lv_aload_n hx hb dX12_optional_50 rfl (lv_at hl 0 rfl) ?_
          refine h_geti (ci := 12) (C := RX12) (F := TX12) (N := 86) hx hb hts in12 hown hK hH (by decide) (rfl : kd 36 = 12) (by decide) rfl 55 (by decide) wd1 (fun _ h9 => h9) (by decide) rfl dX12_optional_51 ?_
          refine sj_i (y := (i 36 55)) ((hfr_j1 36 55 (by omega)).trans ((hfr_9 36 55 (by omega)).trans (up2_k _ _ (by decide)))) ?_
          refine lv_icmp_ge (tgt := 71) hx hb dX12_optional_54 (by decide) (fun c_60 => ?_) (fun c_60 => ?_)
          · skip
            have h_61 := s_le (rfl : (i 36 55).toInt = _) (rfl : (j1 36 54).toInt = _) c_60
            refine lv_iconst (v := 0) hx hb dX12_optional_71 (by decide) ?_
            have hV_62 : ((0 : Int32).toInt = 1 ∧ opL (lnL (i 403) ((i 36 54).toInt + 1) (i 36 55).toInt) 0 = some (lnL (i 403) (j1 36 54).toInt (i 36 55).toInt) ∧ (i 36 54).toInt + 2 ≤ (j1 36 54).toInt ∧ (j1 36 54).toInt ≤ (i 36 55).toInt ∧ (j1 36 45).toInt = (i 36 45).toInt + 1 ∧ (j1 36 49).toInt = (i 36 49).toInt + 1 ∧ (j1 36 52).toInt - (i 36 52).toInt ≤ (j1 36 54).toInt - (i 36 54).toInt ∧ c4 j1 = c4 i ∧ exI j1) ∨ ((0 : Int32).toInt = 0 ∧ opL (lnL (i 403) ((i 36 54).toInt + 1) (i 36 55).toInt) 0 = none) := (Or.inr ⟨by rfl, hi_lp_17_1.trans (op_no (by omega) (by omega))⟩)
            exact sj_zret hx hb hr hlocks (by decide +kernel) hS j1 ⟨hO_j1, (fun a b ha => ((hfr_j1 a b (by omega)).trans ((hfr_9 a b (by omega)).trans (up2_o _ _ (by omega))))), ⟨by decide, by decide⟩, hV_62⟩ hH (sj_Knil hK) (Nat.le_of_ble_eq_true rfl) (Nat.le_of_ble_eq_true rfl) dX12_optional_72
          · skip
            have h_63 := s_nle (rfl : (i 36 55).toInt = _) (rfl : (j1 36 54).toInt = _) c_60
            refine lv_aload_n hx hb dX12_optional_57 rfl (lv_at hl 0 rfl) ?_
            refine h_getr (ci := 12) (C := RX12) (F := TX12) (N := 86) hx hb hts in12 hown hK hH (by decide) (rfl : kd 36 = 12) (by decide) rfl 51 (by decide) wd2 (fun _ h9 => h9) (by decide) rfl (t := 410) (hR 36 51 rfl) (by decide) dX12_optional_58 ?_
            refine lv_aload_n hx hb dX12_optional_61 rfl (lv_at hl 0 rfl) ?_
            have bx_64 : (0 : Int) ≤ (im_8 36 49).toInt ∧ (im_8 36 49).toInt ≤ 64 := hO_10 36 49
            refine h_geti (ci := 12) (C := RX12) (F := TX12) (N := 86) hx hb hts in12 hown hK hH (by decide) (rfl : kd 36 = 12) (by decide) rfl 49 (by decide) wd3 (fun _ h9 => h9) (by decide) rfl dX12_optional_62 ?_
            refine sj_i (y := (im_8 36 49)) (hfr_j1 36 49 (by omega)) ?_
            refine lv_iconst (v := 1) hx hb dX12_optional_65 (by decide) ?_
            refine lv_isub hx hb dX12_optional_66 ?_
            obtain ⟨z_65, ez_65, hz_65⟩ := s_sub (rfl : (im_8 36 49).toInt = _) (show (1 : Int32).toInt = 1 from rfl) (by omega) (by omega)
            refine sj_i ez_65 ?_
            have hls_66 : lsz j1 = ((j1 410 ((im_8 36 49).toInt - 1).toNat) : Int32).toInt := by unfold lsz; rw [show j1 36 49 = (im_8 36 49) from (hfr_j1 36 49 (by omega))]; try exact congrArg Int32.toInt (rfl)
            refine h_iald hx hb hK hH (by decide) (rfl : kd 410 = 13) (s_vin (N := 64) (rfl : z_65.toInt = _) (rfl : ln 410 = 64) (by omega) (by omega)) dX12_optional_67 ?_
            have ek_67 : z_65.toNatClampNeg = ((im_8 36 49).toInt - 1).toNat := (s_cl (show z_65.toInt = (im_8 36 49).toInt - 1 by omega))
            refine sj_i (y := (j1 410 ((im_8 36 49).toInt - 1).toNat)) (by rw [ek_67]) ?_
            refine lv_if_ne (tgt := 73) hx hb dX12_optional_68 (by decide) (fun c_68 => ?_) (fun c_68 => ?_)
            · skip
              have h_69 := s_ne (rfl : (j1 410 ((im_8 36 49).toInt - 1).toNat).toInt = _) (show (0 : Int32).toInt = 0 from rfl) c_68
              refine lv_aload_n hx hb dX12_optional_73 rfl (lv_at hl 0 rfl) ?_
              refine lv_dup hx hb dX12_optional_74 rfl ?_
              refine h_geti (ci := 12) (C := RX12) (F := TX12) (N := 86) hx hb hts in12 hown hK hH (by decide) (rfl : kd 36 = 12) (by decide) rfl 54 (by decide) wd0 (fun _ h9 => h9) (by decide) rfl dX12_optional_75 ?_
              refine lv_iconst (v := 1) hx hb dX12_optional_78 (by decide) ?_
              refine lv_iadd hx hb dX12_optional_79 ?_
              obtain ⟨z_70, ez_70, hz_70⟩ := s_add (rfl : (j1 36 54).toInt = _) (show (1 : Int32).toInt = 1 from rfl) (by omega) (by omega)
              refine sj_i ez_70 ?_
              have hO_71 := okp hO_j1 (n := 36) (k := 54) (v := z_70) (show (0 : Int) ≤ (z_70 : Int32).toInt ∧ (z_70 : Int32).toInt ≤ 720 from ⟨by omega, by omega⟩)
              refine h_puti (ty := .int) (ci := 12) (C := RX12) (F := TX12) (N := 86) hx hb hts in12 tyX12 tyX12_ok nmX12 hown hK hH hS (by decide) (rfl : kd 36 = 12) (by decide) rfl 54 (by decide) wd0 (fun _ h9 => h9) rfl (by decide +kernel) rfl rfl (by decide) rfl dX12_optional_80 (fun H locs hH hS => ?_)
              refine lv_aload_n hx hb dX12_optional_83 rfl (lv_at hl 0 rfl) ?_
              refine lv_iconst (v := 2) hx hb dX12_optional_84 (by decide) ?_
              refine lv_aload_n hx hb dX12_optional_85 rfl (lv_at hl 0 rfl) ?_
              refine h_geti (ci := 12) (C := RX12) (F := TX12) (N := 86) hx hb hts in12 hown hK hH (by decide) (rfl : kd 36 = 12) (by decide) rfl 49 (by decide) wd3 (fun _ h9 => h9) (by decide) rfl dX12_optional_86 ?_
              refine sj_i (y := (im_8 36 49)) ((up2_k _ _ (by decide)).trans (hfr_j1 36 49 (by omega))) ?_
              refine lv_iconst (v := 1) hx hb dX12_optional_89 (by decide) ?_
              refine lv_isub hx hb dX12_optional_90 ?_
              obtain ⟨z_72, ez_72, hz_72⟩ := s_sub (rfl : (im_8 36 49).toInt = _) (show (1 : Int32).toInt = 1 from rfl) (by omega) (by omega)
              refine sj_i ez_72 ?_
              refine lv_iconst (v := 1) hx hb dX12_optional_91 (by decide) ?_
              have hl_73 : (2 : Int32).toInt = 2 := rfl
              have hl_74 : (1 : Int32).toInt = 1 := rfl
              have hwt_75 : ((up2 j1 36 54 z_70) 36 45).toInt = ((i 36 45) : Int32).toInt := congrArg Int32.toInt ((up2_k _ _ (by decide)).trans ((hfr_j1 36 45 (by omega)).trans ((hfr_9 36 45 (by omega)).trans (up2_k _ _ (by decide)))))
              have hwt_76 : ((up2 j1 36 54 z_70) 36 49).toInt = ((im_8 36 49) : Int32).toInt := congrArg Int32.toInt ((up2_k _ _ (by decide)).trans (hfr_j1 36 49 (by omega)))
              refine x_callv (va_runV (As := [.int 2, .int z_72, .int 1]) (rest := []) ⟨hx, hb, hml, hown, hts⟩ (m_addPart l D g ka ad (up2 j1 36 54 z_70) r L d 2 z_72 1 hO_71 hR H.size (by first | omega | decide) (exI_fr hi_lp_17_2 (up2_o _ _ (by omega)) (up2_o _ _ (by omega)) (up2_o _ _ (by omega)) (fun a h1 h2 => funext fun b => (up2_o _ _ (by omega)))) (by unfold pOk; omega)) (cwV 3 hts gX12_optional_X12_addPart rfl rfl rfl (by decide +kernel) ⟨(Nat.le_of_ble_eq_true rfl), (Nat.le_of_ble_eq_true rfl)⟩) (x_preV (q := (RX12, TX12, 86)) hH hK (q_obj (by decide) (rfl : kd 36 = 12) (by decide)) rfl gxb (gxw hE hS (x_F hH hS hA))) rfl rfl hl.1 rfl (lv_room (Nat.le_of_ble_eq_true rfl)) dX12_optional_92 ⟨(Nat.le_of_ble_eq_true rfl), (Nat.le_of_ble_eq_true rfl)⟩) hH hS hA rfl rfl (fun im_79 H locs hw_78 hH hS => ?_)
              have hH : sj_H D A (hwc g ka im_79 r L d) H := hH
              obtain ⟨hO_81, hfr_80, hx2_82, hx2_83, hx2_84⟩ := hw_78
              have hap_85 := hx2_82
              have hc49 : c4 im_79 = c4 (up2 j1 36 54 z_70) := (hx2_84.resolve_left (fun q => by have := q.1; omega)).2
              refine lv_iconst (v := 1) hx hb dX12_optional_95 (by decide) ?_
              have hp_86 : (im_79 36 54).toInt = (z_70 : Int32).toInt := congrArg Int32.toInt (((hfr_80 36 54 (by omega)).trans (up2_at _ _ _ _)))
              have hp_87 : (im_79 36 52).toInt = ((j1 36 52) : Int32).toInt := congrArg Int32.toInt (((hfr_80 36 52 (by omega)).trans (up2_k _ _ (by decide))))
              have hp_88 : (im_79 36 49).toInt = ((im_8 36 49) : Int32).toInt := congrArg Int32.toInt (((hfr_80 36 49 (by omega)).trans ((up2_k _ _ (by decide)).trans (hfr_j1 36 49 (by omega)))))
              have hp_89 : (im_79 36 45).toInt = ((im_79 36 45) : Int32).toInt := rfl
              have hV_90 : ((1 : Int32).toInt = 1 ∧ opL (lnL (i 403) ((i 36 54).toInt + 1) (i 36 55).toInt) 0 = some (lnL (i 403) (im_79 36 54).toInt (i 36 55).toInt) ∧ (i 36 54).toInt + 2 ≤ (im_79 36 54).toInt ∧ (im_79 36 54).toInt ≤ (i 36 55).toInt ∧ (im_79 36 45).toInt = (i 36 45).toInt + 1 ∧ (im_79 36 49).toInt = (i 36 49).toInt + 1 ∧ (im_79 36 52).toInt - (i 36 52).toInt ≤ (im_79 36 54).toInt - (i 36 54).toInt ∧ c4 im_79 = c4 i ∧ exI im_79) ∨ ((1 : Int32).toInt = 0 ∧ opL (lnL (i 403) ((i 36 54).toInt + 1) (i 36 55).toInt) 0 = none) := (Or.inl ⟨by rfl, by rw [hi_lp_17_1, op_close (by omega) (by omega) (by omega), if_neg (by omega), show (im_79 36 54).toInt = (j1 36 54).toInt + 1 by omega], by omega, by omega, by omega, by omega, by omega, (hc49.trans (c4_fr ((up2_o _ _ (by omega)).trans ((hfr_j1 36 45 (by omega)).trans ((hfr_9 36 45 (by omega)).trans (up2_o _ _ (by omega))))) (funext fun b => ((up2_o _ _ (by omega)).trans ((hfr_j1 406 b (by omega)).trans ((hfr_9 406 b (by omega)).trans (up2_o _ _ (by omega)))))))), hx2_83⟩)
              exact sj_zret hx hb hr hlocks (by decide +kernel) hS im_79 ⟨hO_81, (fun a b ha => ((hfr_80 a b (by omega)).trans ((up2_o _ _ (by omega)).trans ((hfr_j1 a b (by omega)).trans ((hfr_9 a b (by omega)).trans (up2_o _ _ (by omega))))))), ⟨by decide, by decide⟩, hV_90⟩ hH (sj_Knil hK) (Nat.le_of_ble_eq_true rfl) (Nat.le_of_ble_eq_true rfl) dX12_optional_96
            · skip
              have h_91 := s_eq (rfl : (j1 410 ((im_8 36 49).toInt - 1).toNat).toInt = _) (show (0 : Int32).toInt = 0 from rfl) c_68
              refine lv_iconst (v := 0) hx hb dX12_optional_71 (by decide) ?_
              have hV_92 : ((0 : Int32).toInt = 1 ∧ opL (lnL (i 403) ((i 36 54).toInt + 1) (i 36 55).toInt) 0 = some (lnL (i 403) (j1 36 54).toInt (i 36 55).toInt) ∧ (i 36 54).toInt + 2 ≤ (j1 36 54).toInt ∧ (j1 36 54).toInt ≤ (i 36 55).toInt ∧ (j1 36 45).toInt = (i 36 45).toInt + 1 ∧ (j1 36 49).toInt = (i 36 49).toInt + 1 ∧ (j1 36 52).toInt - (i 36 52).toInt ≤ (j1 36 54).toInt - (i 36 54).toInt ∧ c4 j1 = c4 i ∧ exI j1) ∨ ((0 : Int32).toInt = 0 ∧ opL (lnL (i 403) ((i 36 54).toInt + 1) (i 36 55).toInt) 0 = none) := (Or.inr ⟨by rfl, hi_lp_17_1.trans (op_no (by omega) (by omega))⟩)
              exact sj_zret hx hb hr hlocks (by decide +kernel) hS j1 ⟨hO_j1, (fun a b ha => ((hfr_j1 a b (by omega)).trans ((hfr_9 a b (by omega)).trans (up2_o _ _ (by omega))))), ⟨by decide, by decide⟩, hV_92⟩ hH (sj_Knil hK) (Nat.le_of_ble_eq_true rfl) (Nat.le_of_ble_eq_true rfl) dX12_optional_72
        · skip
          have h_93 := s_ne (rfl : (i 403 ((j1 36 54).toInt).toNat).toInt = _) (show (41 : Int32).toInt = 41 from rfl) c_58
          refine lv_aload_n hx hb dX12_optional_36 rfl (lv_at hl 0 rfl) ?_
          refine lv_aload_n hx hb dX12_optional_37 rfl (lv_at hl 1 rfl) ?_
          have hwt_94 : (j1 36 49).toInt = ((im_8 36 49) : Int32).toInt := congrArg Int32.toInt (hfr_j1 36 49 (by omega))
          have hwt_95 : (j1 36 55).toInt = ((i 36 55) : Int32).toInt := congrArg Int32.toInt ((hfr_j1 36 55 (by omega)).trans ((hfr_9 36 55 (by omega)).trans (up2_k _ _ (by decide))))
          refine x_calli (va_runV (As := [.ref (g 403)]) (rest := []) ⟨hx, hb, hml, hown, hts⟩ (m_takeOne_W l D g ka ad j1 r L d  hO_j1 hR H.size (by first | omega | decide) (by first | omega | decide) (by first | omega | decide) (by first | omega | decide) hi_lp_17_2) (cwV 1 hts gX12_optional_X12_takeOne rfl rfl rfl (by decide +kernel) ⟨(Nat.le_of_ble_eq_true rfl), (Nat.le_of_ble_eq_true rfl)⟩) (x_preV (q := (RX12, TX12, 86)) hH hK (q_obj (by decide) (rfl : kd 36 = 12) (by decide)) rfl gxb (gxw hE hS (x_F hH hS hA))) rfl rfl hl.1 rfl (lv_room (Nat.le_of_ble_eq_true rfl)) dX12_optional_38 ⟨(Nat.le_of_ble_eq_true rfl), (Nat.le_of_ble_eq_true rfl)⟩) hH hS hA rfl rfl (fun r_96 im_98 H locs hw_97 hH hS => ?_)
          have hH : sj_H D A (hwc g ka im_98 r L d) H := hH
          obtain ⟨hO_100, hfr_99, hr_101, hx2_102⟩ := hw_97
          have hr_101 : (0 : Int) ≤ r_96.toInt ∧ r_96.toInt ≤ 1 := hr_101
          have hct : (j1 403 (j1 36 54).toInt.toNat).toInt = (i 403 (j1 36 54).toInt.toNat).toInt := congrArg Int32.toInt (((hfr_j1 403 (j1 36 54).toInt.toNat (by omega)).trans ((hfr_9 403 (j1 36 54).toInt.toNat (by omega)).trans (up2_o _ _ (by omega)))))
          have hju : (j1 36 55).toInt = (i 36 55).toInt := congrArg Int32.toInt (((hfr_j1 36 55 (by omega)).trans ((hfr_9 36 55 (by omega)).trans (up2_o _ _ (by omega)))))
          refine lv_if_ne (tgt := 14) hx hb dX12_optional_41 (by decide) (fun c_103 => ?_) (fun c_103 => ?_)
          · skip
            have h_104 := s_ne (rfl : r_96.toInt = _) (show (0 : Int32).toInt = 0 from rfl) c_103
            have htk := hx2_102.resolve_right (fun q => by have := q.1; omega)
            have htk2 := htk.2.1
            have htk3 := htk.2.2.1
            have htk4 := htk.2.2.2.1
            have hp_105 : (im_98 36 54).toInt = ((im_98 36 54) : Int32).toInt := rfl
            have hp_106 : (im_98 36 52).toInt = ((im_98 36 52) : Int32).toInt := rfl
            have hp_107 : (im_98 36 49).toInt = ((im_8 36 49) : Int32).toInt := congrArg Int32.toInt (((hfr_99 36 49 (by omega)).trans (hfr_j1 36 49 (by omega))))
            have hp_108 : (im_98 36 54).toInt = ((im_98 36 54) : Int32).toInt := rfl
            exact ih_lp_17  _ _ _ ls (by omega) (by omega) (hi_lp_17_1.trans (op_st (by omega) (by omega) (by omega) (by omega) htk4)) htk.2.2.2.2.2 hO_100 (fun a b ha => ((hfr_99 a b (by omega)).trans (hfr_j1 a b (by omega)))) (lv_sub hl [0, 1] rfl) hH hS
          · skip
            have h_109 := s_eq (rfl : r_96.toInt = _) (show (0 : Int32).toInt = 0 from rfl) c_103
            have htn := (hx2_102.resolve_left (fun q => by have := q.1; omega)).2
            have htn1 := htn.1
            have htn2 := htn.2
            refine lv_iconst (v := 0) hx hb dX12_optional_44 (by decide) ?_
            have hV_110 : ((0 : Int32).toInt = 1 ∧ opL (lnL (i 403) ((i 36 54).toInt + 1) (i 36 55).toInt) 0 = some (lnL (i 403) (im_98 36 54).toInt (i 36 55).toInt) ∧ (i 36 54).toInt + 2 ≤ (im_98 36 54).toInt ∧ (im_98 36 54).toInt ≤ (i 36 55).toInt ∧ (im_98 36 45).toInt = (i 36 45).toInt + 1 ∧ (im_98 36 49).toInt = (i 36 49).toInt + 1 ∧ (im_98 36 52).toInt - (i 36 52).toInt ≤ (im_98 36 54).toInt - (i 36 54).toInt ∧ c4 im_98 = c4 i ∧ exI im_98) ∨ ((0 : Int32).toInt = 0 ∧ opL (lnL (i 403) ((i 36 54).toInt + 1) (i 36 55).toInt) 0 = none) := (Or.inr ⟨by rfl, by rw [hi_lp_17_1]; exact op_escE (by omega) (by omega) (by omega) (by omega)⟩)
            exact sj_zret hx hb hr hlocks (by decide +kernel) hS im_98 ⟨hO_100, (fun a b ha => ((hfr_99 a b (by omega)).trans ((hfr_j1 a b (by omega)).trans ((hfr_9 a b (by omega)).trans (up2_o _ _ (by omega)))))), ⟨by decide, by decide⟩, hV_110⟩ hH (sj_Knil hK) (Nat.le_of_ble_eq_true rfl) (Nat.le_of_ble_eq_true rfl) dX12_optional_45
  have hp_111 : (im_8 36 54).toInt = (z_2 : Int32).toInt := congrArg Int32.toInt (((hfr_9 36 54 (by omega)).trans (up2_at _ _ _ _)))
  have hp_112 : (im_8 36 52).toInt = ((i 36 52) : Int32).toInt := congrArg Int32.toInt (((hfr_9 36 52 (by omega)).trans (up2_k _ _ (by decide))))
  have hp_113 : (im_8 36 49).toInt = ((im_8 36 49) : Int32).toInt := rfl
  have hp_114 : (im_8 36 54).toInt = (z_2 : Int32).toInt := congrArg Int32.toInt (((hfr_9 36 54 (by omega)).trans (up2_at _ _ _ _)))
  exact lp_17 _  _ _ _ ls (Nat.lt_succ_self _) (by omega) (by rw [show (im_8 36 54).toInt = (i 36 54).toInt + 1 by omega, hx2_13]) hx2_11 hO_10 (fun a b ha => rfl) (lv_sub hl [0, 1] rfl) hH hS
set_option maxHeartbeats 2000000 in
set_option maxRecDepth 100000 in
theorem m_blank (l : Launch) (D : va_G) (g : Nat → Nat) (ka : Nat → ClassId) (ad : Nat → Nat) (i : Nat → Nat → Int32) (r : Nat → Nat → Nat) (L : Nat → Nat → Int64) (d : Nat → Nat → UInt64)  (hO : OkI i) (hR : RS r) (sz : Nat) (hp : (i 36 45).toInt ≤ 63) (hpl : (i 36 54).toInt ≤ 719) (hex : exI i) : Met l yX12_blank wsX12_blank ({ frames := 1, cells := 0, slots := 0, locals := 23 }) (va_Pc [.ref (g 36)] (sj_B D (hwc g ka i r L d) (hT ka) sz (gx ad (va_A (hwc g ka i r L d) sz)))) (sj_Qi (S := (Nat → Nat → Int32)) D (fun v u => OkI u ∧ (∀ a b, ¬ ((a = 36 ∧ (b = 45 ∨ b = 54)) ∨ a = 406 ∨ a = 407 ∨ a = 408) → u a b = i a b) ∧ ((1 : Int) ≤ v.toInt ∧ v.toInt ≤ 1) ∧ ((u 36 54).toInt = (i 36 54).toInt + 1 ∧ (u 36 45).toInt = (i 36 45).toInt + 1 ∧ c4 u = c4 i ∧ exI u)) (fun u => hwc g ka u r L d) (fun _ => []) (va_A (hwc g ka i r L d) sz)) 0 0 (va_A (hwc g ka i r L d) sz) := by
  refine x_met (Ex := gx ad) (cc := cX12_blank) (maxL := 1) (ret := (some .boolean)) (by decide) rfl (Nat.le_of_ble_eq_true rfl) ?_
  intro p e s m below meth c A ls hx hb hr hml hts hown hlocks hA hS hH hK hE hl
  have hown : s.vm.findClass RX12 = some m.cls := hown
  have in12 : ∀ w ∈ wsX120, w ∈ wsX12_blank := (fun _ h => (List.mem_cons_of_mem _ (List.mem_append_right _ h)))
  have wd0 := hts (.fieldLink RX12 269 "StoryDeskModel" "place" "I") (List.mem_cons_of_mem _ (List.mem_append_left _ lm0))
  have hl : lv_has ls 1 [(0, .ref (g 36))] := hl
  have hK : va_K D vwCl (hT ka) s := hK
  have hx45 : (0 : Int) ≤ (i 36 45).toInt ∧ (i 36 45).toInt ≤ 64 := hO 36 45
  have hx49 : (0 : Int) ≤ (i 36 49).toInt ∧ (i 36 49).toInt ≤ 64 := hO 36 49
  have hx52 : (0 : Int) ≤ (i 36 52).toInt ∧ (i 36 52).toInt ≤ 64 := hO 36 52
  have hx54 : (0 : Int) ≤ (i 36 54).toInt ∧ (i 36 54).toInt ≤ 720 := hO 36 54
  have hx55 : (0 : Int) ≤ (i 36 55).toInt ∧ (i 36 55).toInt ≤ 720 := hO 36 55
  refine lv_aload_n hx hb dX12_blank_0 rfl (lv_at hl 0 rfl) ?_
  refine lv_iconst (v := 1) hx hb dX12_blank_1 (by decide) ?_
  refine lv_bipush (v := 32) hx hb dX12_blank_2 (by decide) ?_
  refine lv_iconst (v := 0) hx hb dX12_blank_4 (by decide) ?_
  have hl_1 : (1 : Int32).toInt = 1 := rfl
  have hl_2 : (32 : Int32).toInt = 32 := rfl
  have hl_3 : (0 : Int32).toInt = 0 := rfl
  refine x_callv (va_runV (As := [.int 1, .int 32, .int 0]) (rest := []) ⟨hx, hb, hml, hown, hts⟩ (m_addPart l D g ka ad i r L d 1 32 0 hO hR s.heap.size (by first | omega | decide) hex (by unfold pOk; omega)) (cwV 3 hts gX12_blank_X12_addPart rfl rfl rfl (by decide +kernel) ⟨(Nat.le_of_ble_eq_true rfl), (Nat.le_of_ble_eq_true rfl)⟩) (x_preV (q := (RX12, TX12, 86)) hH hK (q_obj (by decide) (rfl : kd 36 = 12) (by decide)) rfl gxb (gxw hE hS (x_F hH hS hA))) rfl rfl hl.1 rfl (lv_room (Nat.le_of_ble_eq_true rfl)) dX12_blank_5 ⟨(Nat.le_of_ble_eq_true rfl), (Nat.le_of_ble_eq_true rfl)⟩) hH hS hA rfl rfl (fun im_6 H locs hw_5 hH hS => ?_)
  have hH : sj_H D A (hwc g ka im_6 r L d) H := hH
  obtain ⟨hO_8, hfr_7, hx2_9, hx2_10, hx2_11⟩ := hw_5
  have hap_12 := hx2_9
  have hc49 : c4 im_6 = c4 i := (hx2_11.resolve_left (fun q => by have := q.1; omega)).2
  refine lv_aload_n hx hb dX12_blank_8 rfl (lv_at hl 0 rfl) ?_
  refine lv_dup hx hb dX12_blank_9 rfl ?_
  have bx_13 : (0 : Int) ≤ (i 36 54).toInt ∧ (i 36 54).toInt ≤ 720 := hO 36 54
  refine h_geti (ci := 12) (C := RX12) (F := TX12) (N := 86) hx hb hts in12 hown hK hH (by decide) (rfl : kd 36 = 12) (by decide) rfl 54 (by decide) wd0 (fun _ h9 => h9) (by decide) rfl dX12_blank_10 ?_
  refine sj_i (y := (i 36 54)) (hfr_7 36 54 (by omega)) ?_
  refine lv_iconst (v := 1) hx hb dX12_blank_13 (by decide) ?_
  refine lv_iadd hx hb dX12_blank_14 ?_
  obtain ⟨z_14, ez_14, hz_14⟩ := s_add (rfl : (i 36 54).toInt = _) (show (1 : Int32).toInt = 1 from rfl) (by omega) (by omega)
  refine sj_i ez_14 ?_
  have hO_15 := okp hO_8 (n := 36) (k := 54) (v := z_14) (show (0 : Int) ≤ (z_14 : Int32).toInt ∧ (z_14 : Int32).toInt ≤ 720 from ⟨by omega, by omega⟩)
  refine h_puti (ty := .int) (ci := 12) (C := RX12) (F := TX12) (N := 86) hx hb hts in12 tyX12 tyX12_ok nmX12 hown hK hH hS (by decide) (rfl : kd 36 = 12) (by decide) rfl 54 (by decide) wd0 (fun _ h9 => h9) rfl (by decide +kernel) rfl rfl (by decide) rfl dX12_blank_15 (fun H locs hH hS => ?_)
  refine lv_iconst (v := 1) hx hb dX12_blank_18 (by decide) ?_
  have hp_16 : ((up2 im_6 36 54 z_14) 36 54).toInt = (z_14 : Int32).toInt := congrArg Int32.toInt ((up2_at _ _ _ _))
  have hp_17 : ((up2 im_6 36 54 z_14) 36 45).toInt = ((im_6 36 45) : Int32).toInt := congrArg Int32.toInt ((up2_k _ _ (by decide)))
  have hV_18 : ((up2 im_6 36 54 z_14) 36 54).toInt = (i 36 54).toInt + 1 ∧ ((up2 im_6 36 54 z_14) 36 45).toInt = (i 36 45).toInt + 1 ∧ c4 (up2 im_6 36 54 z_14) = c4 i ∧ exI (up2 im_6 36 54 z_14) := ⟨by omega, by omega, ((c4_fr (up2_o _ _ (by omega)) (funext fun b => (up2_o _ _ (by omega)))).trans (hc49.trans (c4_fr rfl (funext fun b => rfl)))), (exI_fr hx2_10 (up2_o _ _ (by omega)) (up2_o _ _ (by omega)) (up2_o _ _ (by omega)) (fun a h1 h2 => funext fun b => (up2_o _ _ (by omega))))⟩
  exact sj_zret hx hb hr hlocks (by decide +kernel) hS (up2 im_6 36 54 z_14) ⟨hO_15, (fun a b ha => ((up2_o _ _ (by omega)).trans (hfr_7 a b (by omega)))), ⟨by decide, by decide⟩, hV_18⟩ hH (sj_Knil hK) (Nat.le_of_ble_eq_true rfl) (Nat.le_of_ble_eq_true rfl) dX12_blank_19
set_option maxHeartbeats 2000000 in
set_option maxRecDepth 100000 in
theorem m_parameter_T (l : Launch) (D : va_G) (g : Nat → Nat) (ka : Nat → ClassId) (ad : Nat → Nat) (i : Nat → Nat → Int32) (r : Nat → Nat → Nat) (L : Nat → Nat → Int64) (d : Nat → Nat → UInt64)  (hO : OkI i) (hR : RS r) (sz : Nat) (hpu : (i 36 54).toInt < (i 36 55).toInt) (hul : (i 36 55).toInt ≤ 480) (hp : (i 36 45).toInt ≤ 63) (hex : exI i) : Met l yX12_parameter wsX12_parameter ({ frames := 1, cells := 0, slots := 0, locals := 23 }) (va_Pc [.ref (g 36), .ref (g 379)] (sj_B D (hwc g ka i r L d) (hT ka) sz (gx ad (va_A (hwc g ka i r L d) sz)))) (sj_Qi (S := (Nat → Nat → Int32)) D (fun v u => OkI u ∧ (∀ a b, ¬ ((a = 36 ∧ (b = 45 ∨ b = 54)) ∨ a = 406 ∨ a = 407 ∨ a = 408) → u a b = i a b) ∧ ((0 : Int) ≤ v.toInt ∧ v.toInt ≤ 1) ∧ ((v.toInt = 1 ∧ paL (lnL (i 379) ((i 36 54).toInt + 1) (i 36 55).toInt) = some (lnL (i 379) (u 36 54).toInt (i 36 55).toInt) ∧ (u 36 54).toInt = (i 36 54).toInt + 3 ∧ (u 36 54).toInt ≤ (i 36 55).toInt ∧ (u 36 45).toInt = (i 36 45).toInt + 1 ∧ c4 u = c4 i + 1 ∧ exI u) ∨ (v.toInt = 0 ∧ paL (lnL (i 379) ((i 36 54).toInt + 1) (i 36 55).toInt) = none))) (fun u => hwc g ka u r L d) (fun _ => []) (va_A (hwc g ka i r L d) sz)) 0 0 (va_A (hwc g ka i r L d) sz) := by
  refine x_met (Ex := gx ad) (cc := cX12_parameter) (maxL := 3) (ret := (some .boolean)) (by decide) rfl (Nat.le_of_ble_eq_true rfl) ?_
  intro p e s m below meth c A ls hx hb hr hml hts hown hlocks hA hS hH hK hE hl
  have hown : s.vm.findClass RX12 = some m.cls := hown
  have in12 : ∀ w ∈ wsX120, w ∈ wsX12_parameter := (fun _ h => (List.mem_cons_of_mem _ (List.mem_append_right _ h)))
  have wd0 := hts (.fieldLink RX12 269 "StoryDeskModel" "place" "I") (List.mem_cons_of_mem _ (List.mem_append_left _ lm0))
  have wd1 := hts (.fieldLink RX12 272 "StoryDeskModel" "until" "I") (List.mem_cons_of_mem _ (List.mem_append_left _ lm1))
  have hl : lv_has ls 3 [(0, .ref (g 36)), (1, .ref (g 379))] := hl
  have hK : va_K D vwCl (hT ka) s := hK
  have hx45 : (0 : Int) ≤ (i 36 45).toInt ∧ (i 36 45).toInt ≤ 64 := hO 36 45
  have hx49 : (0 : Int) ≤ (i 36 49).toInt ∧ (i 36 49).toInt ≤ 64 := hO 36 49
  have hx52 : (0 : Int) ≤ (i 36 52).toInt ∧ (i 36 52).toInt ≤ 64 := hO 36 52
  have hx54 : (0 : Int) ≤ (i 36 54).toInt ∧ (i 36 54).toInt ≤ 720 := hO 36 54
  have hx55 : (0 : Int) ≤ (i 36 55).toInt ∧ (i 36 55).toInt ≤ 720 := hO 36 55
  refine lv_aload_n hx hb dX12_parameter_0 rfl (lv_at hl 0 rfl) ?_
  have bx_1 : (0 : Int) ≤ (i 36 54).toInt ∧ (i 36 54).toInt ≤ 720 := hO 36 54
  refine h_geti (ci := 12) (C := RX12) (F := TX12) (N := 86) hx hb hts in12 hown hK hH (by decide) (rfl : kd 36 = 12) (by decide) rfl 54 (by decide) wd0 (fun _ h9 => h9) (by decide) rfl dX12_parameter_1 ?_
  refine lv_iconst (v := 2) hx hb dX12_parameter_4 (by decide) ?_
  refine lv_iadd hx hb dX12_parameter_5 ?_
  obtain ⟨z_2, ez_2, hz_2⟩ := s_add (rfl : (i 36 54).toInt = _) (show (2 : Int32).toInt = 2 from rfl) (by omega) (by omega)
  refine sj_i ez_2 ?_
  refine lv_aload_n hx hb dX12_parameter_6 rfl (lv_at hl 0 rfl) ?_
  have bx_3 : (0 : Int) ≤ (i 36 55).toInt ∧ (i 36 55).toInt ≤ 720 := hO 36 55
  refine h_geti (ci := 12) (C := RX12) (F := TX12) (N := 86) hx hb hts in12 hown hK hH (by decide) (rfl : kd 36 = 12) (by decide) rfl 55 (by decide) wd1 (fun _ h9 => h9) (by decide) rfl dX12_parameter_7 ?_
  refine lv_icmp_ge (tgt := 26) hx hb dX12_parameter_10 (by decide) (fun c_4 => ?_) (fun c_4 => ?_)
  · skip
    have h_5 := s_le (rfl : (i 36 55).toInt = _) (rfl : z_2.toInt = _) c_4
    refine lv_iconst (v := 0) hx hb dX12_parameter_26 (by decide) ?_
    have hV_6 : ((0 : Int32).toInt = 1 ∧ paL (lnL (i 379) ((i 36 54).toInt + 1) (i 36 55).toInt) = some (lnL (i 379) (i 36 54).toInt (i 36 55).toInt) ∧ (i 36 54).toInt = (i 36 54).toInt + 3 ∧ (i 36 54).toInt ≤ (i 36 55).toInt ∧ (i 36 45).toInt = (i 36 45).toInt + 1 ∧ c4 i = c4 i + 1 ∧ exI i) ∨ ((0 : Int32).toInt = 0 ∧ paL (lnL (i 379) ((i 36 54).toInt + 1) (i 36 55).toInt) = none) := (Or.inr ⟨by rfl, pa_no (by omega) (by rw [show (i 36 54).toInt + 1 + 1 = (i 36 54).toInt + 2 by omega]; omega)⟩)
    exact sj_zret hx hb hr hlocks (by decide +kernel) hS i ⟨hO, (fun a b ha => rfl), ⟨by decide, by decide⟩, hV_6⟩ hH (sj_Knil hK) (Nat.le_of_ble_eq_true rfl) (Nat.le_of_ble_eq_true rfl) dX12_parameter_27
  · skip
    have h_7 := s_nle (rfl : (i 36 55).toInt = _) (rfl : z_2.toInt = _) c_4
    refine lv_aload_n hx hb dX12_parameter_13 rfl (lv_at hl 1 rfl) ?_
    refine lv_aload_n hx hb dX12_parameter_14 rfl (lv_at hl 0 rfl) ?_
    refine h_geti (ci := 12) (C := RX12) (F := TX12) (N := 86) hx hb hts in12 hown hK hH (by decide) (rfl : kd 36 = 12) (by decide) rfl 54 (by decide) wd0 (fun _ h9 => h9) (by decide) rfl dX12_parameter_15 ?_
    refine lv_iconst (v := 2) hx hb dX12_parameter_18 (by decide) ?_
    refine lv_iadd hx hb dX12_parameter_19 ?_
    obtain ⟨z_8, ez_8, hz_8⟩ := s_add (rfl : (i 36 54).toInt = _) (show (2 : Int32).toInt = 2 from rfl) (by omega) (by omega)
    refine sj_i ez_8 ?_
    have bx_9 : (0 : Int) ≤ (i 379 ((i 36 54).toInt + 2).toNat).toInt ∧ (i 379 ((i 36 54).toInt + 2).toNat).toInt ≤ 65535 := hO 379 ((i 36 54).toInt + 2).toNat
    refine h_cald hx hb hK hH (by decide) (rfl : kd 379 = 14) (s_vin (N := 480) (rfl : z_8.toInt = _) (rfl : ln 379 = 480) (by omega) (by omega)) dX12_parameter_20 ?_
    have ek_10 : z_8.toNatClampNeg = ((i 36 54).toInt + 2).toNat := (s_cl (show z_8.toInt = (i 36 54).toInt + 2 by omega))
    refine sj_i (y := (i 379 ((i 36 54).toInt + 2).toNat)) (by rw [ek_10]) ?_
    refine lv_bipush (v := 125) hx hb dX12_parameter_21 (by decide) ?_
    refine lv_icmp_eq (tgt := 28) hx hb dX12_parameter_23 (by decide) (fun c_11 => ?_) (fun c_11 => ?_)
    · skip
      have h_12 := s_eq (rfl : (i 379 ((i 36 54).toInt + 2).toNat).toInt = _) (show (125 : Int32).toInt = 125 from rfl) c_11
      refine lv_aload_n hx hb dX12_parameter_28 rfl (lv_at hl 1 rfl) ?_
      refine lv_aload_n hx hb dX12_parameter_29 rfl (lv_at hl 0 rfl) ?_
      refine h_geti (ci := 12) (C := RX12) (F := TX12) (N := 86) hx hb hts in12 hown hK hH (by decide) (rfl : kd 36 = 12) (by decide) rfl 54 (by decide) wd0 (fun _ h9 => h9) (by decide) rfl dX12_parameter_30 ?_
      refine lv_iconst (v := 1) hx hb dX12_parameter_33 (by decide) ?_
      refine lv_iadd hx hb dX12_parameter_34 ?_
      obtain ⟨z_13, ez_13, hz_13⟩ := s_add (rfl : (i 36 54).toInt = _) (show (1 : Int32).toInt = 1 from rfl) (by omega) (by omega)
      refine sj_i ez_13 ?_
      have bx_14 : (0 : Int) ≤ (i 379 ((i 36 54).toInt + 1).toNat).toInt ∧ (i 379 ((i 36 54).toInt + 1).toNat).toInt ≤ 65535 := hO 379 ((i 36 54).toInt + 1).toNat
      refine h_cald hx hb hK hH (by decide) (rfl : kd 379 = 14) (s_vin (N := 480) (rfl : z_13.toInt = _) (rfl : ln 379 = 480) (by omega) (by omega)) dX12_parameter_35 ?_
      have ek_15 : z_13.toNatClampNeg = ((i 36 54).toInt + 1).toNat := (s_cl (show z_13.toInt = (i 36 54).toInt + 1 by omega))
      refine sj_i (y := (i 379 ((i 36 54).toInt + 1).toNat)) (by rw [ek_15]) ?_
      refine lv_istore_n (lv' := [(2, .int (i 379 ((i 36 54).toInt + 1).toNat)), (0, .ref (g 36)), (1, .ref (g 379))]) hx hb dX12_parameter_36 rfl hl (by decide) rfl (fun ls hl => ?_)
      refine lv_iload_n hx hb dX12_parameter_37 rfl (lv_at hl 0 rfl) ?_
      refine lv_bipush (v := 105) hx hb dX12_parameter_38 (by decide) ?_
      refine lv_icmp_eq (tgt := 63) hx hb dX12_parameter_40 (by decide) (fun c_16 => ?_) (fun c_16 => ?_)
      · skip
        have h_17 := s_eq (rfl : (i 379 ((i 36 54).toInt + 1).toNat).toInt = _) (show (105 : Int32).toInt = 105 from rfl) c_16
        refine lv_aload_n hx hb dX12_parameter_63 rfl (lv_at hl 1 rfl) ?_
        refine lv_dup hx hb dX12_parameter_64 rfl ?_
        refine h_geti (ci := 12) (C := RX12) (F := TX12) (N := 86) hx hb hts in12 hown hK hH (by decide) (rfl : kd 36 = 12) (by decide) rfl 54 (by decide) wd0 (fun _ h9 => h9) (by decide) rfl dX12_parameter_65 ?_
        refine lv_iconst (v := 3) hx hb dX12_parameter_68 (by decide) ?_
        refine lv_iadd hx hb dX12_parameter_69 ?_
        obtain ⟨z_18, ez_18, hz_18⟩ := s_add (rfl : (i 36 54).toInt = _) (show (3 : Int32).toInt = 3 from rfl) (by omega) (by omega)
        refine sj_i ez_18 ?_
        have hO_19 := okp hO (n := 36) (k := 54) (v := z_18) (show (0 : Int) ≤ (z_18 : Int32).toInt ∧ (z_18 : Int32).toInt ≤ 720 from ⟨by omega, by omega⟩)
        refine h_puti (ty := .int) (ci := 12) (C := RX12) (F := TX12) (N := 86) hx hb hts in12 tyX12 tyX12_ok nmX12 hown hK hH hS (by decide) (rfl : kd 36 = 12) (by decide) rfl 54 (by decide) wd0 (fun _ h9 => h9) rfl (by decide +kernel) rfl rfl (by decide) rfl dX12_parameter_70 (fun H locs hH hS => ?_)
        refine lv_aload_n hx hb dX12_parameter_73 rfl (lv_at hl 1 rfl) ?_
        refine lv_iconst (v := 4) hx hb dX12_parameter_74 (by decide) ?_
        refine lv_iload_n hx hb dX12_parameter_75 rfl (lv_at hl 0 rfl) ?_
        refine lv_iconst (v := 0) hx hb dX12_parameter_76 (by decide) ?_
        have hl_20 : (4 : Int32).toInt = 4 := rfl
        have hl_21 : (0 : Int32).toInt = 0 := rfl
        have hwt_22 : ((up2 i 36 54 z_18) 36 45).toInt = ((i 36 45) : Int32).toInt := congrArg Int32.toInt (up2_k _ _ (by decide))
        have hwt_23 : ((up2 i 36 54 z_18) 36 49).toInt = ((i 36 49) : Int32).toInt := congrArg Int32.toInt (up2_k _ _ (by decide))
        refine x_callv (va_runV (As := [.int 4, .int (i 379 ((i 36 54).toInt + 1).toNat), .int 0]) (rest := []) ⟨hx, hb, hml, hown, hts⟩ (m_addPart l D g ka ad (up2 i 36 54 z_18) r L d 4 (i 379 ((i 36 54).toInt + 1).toNat) 0 hO_19 hR H.size (by first | omega | decide) (exI_fr hex (up2_o _ _ (by omega)) (up2_o _ _ (by omega)) (up2_o _ _ (by omega)) (fun a h1 h2 => funext fun b => (up2_o _ _ (by omega)))) (by unfold pOk; omega)) (cwV 3 hts gX12_parameter_X12_addPart rfl rfl rfl (by decide +kernel) ⟨(Nat.le_of_ble_eq_true rfl), (Nat.le_of_ble_eq_true rfl)⟩) (x_preV (q := (RX12, TX12, 86)) hH hK (q_obj (by decide) (rfl : kd 36 = 12) (by decide)) rfl gxb (gxw hE hS (x_F hH hS hA))) rfl rfl hl.1 rfl (lv_room (Nat.le_of_ble_eq_true rfl)) dX12_parameter_77 ⟨(Nat.le_of_ble_eq_true rfl), (Nat.le_of_ble_eq_true rfl)⟩) hH hS hA rfl rfl (fun im_26 H locs hw_25 hH hS => ?_)
        have hH : sj_H D A (hwc g ka im_26 r L d) H := hH
        obtain ⟨hO_28, hfr_27, hx2_29, hx2_30, hx2_31⟩ := hw_25
        have hap_32 := hx2_29
        have hc49 : c4 im_26 = c4 (up2 i 36 54 z_18) + 1 := (hx2_31.resolve_right (fun q => by have := q.1; omega)).2
        refine lv_iconst (v := 1) hx hb dX12_parameter_80 (by decide) ?_
        have hp_33 : (im_26 36 54).toInt = (z_18 : Int32).toInt := congrArg Int32.toInt (((hfr_27 36 54 (by omega)).trans (up2_at _ _ _ _)))
        have hp_34 : (im_26 36 45).toInt = ((im_26 36 45) : Int32).toInt := rfl
        have hV_35 : ((1 : Int32).toInt = 1 ∧ paL (lnL (i 379) ((i 36 54).toInt + 1) (i 36 55).toInt) = some (lnL (i 379) (im_26 36 54).toInt (i 36 55).toInt) ∧ (im_26 36 54).toInt = (i 36 54).toInt + 3 ∧ (im_26 36 54).toInt ≤ (i 36 55).toInt ∧ (im_26 36 45).toInt = (i 36 45).toInt + 1 ∧ c4 im_26 = c4 i + 1 ∧ exI im_26) ∨ ((1 : Int32).toInt = 0 ∧ paL (lnL (i 379) ((i 36 54).toInt + 1) (i 36 55).toInt) = none) := (Or.inl ⟨by rfl, by rw [pa_ok (by omega) (by omega) (by rw [show (i 36 54).toInt + 1 + 1 = (i 36 54).toInt + 2 by omega]; omega) (by omega), show (i 36 54).toInt + 1 + 2 = (im_26 36 54).toInt by omega], by omega, by omega, by omega, (hc49.trans (by rw [(c4_fr (up2_o _ _ (by omega)) (funext fun b => (up2_o _ _ (by omega))))])), hx2_30⟩)
        exact sj_zret hx hb hr hlocks (by decide +kernel) hS im_26 ⟨hO_28, (fun a b ha => ((hfr_27 a b (by omega)).trans (up2_o _ _ (by omega)))), ⟨by decide, by decide⟩, hV_35⟩ hH (sj_Knil hK) (Nat.le_of_ble_eq_true rfl) (Nat.le_of_ble_eq_true rfl) dX12_parameter_81
      · skip
        have h_36 := s_ne (rfl : (i 379 ((i 36 54).toInt + 1).toNat).toInt = _) (show (105 : Int32).toInt = 105 from rfl) c_16
        refine lv_iload_n hx hb dX12_parameter_43 rfl (lv_at hl 0 rfl) ?_
        refine lv_bipush (v := 100) hx hb dX12_parameter_44 (by decide) ?_
        refine lv_icmp_eq (tgt := 63) hx hb dX12_parameter_46 (by decide) (fun c_37 => ?_) (fun c_37 => ?_)
        · skip
          have h_38 := s_eq (rfl : (i 379 ((i 36 54).toInt + 1).toNat).toInt = _) (show (100 : Int32).toInt = 100 from rfl) c_37
          refine lv_aload_n hx hb dX12_parameter_63 rfl (lv_at hl 1 rfl) ?_
          refine lv_dup hx hb dX12_parameter_64 rfl ?_
          refine h_geti (ci := 12) (C := RX12) (F := TX12) (N := 86) hx hb hts in12 hown hK hH (by decide) (rfl : kd 36 = 12) (by decide) rfl 54 (by decide) wd0 (fun _ h9 => h9) (by decide) rfl dX12_parameter_65 ?_
          refine lv_iconst (v := 3) hx hb dX12_parameter_68 (by decide) ?_
          refine lv_iadd hx hb dX12_parameter_69 ?_
          obtain ⟨z_39, ez_39, hz_39⟩ := s_add (rfl : (i 36 54).toInt = _) (show (3 : Int32).toInt = 3 from rfl) (by omega) (by omega)
          refine sj_i ez_39 ?_
          have hO_40 := okp hO (n := 36) (k := 54) (v := z_39) (show (0 : Int) ≤ (z_39 : Int32).toInt ∧ (z_39 : Int32).toInt ≤ 720 from ⟨by omega, by omega⟩)
          refine h_puti (ty := .int) (ci := 12) (C := RX12) (F := TX12) (N := 86) hx hb hts in12 tyX12 tyX12_ok nmX12 hown hK hH hS (by decide) (rfl : kd 36 = 12) (by decide) rfl 54 (by decide) wd0 (fun _ h9 => h9) rfl (by decide +kernel) rfl rfl (by decide) rfl dX12_parameter_70 (fun H locs hH hS => ?_)
          refine lv_aload_n hx hb dX12_parameter_73 rfl (lv_at hl 1 rfl) ?_
          refine lv_iconst (v := 4) hx hb dX12_parameter_74 (by decide) ?_
          refine lv_iload_n hx hb dX12_parameter_75 rfl (lv_at hl 0 rfl) ?_
          refine lv_iconst (v := 0) hx hb dX12_parameter_76 (by decide) ?_
          have hl_41 : (4 : Int32).toInt = 4 := rfl
          have hl_42 : (0 : Int32).toInt = 0 := rfl
          have hwt_43 : ((up2 i 36 54 z_39) 36 45).toInt = ((i 36 45) : Int32).toInt := congrArg Int32.toInt (up2_k _ _ (by decide))
          have hwt_44 : ((up2 i 36 54 z_39) 36 49).toInt = ((i 36 49) : Int32).toInt := congrArg Int32.toInt (up2_k _ _ (by decide))
          refine x_callv (va_runV (As := [.int 4, .int (i 379 ((i 36 54).toInt + 1).toNat), .int 0]) (rest := []) ⟨hx, hb, hml, hown, hts⟩ (m_addPart l D g ka ad (up2 i 36 54 z_39) r L d 4 (i 379 ((i 36 54).toInt + 1).toNat) 0 hO_40 hR H.size (by first | omega | decide) (exI_fr hex (up2_o _ _ (by omega)) (up2_o _ _ (by omega)) (up2_o _ _ (by omega)) (fun a h1 h2 => funext fun b => (up2_o _ _ (by omega)))) (by unfold pOk; omega)) (cwV 3 hts gX12_parameter_X12_addPart rfl rfl rfl (by decide +kernel) ⟨(Nat.le_of_ble_eq_true rfl), (Nat.le_of_ble_eq_true rfl)⟩) (x_preV (q := (RX12, TX12, 86)) hH hK (q_obj (by decide) (rfl : kd 36 = 12) (by decide)) rfl gxb (gxw hE hS (x_F hH hS hA))) rfl rfl hl.1 rfl (lv_room (Nat.le_of_ble_eq_true rfl)) dX12_parameter_77 ⟨(Nat.le_of_ble_eq_true rfl), (Nat.le_of_ble_eq_true rfl)⟩) hH hS hA rfl rfl (fun im_47 H locs hw_46 hH hS => ?_)
          have hH : sj_H D A (hwc g ka im_47 r L d) H := hH
          obtain ⟨hO_49, hfr_48, hx2_50, hx2_51, hx2_52⟩ := hw_46
          have hap_53 := hx2_50
          have hc49 : c4 im_47 = c4 (up2 i 36 54 z_39) + 1 := (hx2_52.resolve_right (fun q => by have := q.1; omega)).2
          refine lv_iconst (v := 1) hx hb dX12_parameter_80 (by decide) ?_
          have hp_54 : (im_47 36 54).toInt = (z_39 : Int32).toInt := congrArg Int32.toInt (((hfr_48 36 54 (by omega)).trans (up2_at _ _ _ _)))
          have hp_55 : (im_47 36 45).toInt = ((im_47 36 45) : Int32).toInt := rfl
          have hV_56 : ((1 : Int32).toInt = 1 ∧ paL (lnL (i 379) ((i 36 54).toInt + 1) (i 36 55).toInt) = some (lnL (i 379) (im_47 36 54).toInt (i 36 55).toInt) ∧ (im_47 36 54).toInt = (i 36 54).toInt + 3 ∧ (im_47 36 54).toInt ≤ (i 36 55).toInt ∧ (im_47 36 45).toInt = (i 36 45).toInt + 1 ∧ c4 im_47 = c4 i + 1 ∧ exI im_47) ∨ ((1 : Int32).toInt = 0 ∧ paL (lnL (i 379) ((i 36 54).toInt + 1) (i 36 55).toInt) = none) := (Or.inl ⟨by rfl, by rw [pa_ok (by omega) (by omega) (by rw [show (i 36 54).toInt + 1 + 1 = (i 36 54).toInt + 2 by omega]; omega) (by omega), show (i 36 54).toInt + 1 + 2 = (im_47 36 54).toInt by omega], by omega, by omega, by omega, (hc49.trans (by rw [(c4_fr (up2_o _ _ (by omega)) (funext fun b => (up2_o _ _ (by omega))))])), hx2_51⟩)
          exact sj_zret hx hb hr hlocks (by decide +kernel) hS im_47 ⟨hO_49, (fun a b ha => ((hfr_48 a b (by omega)).trans (up2_o _ _ (by omega)))), ⟨by decide, by decide⟩, hV_56⟩ hH (sj_Knil hK) (Nat.le_of_ble_eq_true rfl) (Nat.le_of_ble_eq_true rfl) dX12_parameter_81
        · skip
          have h_57 := s_ne (rfl : (i 379 ((i 36 54).toInt + 1).toNat).toInt = _) (show (100 : Int32).toInt = 100 from rfl) c_37
          refine lv_iload_n hx hb dX12_parameter_49 rfl (lv_at hl 0 rfl) ?_
          refine lv_bipush (v := 119) hx hb dX12_parameter_50 (by decide) ?_
          refine lv_icmp_eq (tgt := 63) hx hb dX12_parameter_52 (by decide) (fun c_58 => ?_) (fun c_58 => ?_)
          · skip
            have h_59 := s_eq (rfl : (i 379 ((i 36 54).toInt + 1).toNat).toInt = _) (show (119 : Int32).toInt = 119 from rfl) c_58
            refine lv_aload_n hx hb dX12_parameter_63 rfl (lv_at hl 1 rfl) ?_
            refine lv_dup hx hb dX12_parameter_64 rfl ?_
            refine h_geti (ci := 12) (C := RX12) (F := TX12) (N := 86) hx hb hts in12 hown hK hH (by decide) (rfl : kd 36 = 12) (by decide) rfl 54 (by decide) wd0 (fun _ h9 => h9) (by decide) rfl dX12_parameter_65 ?_
            refine lv_iconst (v := 3) hx hb dX12_parameter_68 (by decide) ?_
            refine lv_iadd hx hb dX12_parameter_69 ?_
            obtain ⟨z_60, ez_60, hz_60⟩ := s_add (rfl : (i 36 54).toInt = _) (show (3 : Int32).toInt = 3 from rfl) (by omega) (by omega)
            refine sj_i ez_60 ?_
            have hO_61 := okp hO (n := 36) (k := 54) (v := z_60) (show (0 : Int) ≤ (z_60 : Int32).toInt ∧ (z_60 : Int32).toInt ≤ 720 from ⟨by omega, by omega⟩)
            refine h_puti (ty := .int) (ci := 12) (C := RX12) (F := TX12) (N := 86) hx hb hts in12 tyX12 tyX12_ok nmX12 hown hK hH hS (by decide) (rfl : kd 36 = 12) (by decide) rfl 54 (by decide) wd0 (fun _ h9 => h9) rfl (by decide +kernel) rfl rfl (by decide) rfl dX12_parameter_70 (fun H locs hH hS => ?_)
            refine lv_aload_n hx hb dX12_parameter_73 rfl (lv_at hl 1 rfl) ?_
            refine lv_iconst (v := 4) hx hb dX12_parameter_74 (by decide) ?_
            refine lv_iload_n hx hb dX12_parameter_75 rfl (lv_at hl 0 rfl) ?_
            refine lv_iconst (v := 0) hx hb dX12_parameter_76 (by decide) ?_
            have hl_62 : (4 : Int32).toInt = 4 := rfl
            have hl_63 : (0 : Int32).toInt = 0 := rfl
            have hwt_64 : ((up2 i 36 54 z_60) 36 45).toInt = ((i 36 45) : Int32).toInt := congrArg Int32.toInt (up2_k _ _ (by decide))
            have hwt_65 : ((up2 i 36 54 z_60) 36 49).toInt = ((i 36 49) : Int32).toInt := congrArg Int32.toInt (up2_k _ _ (by decide))
            refine x_callv (va_runV (As := [.int 4, .int (i 379 ((i 36 54).toInt + 1).toNat), .int 0]) (rest := []) ⟨hx, hb, hml, hown, hts⟩ (m_addPart l D g ka ad (up2 i 36 54 z_60) r L d 4 (i 379 ((i 36 54).toInt + 1).toNat) 0 hO_61 hR H.size (by first | omega | decide) (exI_fr hex (up2_o _ _ (by omega)) (up2_o _ _ (by omega)) (up2_o _ _ (by omega)) (fun a h1 h2 => funext fun b => (up2_o _ _ (by omega)))) (by unfold pOk; omega)) (cwV 3 hts gX12_parameter_X12_addPart rfl rfl rfl (by decide +kernel) ⟨(Nat.le_of_ble_eq_true rfl), (Nat.le_of_ble_eq_true rfl)⟩) (x_preV (q := (RX12, TX12, 86)) hH hK (q_obj (by decide) (rfl : kd 36 = 12) (by decide)) rfl gxb (gxw hE hS (x_F hH hS hA))) rfl rfl hl.1 rfl (lv_room (Nat.le_of_ble_eq_true rfl)) dX12_parameter_77 ⟨(Nat.le_of_ble_eq_true rfl), (Nat.le_of_ble_eq_true rfl)⟩) hH hS hA rfl rfl (fun im_68 H locs hw_67 hH hS => ?_)
            have hH : sj_H D A (hwc g ka im_68 r L d) H := hH
            obtain ⟨hO_70, hfr_69, hx2_71, hx2_72, hx2_73⟩ := hw_67
            have hap_74 := hx2_71
            have hc49 : c4 im_68 = c4 (up2 i 36 54 z_60) + 1 := (hx2_73.resolve_right (fun q => by have := q.1; omega)).2
            refine lv_iconst (v := 1) hx hb dX12_parameter_80 (by decide) ?_
            have hp_75 : (im_68 36 54).toInt = (z_60 : Int32).toInt := congrArg Int32.toInt (((hfr_69 36 54 (by omega)).trans (up2_at _ _ _ _)))
            have hp_76 : (im_68 36 45).toInt = ((im_68 36 45) : Int32).toInt := rfl
            have hV_77 : ((1 : Int32).toInt = 1 ∧ paL (lnL (i 379) ((i 36 54).toInt + 1) (i 36 55).toInt) = some (lnL (i 379) (im_68 36 54).toInt (i 36 55).toInt) ∧ (im_68 36 54).toInt = (i 36 54).toInt + 3 ∧ (im_68 36 54).toInt ≤ (i 36 55).toInt ∧ (im_68 36 45).toInt = (i 36 45).toInt + 1 ∧ c4 im_68 = c4 i + 1 ∧ exI im_68) ∨ ((1 : Int32).toInt = 0 ∧ paL (lnL (i 379) ((i 36 54).toInt + 1) (i 36 55).toInt) = none) := (Or.inl ⟨by rfl, by rw [pa_ok (by omega) (by omega) (by rw [show (i 36 54).toInt + 1 + 1 = (i 36 54).toInt + 2 by omega]; omega) (by omega), show (i 36 54).toInt + 1 + 2 = (im_68 36 54).toInt by omega], by omega, by omega, by omega, (hc49.trans (by rw [(c4_fr (up2_o _ _ (by omega)) (funext fun b => (up2_o _ _ (by omega))))])), hx2_72⟩)
            exact sj_zret hx hb hr hlocks (by decide +kernel) hS im_68 ⟨hO_70, (fun a b ha => ((hfr_69 a b (by omega)).trans (up2_o _ _ (by omega)))), ⟨by decide, by decide⟩, hV_77⟩ hH (sj_Knil hK) (Nat.le_of_ble_eq_true rfl) (Nat.le_of_ble_eq_true rfl) dX12_parameter_81
          · skip
            have h_78 := s_ne (rfl : (i 379 ((i 36 54).toInt + 1).toNat).toInt = _) (show (119 : Int32).toInt = 119 from rfl) c_58
            refine lv_iload_n hx hb dX12_parameter_55 rfl (lv_at hl 0 rfl) ?_
            refine lv_bipush (v := 115) hx hb dX12_parameter_56 (by decide) ?_
            refine lv_icmp_eq (tgt := 63) hx hb dX12_parameter_58 (by decide) (fun c_79 => ?_) (fun c_79 => ?_)
            · skip
              have h_80 := s_eq (rfl : (i 379 ((i 36 54).toInt + 1).toNat).toInt = _) (show (115 : Int32).toInt = 115 from rfl) c_79
              refine lv_aload_n hx hb dX12_parameter_63 rfl (lv_at hl 1 rfl) ?_
              refine lv_dup hx hb dX12_parameter_64 rfl ?_
              refine h_geti (ci := 12) (C := RX12) (F := TX12) (N := 86) hx hb hts in12 hown hK hH (by decide) (rfl : kd 36 = 12) (by decide) rfl 54 (by decide) wd0 (fun _ h9 => h9) (by decide) rfl dX12_parameter_65 ?_
              refine lv_iconst (v := 3) hx hb dX12_parameter_68 (by decide) ?_
              refine lv_iadd hx hb dX12_parameter_69 ?_
              obtain ⟨z_81, ez_81, hz_81⟩ := s_add (rfl : (i 36 54).toInt = _) (show (3 : Int32).toInt = 3 from rfl) (by omega) (by omega)
              refine sj_i ez_81 ?_
              have hO_82 := okp hO (n := 36) (k := 54) (v := z_81) (show (0 : Int) ≤ (z_81 : Int32).toInt ∧ (z_81 : Int32).toInt ≤ 720 from ⟨by omega, by omega⟩)
              refine h_puti (ty := .int) (ci := 12) (C := RX12) (F := TX12) (N := 86) hx hb hts in12 tyX12 tyX12_ok nmX12 hown hK hH hS (by decide) (rfl : kd 36 = 12) (by decide) rfl 54 (by decide) wd0 (fun _ h9 => h9) rfl (by decide +kernel) rfl rfl (by decide) rfl dX12_parameter_70 (fun H locs hH hS => ?_)
              refine lv_aload_n hx hb dX12_parameter_73 rfl (lv_at hl 1 rfl) ?_
              refine lv_iconst (v := 4) hx hb dX12_parameter_74 (by decide) ?_
              refine lv_iload_n hx hb dX12_parameter_75 rfl (lv_at hl 0 rfl) ?_
              refine lv_iconst (v := 0) hx hb dX12_parameter_76 (by decide) ?_
              have hl_83 : (4 : Int32).toInt = 4 := rfl
              have hl_84 : (0 : Int32).toInt = 0 := rfl
              have hwt_85 : ((up2 i 36 54 z_81) 36 45).toInt = ((i 36 45) : Int32).toInt := congrArg Int32.toInt (up2_k _ _ (by decide))
              have hwt_86 : ((up2 i 36 54 z_81) 36 49).toInt = ((i 36 49) : Int32).toInt := congrArg Int32.toInt (up2_k _ _ (by decide))
              refine x_callv (va_runV (As := [.int 4, .int (i 379 ((i 36 54).toInt + 1).toNat), .int 0]) (rest := []) ⟨hx, hb, hml, hown, hts⟩ (m_addPart l D g ka ad (up2 i 36 54 z_81) r L d 4 (i 379 ((i 36 54).toInt + 1).toNat) 0 hO_82 hR H.size (by first | omega | decide) (exI_fr hex (up2_o _ _ (by omega)) (up2_o _ _ (by omega)) (up2_o _ _ (by omega)) (fun a h1 h2 => funext fun b => (up2_o _ _ (by omega)))) (by unfold pOk; omega)) (cwV 3 hts gX12_parameter_X12_addPart rfl rfl rfl (by decide +kernel) ⟨(Nat.le_of_ble_eq_true rfl), (Nat.le_of_ble_eq_true rfl)⟩) (x_preV (q := (RX12, TX12, 86)) hH hK (q_obj (by decide) (rfl : kd 36 = 12) (by decide)) rfl gxb (gxw hE hS (x_F hH hS hA))) rfl rfl hl.1 rfl (lv_room (Nat.le_of_ble_eq_true rfl)) dX12_parameter_77 ⟨(Nat.le_of_ble_eq_true rfl), (Nat.le_of_ble_eq_true rfl)⟩) hH hS hA rfl rfl (fun im_89 H locs hw_88 hH hS => ?_)
              have hH : sj_H D A (hwc g ka im_89 r L d) H := hH
              obtain ⟨hO_91, hfr_90, hx2_92, hx2_93, hx2_94⟩ := hw_88
              have hap_95 := hx2_92
              have hc49 : c4 im_89 = c4 (up2 i 36 54 z_81) + 1 := (hx2_94.resolve_right (fun q => by have := q.1; omega)).2
              refine lv_iconst (v := 1) hx hb dX12_parameter_80 (by decide) ?_
              have hp_96 : (im_89 36 54).toInt = (z_81 : Int32).toInt := congrArg Int32.toInt (((hfr_90 36 54 (by omega)).trans (up2_at _ _ _ _)))
              have hp_97 : (im_89 36 45).toInt = ((im_89 36 45) : Int32).toInt := rfl
              have hV_98 : ((1 : Int32).toInt = 1 ∧ paL (lnL (i 379) ((i 36 54).toInt + 1) (i 36 55).toInt) = some (lnL (i 379) (im_89 36 54).toInt (i 36 55).toInt) ∧ (im_89 36 54).toInt = (i 36 54).toInt + 3 ∧ (im_89 36 54).toInt ≤ (i 36 55).toInt ∧ (im_89 36 45).toInt = (i 36 45).toInt + 1 ∧ c4 im_89 = c4 i + 1 ∧ exI im_89) ∨ ((1 : Int32).toInt = 0 ∧ paL (lnL (i 379) ((i 36 54).toInt + 1) (i 36 55).toInt) = none) := (Or.inl ⟨by rfl, by rw [pa_ok (by omega) (by omega) (by rw [show (i 36 54).toInt + 1 + 1 = (i 36 54).toInt + 2 by omega]; omega) (by omega), show (i 36 54).toInt + 1 + 2 = (im_89 36 54).toInt by omega], by omega, by omega, by omega, (hc49.trans (by rw [(c4_fr (up2_o _ _ (by omega)) (funext fun b => (up2_o _ _ (by omega))))])), hx2_93⟩)
              exact sj_zret hx hb hr hlocks (by decide +kernel) hS im_89 ⟨hO_91, (fun a b ha => ((hfr_90 a b (by omega)).trans (up2_o _ _ (by omega)))), ⟨by decide, by decide⟩, hV_98⟩ hH (sj_Knil hK) (Nat.le_of_ble_eq_true rfl) (Nat.le_of_ble_eq_true rfl) dX12_parameter_81
            · skip
              have h_99 := s_ne (rfl : (i 379 ((i 36 54).toInt + 1).toNat).toInt = _) (show (115 : Int32).toInt = 115 from rfl) c_79
              refine lv_iconst (v := 0) hx hb dX12_parameter_61 (by decide) ?_
              have hV_100 : ((0 : Int32).toInt = 1 ∧ paL (lnL (i 379) ((i 36 54).toInt + 1) (i 36 55).toInt) = some (lnL (i 379) (i 36 54).toInt (i 36 55).toInt) ∧ (i 36 54).toInt = (i 36 54).toInt + 3 ∧ (i 36 54).toInt ≤ (i 36 55).toInt ∧ (i 36 45).toInt = (i 36 45).toInt + 1 ∧ c4 i = c4 i + 1 ∧ exI i) ∨ ((0 : Int32).toInt = 0 ∧ paL (lnL (i 379) ((i 36 54).toInt + 1) (i 36 55).toInt) = none) := (Or.inr ⟨by rfl, pa_no (by omega) (by rw [show (i 36 54).toInt + 1 + 1 = (i 36 54).toInt + 2 by omega]; omega)⟩)
              exact sj_zret hx hb hr hlocks (by decide +kernel) hS i ⟨hO, (fun a b ha => rfl), ⟨by decide, by decide⟩, hV_100⟩ hH (sj_Knil hK) (Nat.le_of_ble_eq_true rfl) (Nat.le_of_ble_eq_true rfl) dX12_parameter_62
    · skip
      have h_101 := s_ne (rfl : (i 379 ((i 36 54).toInt + 2).toNat).toInt = _) (show (125 : Int32).toInt = 125 from rfl) c_11
      refine lv_iconst (v := 0) hx hb dX12_parameter_26 (by decide) ?_
      have hV_102 : ((0 : Int32).toInt = 1 ∧ paL (lnL (i 379) ((i 36 54).toInt + 1) (i 36 55).toInt) = some (lnL (i 379) (i 36 54).toInt (i 36 55).toInt) ∧ (i 36 54).toInt = (i 36 54).toInt + 3 ∧ (i 36 54).toInt ≤ (i 36 55).toInt ∧ (i 36 45).toInt = (i 36 45).toInt + 1 ∧ c4 i = c4 i + 1 ∧ exI i) ∨ ((0 : Int32).toInt = 0 ∧ paL (lnL (i 379) ((i 36 54).toInt + 1) (i 36 55).toInt) = none) := (Or.inr ⟨by rfl, pa_no (by omega) (by rw [show (i 36 54).toInt + 1 + 1 = (i 36 54).toInt + 2 by omega]; omega)⟩)
      exact sj_zret hx hb hr hlocks (by decide +kernel) hS i ⟨hO, (fun a b ha => rfl), ⟨by decide, by decide⟩, hV_102⟩ hH (sj_Knil hK) (Nat.le_of_ble_eq_true rfl) (Nat.le_of_ble_eq_true rfl) dX12_parameter_27
set_option maxHeartbeats 2000000 in
set_option maxRecDepth 100000 in
theorem m_parameter_W (l : Launch) (D : va_G) (g : Nat → Nat) (ka : Nat → ClassId) (ad : Nat → Nat) (i : Nat → Nat → Int32) (r : Nat → Nat → Nat) (L : Nat → Nat → Int64) (d : Nat → Nat → UInt64)  (hO : OkI i) (hR : RS r) (sz : Nat) (hpu : (i 36 54).toInt < (i 36 55).toInt) (hul : (i 36 55).toInt ≤ 720) (hp : (i 36 45).toInt ≤ 63) (hex : exI i) : Met l yX12_parameter wsX12_parameter ({ frames := 1, cells := 0, slots := 0, locals := 23 }) (va_Pc [.ref (g 36), .ref (g 403)] (sj_B D (hwc g ka i r L d) (hT ka) sz (gx ad (va_A (hwc g ka i r L d) sz)))) (sj_Qi (S := (Nat → Nat → Int32)) D (fun v u => OkI u ∧ (∀ a b, ¬ ((a = 36 ∧ (b = 45 ∨ b = 54)) ∨ a = 406 ∨ a = 407 ∨ a = 408) → u a b = i a b) ∧ ((0 : Int) ≤ v.toInt ∧ v.toInt ≤ 1) ∧ ((v.toInt = 1 ∧ paL (lnL (i 403) ((i 36 54).toInt + 1) (i 36 55).toInt) = some (lnL (i 403) (u 36 54).toInt (i 36 55).toInt) ∧ (u 36 54).toInt = (i 36 54).toInt + 3 ∧ (u 36 54).toInt ≤ (i 36 55).toInt ∧ (u 36 45).toInt = (i 36 45).toInt + 1 ∧ c4 u = c4 i + 1 ∧ exI u) ∨ (v.toInt = 0 ∧ paL (lnL (i 403) ((i 36 54).toInt + 1) (i 36 55).toInt) = none))) (fun u => hwc g ka u r L d) (fun _ => []) (va_A (hwc g ka i r L d) sz)) 0 0 (va_A (hwc g ka i r L d) sz) := by
  refine x_met (Ex := gx ad) (cc := cX12_parameter) (maxL := 3) (ret := (some .boolean)) (by decide) rfl (Nat.le_of_ble_eq_true rfl) ?_
  intro p e s m below meth c A ls hx hb hr hml hts hown hlocks hA hS hH hK hE hl
  have hown : s.vm.findClass RX12 = some m.cls := hown
  have in12 : ∀ w ∈ wsX120, w ∈ wsX12_parameter := (fun _ h => (List.mem_cons_of_mem _ (List.mem_append_right _ h)))
  have wd0 := hts (.fieldLink RX12 269 "StoryDeskModel" "place" "I") (List.mem_cons_of_mem _ (List.mem_append_left _ lm0))
  have wd1 := hts (.fieldLink RX12 272 "StoryDeskModel" "until" "I") (List.mem_cons_of_mem _ (List.mem_append_left _ lm1))
  have hl : lv_has ls 3 [(0, .ref (g 36)), (1, .ref (g 403))] := hl
  have hK : va_K D vwCl (hT ka) s := hK
  have hx45 : (0 : Int) ≤ (i 36 45).toInt ∧ (i 36 45).toInt ≤ 64 := hO 36 45
  have hx49 : (0 : Int) ≤ (i 36 49).toInt ∧ (i 36 49).toInt ≤ 64 := hO 36 49
  have hx52 : (0 : Int) ≤ (i 36 52).toInt ∧ (i 36 52).toInt ≤ 64 := hO 36 52
  have hx54 : (0 : Int) ≤ (i 36 54).toInt ∧ (i 36 54).toInt ≤ 720 := hO 36 54
  have hx55 : (0 : Int) ≤ (i 36 55).toInt ∧ (i 36 55).toInt ≤ 720 := hO 36 55
  refine lv_aload_n hx hb dX12_parameter_0 rfl (lv_at hl 0 rfl) ?_
  have bx_1 : (0 : Int) ≤ (i 36 54).toInt ∧ (i 36 54).toInt ≤ 720 := hO 36 54
  refine h_geti (ci := 12) (C := RX12) (F := TX12) (N := 86) hx hb hts in12 hown hK hH (by decide) (rfl : kd 36 = 12) (by decide) rfl 54 (by decide) wd0 (fun _ h9 => h9) (by decide) rfl dX12_parameter_1 ?_
  refine lv_iconst (v := 2) hx hb dX12_parameter_4 (by decide) ?_
  refine lv_iadd hx hb dX12_parameter_5 ?_
  obtain ⟨z_2, ez_2, hz_2⟩ := s_add (rfl : (i 36 54).toInt = _) (show (2 : Int32).toInt = 2 from rfl) (by omega) (by omega)
  refine sj_i ez_2 ?_
  refine lv_aload_n hx hb dX12_parameter_6 rfl (lv_at hl 0 rfl) ?_
  have bx_3 : (0 : Int) ≤ (i 36 55).toInt ∧ (i 36 55).toInt ≤ 720 := hO 36 55
  refine h_geti (ci := 12) (C := RX12) (F := TX12) (N := 86) hx hb hts in12 hown hK hH (by decide) (rfl : kd 36 = 12) (by decide) rfl 55 (by decide) wd1 (fun _ h9 => h9) (by decide) rfl dX12_parameter_7 ?_
  refine lv_icmp_ge (tgt := 26) hx hb dX12_parameter_10 (by decide) (fun c_4 => ?_) (fun c_4 => ?_)
  · skip
    have h_5 := s_le (rfl : (i 36 55).toInt = _) (rfl : z_2.toInt = _) c_4
    refine lv_iconst (v := 0) hx hb dX12_parameter_26 (by decide) ?_
    have hV_6 : ((0 : Int32).toInt = 1 ∧ paL (lnL (i 403) ((i 36 54).toInt + 1) (i 36 55).toInt) = some (lnL (i 403) (i 36 54).toInt (i 36 55).toInt) ∧ (i 36 54).toInt = (i 36 54).toInt + 3 ∧ (i 36 54).toInt ≤ (i 36 55).toInt ∧ (i 36 45).toInt = (i 36 45).toInt + 1 ∧ c4 i = c4 i + 1 ∧ exI i) ∨ ((0 : Int32).toInt = 0 ∧ paL (lnL (i 403) ((i 36 54).toInt + 1) (i 36 55).toInt) = none) := (Or.inr ⟨by rfl, pa_no (by omega) (by rw [show (i 36 54).toInt + 1 + 1 = (i 36 54).toInt + 2 by omega]; omega)⟩)
    exact sj_zret hx hb hr hlocks (by decide +kernel) hS i ⟨hO, (fun a b ha => rfl), ⟨by decide, by decide⟩, hV_6⟩ hH (sj_Knil hK) (Nat.le_of_ble_eq_true rfl) (Nat.le_of_ble_eq_true rfl) dX12_parameter_27
  · skip
    have h_7 := s_nle (rfl : (i 36 55).toInt = _) (rfl : z_2.toInt = _) c_4
    refine lv_aload_n hx hb dX12_parameter_13 rfl (lv_at hl 1 rfl) ?_
    refine lv_aload_n hx hb dX12_parameter_14 rfl (lv_at hl 0 rfl) ?_
    refine h_geti (ci := 12) (C := RX12) (F := TX12) (N := 86) hx hb hts in12 hown hK hH (by decide) (rfl : kd 36 = 12) (by decide) rfl 54 (by decide) wd0 (fun _ h9 => h9) (by decide) rfl dX12_parameter_15 ?_
    refine lv_iconst (v := 2) hx hb dX12_parameter_18 (by decide) ?_
    refine lv_iadd hx hb dX12_parameter_19 ?_
    obtain ⟨z_8, ez_8, hz_8⟩ := s_add (rfl : (i 36 54).toInt = _) (show (2 : Int32).toInt = 2 from rfl) (by omega) (by omega)
    refine sj_i ez_8 ?_
    have bx_9 : (0 : Int) ≤ (i 403 ((i 36 54).toInt + 2).toNat).toInt ∧ (i 403 ((i 36 54).toInt + 2).toNat).toInt ≤ 65535 := hO 403 ((i 36 54).toInt + 2).toNat
    refine h_cald hx hb hK hH (by decide) (rfl : kd 403 = 14) (s_vin (N := 720) (rfl : z_8.toInt = _) (rfl : ln 403 = 720) (by omega) (by omega)) dX12_parameter_20 ?_
    have ek_10 : z_8.toNatClampNeg = ((i 36 54).toInt + 2).toNat := (s_cl (show z_8.toInt = (i 36 54).toInt + 2 by omega))
    refine sj_i (y := (i 403 ((i 36 54).toInt + 2).toNat)) (by rw [ek_10]) ?_
    refine lv_bipush (v := 125) hx hb dX12_parameter_21 (by decide) ?_
    refine lv_icmp_eq (tgt := 28) hx hb dX12_parameter_23 (by decide) (fun c_11 => ?_) (fun c_11 => ?_)
    · skip
      have h_12 := s_eq (rfl : (i 403 ((i 36 54).toInt + 2).toNat).toInt = _) (show (125 : Int32).toInt = 125 from rfl) c_11
      refine lv_aload_n hx hb dX12_parameter_28 rfl (lv_at hl 1 rfl) ?_
      refine lv_aload_n hx hb dX12_parameter_29 rfl (lv_at hl 0 rfl) ?_
      refine h_geti (ci := 12) (C := RX12) (F := TX12) (N := 86) hx hb hts in12 hown hK hH (by decide) (rfl : kd 36 = 12) (by decide) rfl 54 (by decide) wd0 (fun _ h9 => h9) (by decide) rfl dX12_parameter_30 ?_
      refine lv_iconst (v := 1) hx hb dX12_parameter_33 (by decide) ?_
      refine lv_iadd hx hb dX12_parameter_34 ?_
      obtain ⟨z_13, ez_13, hz_13⟩ := s_add (rfl : (i 36 54).toInt = _) (show (1 : Int32).toInt = 1 from rfl) (by omega) (by omega)
      refine sj_i ez_13 ?_
      have bx_14 : (0 : Int) ≤ (i 403 ((i 36 54).toInt + 1).toNat).toInt ∧ (i 403 ((i 36 54).toInt + 1).toNat).toInt ≤ 65535 := hO 403 ((i 36 54).toInt + 1).toNat
      refine h_cald hx hb hK hH (by decide) (rfl : kd 403 = 14) (s_vin (N := 720) (rfl : z_13.toInt = _) (rfl : ln 403 = 720) (by omega) (by omega)) dX12_parameter_35 ?_
      have ek_15 : z_13.toNatClampNeg = ((i 36 54).toInt + 1).toNat := (s_cl (show z_13.toInt = (i 36 54).toInt + 1 by omega))
      refine sj_i (y := (i 403 ((i 36 54).toInt + 1).toNat)) (by rw [ek_15]) ?_
      refine lv_istore_n (lv' := [(2, .int (i 403 ((i 36 54).toInt + 1).toNat)), (0, .ref (g 36)), (1, .ref (g 403))]) hx hb dX12_parameter_36 rfl hl (by decide) rfl (fun ls hl => ?_)
      refine lv_iload_n hx hb dX12_parameter_37 rfl (lv_at hl 0 rfl) ?_
      refine lv_bipush (v := 105) hx hb dX12_parameter_38 (by decide) ?_
      refine lv_icmp_eq (tgt := 63) hx hb dX12_parameter_40 (by decide) (fun c_16 => ?_) (fun c_16 => ?_)
      · skip
        have h_17 := s_eq (rfl : (i 403 ((i 36 54).toInt + 1).toNat).toInt = _) (show (105 : Int32).toInt = 105 from rfl) c_16
        refine lv_aload_n hx hb dX12_parameter_63 rfl (lv_at hl 1 rfl) ?_
        refine lv_dup hx hb dX12_parameter_64 rfl ?_
        refine h_geti (ci := 12) (C := RX12) (F := TX12) (N := 86) hx hb hts in12 hown hK hH (by decide) (rfl : kd 36 = 12) (by decide) rfl 54 (by decide) wd0 (fun _ h9 => h9) (by decide) rfl dX12_parameter_65 ?_
        refine lv_iconst (v := 3) hx hb dX12_parameter_68 (by decide) ?_
        refine lv_iadd hx hb dX12_parameter_69 ?_
        obtain ⟨z_18, ez_18, hz_18⟩ := s_add (rfl : (i 36 54).toInt = _) (show (3 : Int32).toInt = 3 from rfl) (by omega) (by omega)
        refine sj_i ez_18 ?_
        have hO_19 := okp hO (n := 36) (k := 54) (v := z_18) (show (0 : Int) ≤ (z_18 : Int32).toInt ∧ (z_18 : Int32).toInt ≤ 720 from ⟨by omega, by omega⟩)
        refine h_puti (ty := .int) (ci := 12) (C := RX12) (F := TX12) (N := 86) hx hb hts in12 tyX12 tyX12_ok nmX12 hown hK hH hS (by decide) (rfl : kd 36 = 12) (by decide) rfl 54 (by decide) wd0 (fun _ h9 => h9) rfl (by decide +kernel) rfl rfl (by decide) rfl dX12_parameter_70 (fun H locs hH hS => ?_)
        refine lv_aload_n hx hb dX12_parameter_73 rfl (lv_at hl 1 rfl) ?_
        refine lv_iconst (v := 4) hx hb dX12_parameter_74 (by decide) ?_
        refine lv_iload_n hx hb dX12_parameter_75 rfl (lv_at hl 0 rfl) ?_
        refine lv_iconst (v := 0) hx hb dX12_parameter_76 (by decide) ?_
        have hl_20 : (4 : Int32).toInt = 4 := rfl
        have hl_21 : (0 : Int32).toInt = 0 := rfl
        have hwt_22 : ((up2 i 36 54 z_18) 36 45).toInt = ((i 36 45) : Int32).toInt := congrArg Int32.toInt (up2_k _ _ (by decide))
        have hwt_23 : ((up2 i 36 54 z_18) 36 49).toInt = ((i 36 49) : Int32).toInt := congrArg Int32.toInt (up2_k _ _ (by decide))
        refine x_callv (va_runV (As := [.int 4, .int (i 403 ((i 36 54).toInt + 1).toNat), .int 0]) (rest := []) ⟨hx, hb, hml, hown, hts⟩ (m_addPart l D g ka ad (up2 i 36 54 z_18) r L d 4 (i 403 ((i 36 54).toInt + 1).toNat) 0 hO_19 hR H.size (by first | omega | decide) (exI_fr hex (up2_o _ _ (by omega)) (up2_o _ _ (by omega)) (up2_o _ _ (by omega)) (fun a h1 h2 => funext fun b => (up2_o _ _ (by omega)))) (by unfold pOk; omega)) (cwV 3 hts gX12_parameter_X12_addPart rfl rfl rfl (by decide +kernel) ⟨(Nat.le_of_ble_eq_true rfl), (Nat.le_of_ble_eq_true rfl)⟩) (x_preV (q := (RX12, TX12, 86)) hH hK (q_obj (by decide) (rfl : kd 36 = 12) (by decide)) rfl gxb (gxw hE hS (x_F hH hS hA))) rfl rfl hl.1 rfl (lv_room (Nat.le_of_ble_eq_true rfl)) dX12_parameter_77 ⟨(Nat.le_of_ble_eq_true rfl), (Nat.le_of_ble_eq_true rfl)⟩) hH hS hA rfl rfl (fun im_26 H locs hw_25 hH hS => ?_)
        have hH : sj_H D A (hwc g ka im_26 r L d) H := hH
        obtain ⟨hO_28, hfr_27, hx2_29, hx2_30, hx2_31⟩ := hw_25
        have hap_32 := hx2_29
        have hc49 : c4 im_26 = c4 (up2 i 36 54 z_18) + 1 := (hx2_31.resolve_right (fun q => by have := q.1; omega)).2
        refine lv_iconst (v := 1) hx hb dX12_parameter_80 (by decide) ?_
        have hp_33 : (im_26 36 54).toInt = (z_18 : Int32).toInt := congrArg Int32.toInt (((hfr_27 36 54 (by omega)).trans (up2_at _ _ _ _)))
        have hp_34 : (im_26 36 45).toInt = ((im_26 36 45) : Int32).toInt := rfl
        have hV_35 : ((1 : Int32).toInt = 1 ∧ paL (lnL (i 403) ((i 36 54).toInt + 1) (i 36 55).toInt) = some (lnL (i 403) (im_26 36 54).toInt (i 36 55).toInt) ∧ (im_26 36 54).toInt = (i 36 54).toInt + 3 ∧ (im_26 36 54).toInt ≤ (i 36 55).toInt ∧ (im_26 36 45).toInt = (i 36 45).toInt + 1 ∧ c4 im_26 = c4 i + 1 ∧ exI im_26) ∨ ((1 : Int32).toInt = 0 ∧ paL (lnL (i 403) ((i 36 54).toInt + 1) (i 36 55).toInt) = none) := (Or.inl ⟨by rfl, by rw [pa_ok (by omega) (by omega) (by rw [show (i 36 54).toInt + 1 + 1 = (i 36 54).toInt + 2 by omega]; omega) (by omega), show (i 36 54).toInt + 1 + 2 = (im_26 36 54).toInt by omega], by omega, by omega, by omega, (hc49.trans (by rw [(c4_fr (up2_o _ _ (by omega)) (funext fun b => (up2_o _ _ (by omega))))])), hx2_30⟩)
        exact sj_zret hx hb hr hlocks (by decide +kernel) hS im_26 ⟨hO_28, (fun a b ha => ((hfr_27 a b (by omega)).trans (up2_o _ _ (by omega)))), ⟨by decide, by decide⟩, hV_35⟩ hH (sj_Knil hK) (Nat.le_of_ble_eq_true rfl) (Nat.le_of_ble_eq_true rfl) dX12_parameter_81
      · skip
        have h_36 := s_ne (rfl : (i 403 ((i 36 54).toInt + 1).toNat).toInt = _) (show (105 : Int32).toInt = 105 from rfl) c_16
        refine lv_iload_n hx hb dX12_parameter_43 rfl (lv_at hl 0 rfl) ?_
        refine lv_bipush (v := 100) hx hb dX12_parameter_44 (by decide) ?_
        refine lv_icmp_eq (tgt := 63) hx hb dX12_parameter_46 (by decide) (fun c_37 => ?_) (fun c_37 => ?_)
        · skip
          have h_38 := s_eq (rfl : (i 403 ((i 36 54).toInt + 1).toNat).toInt = _) (show (100 : Int32).toInt = 100 from rfl) c_37
          refine lv_aload_n hx hb dX12_parameter_63 rfl (lv_at hl 1 rfl) ?_
          refine lv_dup hx hb dX12_parameter_64 rfl ?_
          refine h_geti (ci := 12) (C := RX12) (F := TX12) (N := 86) hx hb hts in12 hown hK hH (by decide) (rfl : kd 36 = 12) (by decide) rfl 54 (by decide) wd0 (fun _ h9 => h9) (by decide) rfl dX12_parameter_65 ?_
          refine lv_iconst (v := 3) hx hb dX12_parameter_68 (by decide) ?_
          refine lv_iadd hx hb dX12_parameter_69 ?_
          obtain ⟨z_39, ez_39, hz_39⟩ := s_add (rfl : (i 36 54).toInt = _) (show (3 : Int32).toInt = 3 from rfl) (by omega) (by omega)
          refine sj_i ez_39 ?_
          have hO_40 := okp hO (n := 36) (k := 54) (v := z_39) (show (0 : Int) ≤ (z_39 : Int32).toInt ∧ (z_39 : Int32).toInt ≤ 720 from ⟨by omega, by omega⟩)
          refine h_puti (ty := .int) (ci := 12) (C := RX12) (F := TX12) (N := 86) hx hb hts in12 tyX12 tyX12_ok nmX12 hown hK hH hS (by decide) (rfl : kd 36 = 12) (by decide) rfl 54 (by decide) wd0 (fun _ h9 => h9) rfl (by decide +kernel) rfl rfl (by decide) rfl dX12_parameter_70 (fun H locs hH hS => ?_)
          refine lv_aload_n hx hb dX12_parameter_73 rfl (lv_at hl 1 rfl) ?_
          refine lv_iconst (v := 4) hx hb dX12_parameter_74 (by decide) ?_
          refine lv_iload_n hx hb dX12_parameter_75 rfl (lv_at hl 0 rfl) ?_
          refine lv_iconst (v := 0) hx hb dX12_parameter_76 (by decide) ?_
          have hl_41 : (4 : Int32).toInt = 4 := rfl
          have hl_42 : (0 : Int32).toInt = 0 := rfl
          have hwt_43 : ((up2 i 36 54 z_39) 36 45).toInt = ((i 36 45) : Int32).toInt := congrArg Int32.toInt (up2_k _ _ (by decide))
          have hwt_44 : ((up2 i 36 54 z_39) 36 49).toInt = ((i 36 49) : Int32).toInt := congrArg Int32.toInt (up2_k _ _ (by decide))
          refine x_callv (va_runV (As := [.int 4, .int (i 403 ((i 36 54).toInt + 1).toNat), .int 0]) (rest := []) ⟨hx, hb, hml, hown, hts⟩ (m_addPart l D g ka ad (up2 i 36 54 z_39) r L d 4 (i 403 ((i 36 54).toInt + 1).toNat) 0 hO_40 hR H.size (by first | omega | decide) (exI_fr hex (up2_o _ _ (by omega)) (up2_o _ _ (by omega)) (up2_o _ _ (by omega)) (fun a h1 h2 => funext fun b => (up2_o _ _ (by omega)))) (by unfold pOk; omega)) (cwV 3 hts gX12_parameter_X12_addPart rfl rfl rfl (by decide +kernel) ⟨(Nat.le_of_ble_eq_true rfl), (Nat.le_of_ble_eq_true rfl)⟩) (x_preV (q := (RX12, TX12, 86)) hH hK (q_obj (by decide) (rfl : kd 36 = 12) (by decide)) rfl gxb (gxw hE hS (x_F hH hS hA))) rfl rfl hl.1 rfl (lv_room (Nat.le_of_ble_eq_true rfl)) dX12_parameter_77 ⟨(Nat.le_of_ble_eq_true rfl), (Nat.le_of_ble_eq_true rfl)⟩) hH hS hA rfl rfl (fun im_47 H locs hw_46 hH hS => ?_)
          have hH : sj_H D A (hwc g ka im_47 r L d) H := hH
          obtain ⟨hO_49, hfr_48, hx2_50, hx2_51, hx2_52⟩ := hw_46
          have hap_53 := hx2_50
          have hc49 : c4 im_47 = c4 (up2 i 36 54 z_39) + 1 := (hx2_52.resolve_right (fun q => by have := q.1; omega)).2
          refine lv_iconst (v := 1) hx hb dX12_parameter_80 (by decide) ?_
          have hp_54 : (im_47 36 54).toInt = (z_39 : Int32).toInt := congrArg Int32.toInt (((hfr_48 36 54 (by omega)).trans (up2_at _ _ _ _)))
          have hp_55 : (im_47 36 45).toInt = ((im_47 36 45) : Int32).toInt := rfl
          have hV_56 : ((1 : Int32).toInt = 1 ∧ paL (lnL (i 403) ((i 36 54).toInt + 1) (i 36 55).toInt) = some (lnL (i 403) (im_47 36 54).toInt (i 36 55).toInt) ∧ (im_47 36 54).toInt = (i 36 54).toInt + 3 ∧ (im_47 36 54).toInt ≤ (i 36 55).toInt ∧ (im_47 36 45).toInt = (i 36 45).toInt + 1 ∧ c4 im_47 = c4 i + 1 ∧ exI im_47) ∨ ((1 : Int32).toInt = 0 ∧ paL (lnL (i 403) ((i 36 54).toInt + 1) (i 36 55).toInt) = none) := (Or.inl ⟨by rfl, by rw [pa_ok (by omega) (by omega) (by rw [show (i 36 54).toInt + 1 + 1 = (i 36 54).toInt + 2 by omega]; omega) (by omega), show (i 36 54).toInt + 1 + 2 = (im_47 36 54).toInt by omega], by omega, by omega, by omega, (hc49.trans (by rw [(c4_fr (up2_o _ _ (by omega)) (funext fun b => (up2_o _ _ (by omega))))])), hx2_51⟩)
          exact sj_zret hx hb hr hlocks (by decide +kernel) hS im_47 ⟨hO_49, (fun a b ha => ((hfr_48 a b (by omega)).trans (up2_o _ _ (by omega)))), ⟨by decide, by decide⟩, hV_56⟩ hH (sj_Knil hK) (Nat.le_of_ble_eq_true rfl) (Nat.le_of_ble_eq_true rfl) dX12_parameter_81
        · skip
          have h_57 := s_ne (rfl : (i 403 ((i 36 54).toInt + 1).toNat).toInt = _) (show (100 : Int32).toInt = 100 from rfl) c_37
          refine lv_iload_n hx hb dX12_parameter_49 rfl (lv_at hl 0 rfl) ?_
          refine lv_bipush (v := 119) hx hb dX12_parameter_50 (by decide) ?_
          refine lv_icmp_eq (tgt := 63) hx hb dX12_parameter_52 (by decide) (fun c_58 => ?_) (fun c_58 => ?_)
          · skip
            have h_59 := s_eq (rfl : (i 403 ((i 36 54).toInt + 1).toNat).toInt = _) (show (119 : Int32).toInt = 119 from rfl) c_58
            refine lv_aload_n hx hb dX12_parameter_63 rfl (lv_at hl 1 rfl) ?_
            refine lv_dup hx hb dX12_parameter_64 rfl ?_
            refine h_geti (ci := 12) (C := RX12) (F := TX12) (N := 86) hx hb hts in12 hown hK hH (by decide) (rfl : kd 36 = 12) (by decide) rfl 54 (by decide) wd0 (fun _ h9 => h9) (by decide) rfl dX12_parameter_65 ?_
            refine lv_iconst (v := 3) hx hb dX12_parameter_68 (by decide) ?_
            refine lv_iadd hx hb dX12_parameter_69 ?_
            obtain ⟨z_60, ez_60, hz_60⟩ := s_add (rfl : (i 36 54).toInt = _) (show (3 : Int32).toInt = 3 from rfl) (by omega) (by omega)
            refine sj_i ez_60 ?_
            have hO_61 := okp hO (n := 36) (k := 54) (v := z_60) (show (0 : Int) ≤ (z_60 : Int32).toInt ∧ (z_60 : Int32).toInt ≤ 720 from ⟨by omega, by omega⟩)
            refine h_puti (ty := .int) (ci := 12) (C := RX12) (F := TX12) (N := 86) hx hb hts in12 tyX12 tyX12_ok nmX12 hown hK hH hS (by decide) (rfl : kd 36 = 12) (by decide) rfl 54 (by decide) wd0 (fun _ h9 => h9) rfl (by decide +kernel) rfl rfl (by decide) rfl dX12_parameter_70 (fun H locs hH hS => ?_)
            refine lv_aload_n hx hb dX12_parameter_73 rfl (lv_at hl 1 rfl) ?_
            refine lv_iconst (v := 4) hx hb dX12_parameter_74 (by decide) ?_
            refine lv_iload_n hx hb dX12_parameter_75 rfl (lv_at hl 0 rfl) ?_
            refine lv_iconst (v := 0) hx hb dX12_parameter_76 (by decide) ?_
            have hl_62 : (4 : Int32).toInt = 4 := rfl
            have hl_63 : (0 : Int32).toInt = 0 := rfl
            have hwt_64 : ((up2 i 36 54 z_60) 36 45).toInt = ((i 36 45) : Int32).toInt := congrArg Int32.toInt (up2_k _ _ (by decide))
            have hwt_65 : ((up2 i 36 54 z_60) 36 49).toInt = ((i 36 49) : Int32).toInt := congrArg Int32.toInt (up2_k _ _ (by decide))
            refine x_callv (va_runV (As := [.int 4, .int (i 403 ((i 36 54).toInt + 1).toNat), .int 0]) (rest := []) ⟨hx, hb, hml, hown, hts⟩ (m_addPart l D g ka ad (up2 i 36 54 z_60) r L d 4 (i 403 ((i 36 54).toInt + 1).toNat) 0 hO_61 hR H.size (by first | omega | decide) (exI_fr hex (up2_o _ _ (by omega)) (up2_o _ _ (by omega)) (up2_o _ _ (by omega)) (fun a h1 h2 => funext fun b => (up2_o _ _ (by omega)))) (by unfold pOk; omega)) (cwV 3 hts gX12_parameter_X12_addPart rfl rfl rfl (by decide +kernel) ⟨(Nat.le_of_ble_eq_true rfl), (Nat.le_of_ble_eq_true rfl)⟩) (x_preV (q := (RX12, TX12, 86)) hH hK (q_obj (by decide) (rfl : kd 36 = 12) (by decide)) rfl gxb (gxw hE hS (x_F hH hS hA))) rfl rfl hl.1 rfl (lv_room (Nat.le_of_ble_eq_true rfl)) dX12_parameter_77 ⟨(Nat.le_of_ble_eq_true rfl), (Nat.le_of_ble_eq_true rfl)⟩) hH hS hA rfl rfl (fun im_68 H locs hw_67 hH hS => ?_)
            have hH : sj_H D A (hwc g ka im_68 r L d) H := hH
            obtain ⟨hO_70, hfr_69, hx2_71, hx2_72, hx2_73⟩ := hw_67
            have hap_74 := hx2_71
            have hc49 : c4 im_68 = c4 (up2 i 36 54 z_60) + 1 := (hx2_73.resolve_right (fun q => by have := q.1; omega)).2
            refine lv_iconst (v := 1) hx hb dX12_parameter_80 (by decide) ?_
            have hp_75 : (im_68 36 54).toInt = (z_60 : Int32).toInt := congrArg Int32.toInt (((hfr_69 36 54 (by omega)).trans (up2_at _ _ _ _)))
            have hp_76 : (im_68 36 45).toInt = ((im_68 36 45) : Int32).toInt := rfl
            have hV_77 : ((1 : Int32).toInt = 1 ∧ paL (lnL (i 403) ((i 36 54).toInt + 1) (i 36 55).toInt) = some (lnL (i 403) (im_68 36 54).toInt (i 36 55).toInt) ∧ (im_68 36 54).toInt = (i 36 54).toInt + 3 ∧ (im_68 36 54).toInt ≤ (i 36 55).toInt ∧ (im_68 36 45).toInt = (i 36 45).toInt + 1 ∧ c4 im_68 = c4 i + 1 ∧ exI im_68) ∨ ((1 : Int32).toInt = 0 ∧ paL (lnL (i 403) ((i 36 54).toInt + 1) (i 36 55).toInt) = none) := (Or.inl ⟨by rfl, by rw [pa_ok (by omega) (by omega) (by rw [show (i 36 54).toInt + 1 + 1 = (i 36 54).toInt + 2 by omega]; omega) (by omega), show (i 36 54).toInt + 1 + 2 = (im_68 36 54).toInt by omega], by omega, by omega, by omega, (hc49.trans (by rw [(c4_fr (up2_o _ _ (by omega)) (funext fun b => (up2_o _ _ (by omega))))])), hx2_72⟩)
            exact sj_zret hx hb hr hlocks (by decide +kernel) hS im_68 ⟨hO_70, (fun a b ha => ((hfr_69 a b (by omega)).trans (up2_o _ _ (by omega)))), ⟨by decide, by decide⟩, hV_77⟩ hH (sj_Knil hK) (Nat.le_of_ble_eq_true rfl) (Nat.le_of_ble_eq_true rfl) dX12_parameter_81
          · skip
            have h_78 := s_ne (rfl : (i 403 ((i 36 54).toInt + 1).toNat).toInt = _) (show (119 : Int32).toInt = 119 from rfl) c_58
            refine lv_iload_n hx hb dX12_parameter_55 rfl (lv_at hl 0 rfl) ?_
            refine lv_bipush (v := 115) hx hb dX12_parameter_56 (by decide) ?_
            refine lv_icmp_eq (tgt := 63) hx hb dX12_parameter_58 (by decide) (fun c_79 => ?_) (fun c_79 => ?_)
            · skip
              have h_80 := s_eq (rfl : (i 403 ((i 36 54).toInt + 1).toNat).toInt = _) (show (115 : Int32).toInt = 115 from rfl) c_79
              refine lv_aload_n hx hb dX12_parameter_63 rfl (lv_at hl 1 rfl) ?_
              refine lv_dup hx hb dX12_parameter_64 rfl ?_
              refine h_geti (ci := 12) (C := RX12) (F := TX12) (N := 86) hx hb hts in12 hown hK hH (by decide) (rfl : kd 36 = 12) (by decide) rfl 54 (by decide) wd0 (fun _ h9 => h9) (by decide) rfl dX12_parameter_65 ?_
              refine lv_iconst (v := 3) hx hb dX12_parameter_68 (by decide) ?_
              refine lv_iadd hx hb dX12_parameter_69 ?_
              obtain ⟨z_81, ez_81, hz_81⟩ := s_add (rfl : (i 36 54).toInt = _) (show (3 : Int32).toInt = 3 from rfl) (by omega) (by omega)
              refine sj_i ez_81 ?_
              have hO_82 := okp hO (n := 36) (k := 54) (v := z_81) (show (0 : Int) ≤ (z_81 : Int32).toInt ∧ (z_81 : Int32).toInt ≤ 720 from ⟨by omega, by omega⟩)
              refine h_puti (ty := .int) (ci := 12) (C := RX12) (F := TX12) (N := 86) hx hb hts in12 tyX12 tyX12_ok nmX12 hown hK hH hS (by decide) (rfl : kd 36 = 12) (by decide) rfl 54 (by decide) wd0 (fun _ h9 => h9) rfl (by decide +kernel) rfl rfl (by decide) rfl dX12_parameter_70 (fun H locs hH hS => ?_)
              refine lv_aload_n hx hb dX12_parameter_73 rfl (lv_at hl 1 rfl) ?_
              refine lv_iconst (v := 4) hx hb dX12_parameter_74 (by decide) ?_
              refine lv_iload_n hx hb dX12_parameter_75 rfl (lv_at hl 0 rfl) ?_
              refine lv_iconst (v := 0) hx hb dX12_parameter_76 (by decide) ?_
              have hl_83 : (4 : Int32).toInt = 4 := rfl
              have hl_84 : (0 : Int32).toInt = 0 := rfl
              have hwt_85 : ((up2 i 36 54 z_81) 36 45).toInt = ((i 36 45) : Int32).toInt := congrArg Int32.toInt (up2_k _ _ (by decide))
              have hwt_86 : ((up2 i 36 54 z_81) 36 49).toInt = ((i 36 49) : Int32).toInt := congrArg Int32.toInt (up2_k _ _ (by decide))
              refine x_callv (va_runV (As := [.int 4, .int (i 403 ((i 36 54).toInt + 1).toNat), .int 0]) (rest := []) ⟨hx, hb, hml, hown, hts⟩ (m_addPart l D g ka ad (up2 i 36 54 z_81) r L d 4 (i 403 ((i 36 54).toInt + 1).toNat) 0 hO_82 hR H.size (by first | omega | decide) (exI_fr hex (up2_o _ _ (by omega)) (up2_o _ _ (by omega)) (up2_o _ _ (by omega)) (fun a h1 h2 => funext fun b => (up2_o _ _ (by omega)))) (by unfold pOk; omega)) (cwV 3 hts gX12_parameter_X12_addPart rfl rfl rfl (by decide +kernel) ⟨(Nat.le_of_ble_eq_true rfl), (Nat.le_of_ble_eq_true rfl)⟩) (x_preV (q := (RX12, TX12, 86)) hH hK (q_obj (by decide) (rfl : kd 36 = 12) (by decide)) rfl gxb (gxw hE hS (x_F hH hS hA))) rfl rfl hl.1 rfl (lv_room (Nat.le_of_ble_eq_true rfl)) dX12_parameter_77 ⟨(Nat.le_of_ble_eq_true rfl), (Nat.le_of_ble_eq_true rfl)⟩) hH hS hA rfl rfl (fun im_89 H locs hw_88 hH hS => ?_)
              have hH : sj_H D A (hwc g ka im_89 r L d) H := hH
              obtain ⟨hO_91, hfr_90, hx2_92, hx2_93, hx2_94⟩ := hw_88
              have hap_95 := hx2_92
              have hc49 : c4 im_89 = c4 (up2 i 36 54 z_81) + 1 := (hx2_94.resolve_right (fun q => by have := q.1; omega)).2
              refine lv_iconst (v := 1) hx hb dX12_parameter_80 (by decide) ?_
              have hp_96 : (im_89 36 54).toInt = (z_81 : Int32).toInt := congrArg Int32.toInt (((hfr_90 36 54 (by omega)).trans (up2_at _ _ _ _)))
              have hp_97 : (im_89 36 45).toInt = ((im_89 36 45) : Int32).toInt := rfl
              have hV_98 : ((1 : Int32).toInt = 1 ∧ paL (lnL (i 403) ((i 36 54).toInt + 1) (i 36 55).toInt) = some (lnL (i 403) (im_89 36 54).toInt (i 36 55).toInt) ∧ (im_89 36 54).toInt = (i 36 54).toInt + 3 ∧ (im_89 36 54).toInt ≤ (i 36 55).toInt ∧ (im_89 36 45).toInt = (i 36 45).toInt + 1 ∧ c4 im_89 = c4 i + 1 ∧ exI im_89) ∨ ((1 : Int32).toInt = 0 ∧ paL (lnL (i 403) ((i 36 54).toInt + 1) (i 36 55).toInt) = none) := (Or.inl ⟨by rfl, by rw [pa_ok (by omega) (by omega) (by rw [show (i 36 54).toInt + 1 + 1 = (i 36 54).toInt + 2 by omega]; omega) (by omega), show (i 36 54).toInt + 1 + 2 = (im_89 36 54).toInt by omega], by omega, by omega, by omega, (hc49.trans (by rw [(c4_fr (up2_o _ _ (by omega)) (funext fun b => (up2_o _ _ (by omega))))])), hx2_93⟩)
              exact sj_zret hx hb hr hlocks (by decide +kernel) hS im_89 ⟨hO_91, (fun a b ha => ((hfr_90 a b (by omega)).trans (up2_o _ _ (by omega)))), ⟨by decide, by decide⟩, hV_98⟩ hH (sj_Knil hK) (Nat.le_of_ble_eq_true rfl) (Nat.le_of_ble_eq_true rfl) dX12_parameter_81
            · skip
              have h_99 := s_ne (rfl : (i 403 ((i 36 54).toInt + 1).toNat).toInt = _) (show (115 : Int32).toInt = 115 from rfl) c_79
              refine lv_iconst (v := 0) hx hb dX12_parameter_61 (by decide) ?_
              have hV_100 : ((0 : Int32).toInt = 1 ∧ paL (lnL (i 403) ((i 36 54).toInt + 1) (i 36 55).toInt) = some (lnL (i 403) (i 36 54).toInt (i 36 55).toInt) ∧ (i 36 54).toInt = (i 36 54).toInt + 3 ∧ (i 36 54).toInt ≤ (i 36 55).toInt ∧ (i 36 45).toInt = (i 36 45).toInt + 1 ∧ c4 i = c4 i + 1 ∧ exI i) ∨ ((0 : Int32).toInt = 0 ∧ paL (lnL (i 403) ((i 36 54).toInt + 1) (i 36 55).toInt) = none) := (Or.inr ⟨by rfl, pa_no (by omega) (by rw [show (i 36 54).toInt + 1 + 1 = (i 36 54).toInt + 2 by omega]; omega)⟩)
              exact sj_zret hx hb hr hlocks (by decide +kernel) hS i ⟨hO, (fun a b ha => rfl), ⟨by decide, by decide⟩, hV_100⟩ hH (sj_Knil hK) (Nat.le_of_ble_eq_true rfl) (Nat.le_of_ble_eq_true rfl) dX12_parameter_62
    · skip
      have h_101 := s_ne (rfl : (i 403 ((i 36 54).toInt + 2).toNat).toInt = _) (show (125 : Int32).toInt = 125 from rfl) c_11
      refine lv_iconst (v := 0) hx hb dX12_parameter_26 (by decide) ?_
      have hV_102 : ((0 : Int32).toInt = 1 ∧ paL (lnL (i 403) ((i 36 54).toInt + 1) (i 36 55).toInt) = some (lnL (i 403) (i 36 54).toInt (i 36 55).toInt) ∧ (i 36 54).toInt = (i 36 54).toInt + 3 ∧ (i 36 54).toInt ≤ (i 36 55).toInt ∧ (i 36 45).toInt = (i 36 45).toInt + 1 ∧ c4 i = c4 i + 1 ∧ exI i) ∨ ((0 : Int32).toInt = 0 ∧ paL (lnL (i 403) ((i 36 54).toInt + 1) (i 36 55).toInt) = none) := (Or.inr ⟨by rfl, pa_no (by omega) (by rw [show (i 36 54).toInt + 1 + 1 = (i 36 54).toInt + 2 by omega]; omega)⟩)
      exact sj_zret hx hb hr hlocks (by decide +kernel) hS i ⟨hO, (fun a b ha => rfl), ⟨by decide, by decide⟩, hV_102⟩ hH (sj_Knil hK) (Nat.le_of_ble_eq_true rfl) (Nat.le_of_ble_eq_true rfl) dX12_parameter_27
