theorem dX1_addExamples_0 : decode cX1_addExamples 0 = .ok (.iconst 1, 1) := by decide +kernel
theorem dX1_addExamples_1 : decode cX1_addExamples 1 = .ok (.istore_n 3, 1) := by decide +kernel
theorem dX1_addExamples_2 : decode cX1_addExamples 2 = .ok (.iload_n 3, 1) := by decide +kernel
theorem dX1_addExamples_3 : decode cX1_addExamples 3 = .ok (.aload_n 2, 1) := by decide +kernel
theorem dX1_addExamples_4 : decode cX1_addExamples 4 = .ok (.getfield 68, 3) := by decide +kernel
theorem dX1_addExamples_7 : decode cX1_addExamples 7 = .ok (.if_icmp .ge 44, 3) := by decide +kernel
theorem dX1_addExamples_51 : decode cX1_addExamples 51 = .ok (.return_, 1) := by decide +kernel
theorem dX1_addExamples_10 : decode cX1_addExamples 10 = .ok (.aload_n 0, 1) := by decide +kernel
theorem dX1_addExamples_11 : decode cX1_addExamples 11 = .ok (.aload_n 1, 1) := by decide +kernel
theorem dX1_addExamples_12 : decode cX1_addExamples 12 = .ok (.aload_n 2, 1) := by decide +kernel
theorem dX1_addExamples_13 : decode cX1_addExamples 13 = .ok (.getfield 69, 3) := by decide +kernel
theorem dX1_addExamples_16 : decode cX1_addExamples 16 = .ok (.aload_n 0, 1) := by decide +kernel
theorem dX1_addExamples_17 : decode cX1_addExamples 17 = .ok (.getfield 9, 3) := by decide +kernel
theorem dX1_addExamples_20 : decode cX1_addExamples 20 = .ok (.getfield 72, 3) := by decide +kernel
theorem dX1_addExamples_23 : decode cX1_addExamples 23 = .ok (.aload_n 2, 1) := by decide +kernel
theorem dX1_addExamples_24 : decode cX1_addExamples 24 = .ok (.getfield 76, 3) := by decide +kernel
theorem dX1_addExamples_27 : decode cX1_addExamples 27 = .ok (.aaload, 1) := by decide +kernel
theorem dX1_addExamples_28 : decode cX1_addExamples 28 = .ok (.aload_n 0, 1) := by decide +kernel
theorem dX1_addExamples_29 : decode cX1_addExamples 29 = .ok (.getfield 9, 3) := by decide +kernel
theorem dX1_addExamples_32 : decode cX1_addExamples 32 = .ok (.getfield 72, 3) := by decide +kernel
theorem dX1_addExamples_35 : decode cX1_addExamples 35 = .ok (.aload_n 2, 1) := by decide +kernel
theorem dX1_addExamples_36 : decode cX1_addExamples 36 = .ok (.getfield 76, 3) := by decide +kernel
theorem dX1_addExamples_39 : decode cX1_addExamples 39 = .ok (.iload_n 3, 1) := by decide +kernel
theorem dX1_addExamples_40 : decode cX1_addExamples 40 = .ok (.iadd, 1) := by decide +kernel
theorem dX1_addExamples_41 : decode cX1_addExamples 41 = .ok (.aaload, 1) := by decide +kernel
theorem dX1_addExamples_42 : decode cX1_addExamples 42 = .ok (.invokevirtual 55, 3) := by decide +kernel
theorem dX1_addExamples_45 : decode cX1_addExamples 45 = .ok (.iinc 3 1, 3) := by decide +kernel
theorem dX1_addExamples_48 : decode cX1_addExamples 48 = .ok (.goto (-46), 3) := by decide +kernel
theorem dX1_build_0 : decode cX1_build 0 = .ok (.aload_n 0, 1) := by decide +kernel
theorem dX1_build_1 : decode cX1_build 1 = .ok (.iconst 0, 1) := by decide +kernel
theorem dX1_build_2 : decode cX1_build 2 = .ok (.putfield 34, 3) := by decide +kernel
theorem dX1_build_5 : decode cX1_build 5 = .ok (.aload_n 0, 1) := by decide +kernel
theorem dX1_build_6 : decode cX1_build 6 = .ok (.getfield 9, 3) := by decide +kernel
theorem dX1_build_9 : decode cX1_build 9 = .ok (.getfield 38, 3) := by decide +kernel
theorem dX1_build_12 : decode cX1_build 12 = .ok (.ifCond .le 4, 3) := by decide +kernel
theorem dX1_build_16 : decode cX1_build 16 = .ok (.iconst 0, 1) := by decide +kernel
theorem dX1_build_17 : decode cX1_build 17 = .ok (.istore_n 1, 1) := by decide +kernel
theorem dX1_build_18 : decode cX1_build 18 = .ok (.iload_n 1, 1) := by decide +kernel
theorem dX1_build_19 : decode cX1_build 19 = .ok (.aload_n 0, 1) := by decide +kernel
theorem dX1_build_20 : decode cX1_build 20 = .ok (.getfield 9, 3) := by decide +kernel
theorem dX1_build_23 : decode cX1_build 23 = .ok (.getfield 43, 3) := by decide +kernel
theorem dX1_build_26 : decode cX1_build 26 = .ok (.if_icmp .ge 69, 3) := by decide +kernel
theorem dX1_build_95 : decode cX1_build 95 = .ok (.return_, 1) := by decide +kernel
theorem dX1_build_29 : decode cX1_build 29 = .ok (.aload_n 0, 1) := by decide +kernel
theorem dX1_build_30 : decode cX1_build 30 = .ok (.getfield 9, 3) := by decide +kernel
theorem dX1_build_33 : decode cX1_build 33 = .ok (.getfield 46, 3) := by decide +kernel
theorem dX1_build_36 : decode cX1_build 36 = .ok (.iload_n 1, 1) := by decide +kernel
theorem dX1_build_37 : decode cX1_build 37 = .ok (.aaload, 1) := by decide +kernel
theorem dX1_build_38 : decode cX1_build 38 = .ok (.astore_n 2, 1) := by decide +kernel
theorem dX1_build_39 : decode cX1_build 39 = .ok (.aload_n 2, 1) := by decide +kernel
theorem dX1_build_40 : decode cX1_build 40 = .ok (.getfield 50, 3) := by decide +kernel
theorem dX1_build_43 : decode cX1_build 43 = .ok (.ifCond .ne 11, 3) := by decide +kernel
theorem dX1_build_54 : decode cX1_build 54 = .ok (.iconst 0, 1) := by decide +kernel
theorem dX1_build_55 : decode cX1_build 55 = .ok (.istore_n 3, 1) := by decide +kernel
theorem dX1_build_56 : decode cX1_build 56 = .ok (.iload_n 3, 1) := by decide +kernel
theorem dX1_build_57 : decode cX1_build 57 = .ok (.aload_n 2, 1) := by decide +kernel
theorem dX1_build_58 : decode cX1_build 58 = .ok (.getfield 50, 3) := by decide +kernel
theorem dX1_build_61 : decode cX1_build 61 = .ok (.if_icmp .ge 28, 3) := by decide +kernel
theorem dX1_build_89 : decode cX1_build 89 = .ok (.iinc 1 1, 3) := by decide +kernel
theorem dX1_build_92 : decode cX1_build 92 = .ok (.goto (-74), 3) := by decide +kernel
theorem dX1_build_64 : decode cX1_build 64 = .ok (.aload_n 0, 1) := by decide +kernel
theorem dX1_build_65 : decode cX1_build 65 = .ok (.aload_n 2, 1) := by decide +kernel
theorem dX1_build_66 : decode cX1_build 66 = .ok (.aload_n 0, 1) := by decide +kernel
theorem dX1_build_67 : decode cX1_build 67 = .ok (.getfield 9, 3) := by decide +kernel
theorem dX1_build_70 : decode cX1_build 70 = .ok (.getfield 59, 3) := by decide +kernel
theorem dX1_build_73 : decode cX1_build 73 = .ok (.aload_n 2, 1) := by decide +kernel
theorem dX1_build_74 : decode cX1_build 74 = .ok (.getfield 61, 3) := by decide +kernel
theorem dX1_build_77 : decode cX1_build 77 = .ok (.iload_n 3, 1) := by decide +kernel
theorem dX1_build_78 : decode cX1_build 78 = .ok (.iadd, 1) := by decide +kernel
theorem dX1_build_79 : decode cX1_build 79 = .ok (.aaload, 1) := by decide +kernel
theorem dX1_build_80 : decode cX1_build 80 = .ok (.invokevirtual 64, 3) := by decide +kernel
theorem dX1_build_83 : decode cX1_build 83 = .ok (.iinc 3 1, 3) := by decide +kernel
theorem dX1_build_86 : decode cX1_build 86 = .ok (.goto (-30), 3) := by decide +kernel
theorem dX1_build_46 : decode cX1_build 46 = .ok (.aload_n 0, 1) := by decide +kernel
theorem dX1_build_47 : decode cX1_build 47 = .ok (.aload_n 2, 1) := by decide +kernel
theorem dX1_build_48 : decode cX1_build 48 = .ok (.iconst 0, 1) := by decide +kernel
theorem dX1_build_49 : decode cX1_build 49 = .ok (.aconst_null, 1) := by decide +kernel
theorem dX1_build_50 : decode cX1_build 50 = .ok (.aconst_null, 1) := by decide +kernel
theorem dX1_build_51 : decode cX1_build 51 = .ok (.invokevirtual 55, 3) := by decide +kernel
theorem dX1_build_15 : decode cX1_build 15 = .ok (.return_, 1) := by decide +kernel
theorem gw_X1_add : wsX1_add.all goodWord = true := by decide +kernel
theorem gX1_addExamples_X1_add : GoodIn wsX1_addExamples (wsV RX1 55 RX1 yX1_add wsX1_add) := goodIn_app (goodIn_sub (List.forall_mem_cons.mpr ⟨(List.mem_cons_of_mem _ (List.mem_append_left _ (List.mem_append_left _ (List.mem_append_left _ (List.mem_append_left _ lm5))))), List.forall_mem_cons.mpr ⟨(List.mem_cons_of_mem _ (List.mem_append_left _ (List.mem_append_left _ (List.mem_append_left _ (List.mem_append_left _ lm6))))), List.forall_mem_cons.mpr ⟨(List.mem_cons_of_mem _ (List.mem_append_left _ (List.mem_append_left _ (List.mem_append_left _ (List.mem_append_left _ lm7))))), List.forall_mem_cons.mpr ⟨(List.mem_cons_of_mem _ (List.mem_append_left _ (List.mem_append_left _ (List.mem_append_left _ (List.mem_append_left _ lm8))))), (fun _ h => absurd h List.not_mem_nil)⟩⟩⟩⟩) (by decide +kernel)) (goodIn_sub (by unfold wsX1_add; exact List.forall_mem_cons.mpr ⟨(List.mem_cons_of_mem _ (List.mem_append_left _ (List.mem_append_left _ (List.mem_append_left _ (List.mem_append_left _ lm9))))), List.forall_mem_append.mpr ⟨List.forall_mem_append.mpr ⟨List.forall_mem_append.mpr ⟨List.forall_mem_append.mpr ⟨List.forall_mem_cons.mpr ⟨(List.mem_cons_of_mem _ (List.mem_append_left _ (List.mem_append_left _ (List.mem_append_left _ (List.mem_append_left _ lm10))))), List.forall_mem_cons.mpr ⟨(List.mem_cons_of_mem _ (List.mem_append_left _ (List.mem_append_left _ (List.mem_append_left _ (List.mem_append_left _ lm11))))), List.forall_mem_cons.mpr ⟨(List.mem_cons_of_mem _ (List.mem_append_left _ (List.mem_append_left _ (List.mem_append_left _ (List.mem_append_left _ lm12))))), List.forall_mem_cons.mpr ⟨(List.mem_cons_of_mem _ (List.mem_append_left _ (List.mem_append_left _ (List.mem_append_left _ (List.mem_append_left _ lm13))))), List.forall_mem_cons.mpr ⟨(List.mem_cons_of_mem _ (List.mem_append_left _ (List.mem_append_left _ (List.mem_append_left _ (List.mem_append_left _ lm14))))), List.forall_mem_cons.mpr ⟨(List.mem_cons_of_mem _ (List.mem_append_left _ (List.mem_append_left _ (List.mem_append_left _ (List.mem_append_left _ lm2))))), List.forall_mem_cons.mpr ⟨(List.mem_cons_of_mem _ (List.mem_append_left _ (List.mem_append_left _ (List.mem_append_left _ (List.mem_append_left _ lm15))))), List.forall_mem_cons.mpr ⟨(List.mem_cons_of_mem _ (List.mem_append_left _ (List.mem_append_left _ (List.mem_append_left _ (List.mem_append_left _ lm1))))), List.forall_mem_cons.mpr ⟨(List.mem_cons_of_mem _ (List.mem_append_left _ (List.mem_append_left _ (List.mem_append_left _ (List.mem_append_left _ lm16))))), List.forall_mem_cons.mpr ⟨(List.mem_cons_of_mem _ (List.mem_append_left _ (List.mem_append_left _ (List.mem_append_left _ (List.mem_append_left _ lm17))))), List.forall_mem_cons.mpr ⟨(List.mem_cons_of_mem _ (List.mem_append_left _ (List.mem_append_left _ (List.mem_append_left _ (List.mem_append_left _ lm18))))), (fun _ h => absurd h List.not_mem_nil)⟩⟩⟩⟩⟩⟩⟩⟩⟩⟩⟩, (fun _ h => (List.mem_cons_of_mem _ (List.mem_append_left _ (List.mem_append_left _ (List.mem_append_right _ h)))))⟩, (fun _ h => (List.mem_cons_of_mem _ (List.mem_append_right _ h)))⟩, (fun _ h => (List.mem_cons_of_mem _ (List.mem_append_left _ (List.mem_append_right _ h))))⟩, (fun _ h => (List.mem_cons_of_mem _ (List.mem_append_left _ (List.mem_append_left _ (List.mem_append_left _ (List.mem_append_right _ h))))))⟩⟩) gw_X1_add)
theorem gw_X1_addExamples : wsX1_addExamples.all goodWord = true := by decide +kernel
theorem gX1_build_X1_addExamples : GoodIn wsX1_build (wsV RX1 64 RX1 yX1_addExamples wsX1_addExamples) := goodIn_app (goodIn_sub (List.forall_mem_cons.mpr ⟨(List.mem_cons_of_mem _ (List.mem_append_left _ (List.mem_append_left _ (List.mem_append_left _ (List.mem_append_left _ (List.mem_append_left _ lm22)))))), List.forall_mem_cons.mpr ⟨(List.mem_cons_of_mem _ (List.mem_append_left _ (List.mem_append_left _ (List.mem_append_left _ (List.mem_append_left _ (List.mem_append_left _ lm23)))))), List.forall_mem_cons.mpr ⟨(List.mem_cons_of_mem _ (List.mem_append_left _ (List.mem_append_left _ (List.mem_append_left _ (List.mem_append_left _ (List.mem_append_right _ lm0)))))), List.forall_mem_cons.mpr ⟨(List.mem_cons_of_mem _ (List.mem_append_left _ (List.mem_append_left _ (List.mem_append_left _ (List.mem_append_left _ (List.mem_append_left _ lm11)))))), (fun _ h => absurd h List.not_mem_nil)⟩⟩⟩⟩) (by decide +kernel)) (goodIn_sub (by unfold wsX1_addExamples; exact List.forall_mem_cons.mpr ⟨(List.mem_cons_of_mem _ (List.mem_append_left _ (List.mem_append_left _ (List.mem_append_left _ (List.mem_append_left _ (List.mem_append_right _ lm1)))))), List.forall_mem_append.mpr ⟨List.forall_mem_append.mpr ⟨List.forall_mem_append.mpr ⟨List.forall_mem_append.mpr ⟨List.forall_mem_cons.mpr ⟨(List.mem_cons_of_mem _ (List.mem_append_left _ (List.mem_append_left _ (List.mem_append_left _ (List.mem_append_left _ (List.mem_append_right _ lm2)))))), List.forall_mem_cons.mpr ⟨(List.mem_cons_of_mem _ (List.mem_append_left _ (List.mem_append_left _ (List.mem_append_left _ (List.mem_append_left _ (List.mem_append_left _ lm18)))))), List.forall_mem_cons.mpr ⟨(List.mem_cons_of_mem _ (List.mem_append_left _ (List.mem_append_left _ (List.mem_append_left _ (List.mem_append_left _ (List.mem_append_left _ lm1)))))), List.forall_mem_cons.mpr ⟨(List.mem_cons_of_mem _ (List.mem_append_left _ (List.mem_append_left _ (List.mem_append_left _ (List.mem_append_left _ (List.mem_append_right _ lm3)))))), List.forall_mem_cons.mpr ⟨(List.mem_cons_of_mem _ (List.mem_append_left _ (List.mem_append_left _ (List.mem_append_left _ (List.mem_append_left _ (List.mem_append_right _ lm4)))))), List.forall_mem_cons.mpr ⟨(List.mem_cons_of_mem _ (List.mem_append_left _ (List.mem_append_left _ (List.mem_append_left _ (List.mem_append_left _ (List.mem_append_left _ lm8)))))), List.forall_mem_cons.mpr ⟨(List.mem_cons_of_mem _ (List.mem_append_left _ (List.mem_append_left _ (List.mem_append_left _ (List.mem_append_left _ (List.mem_append_left _ lm9)))))), List.forall_mem_cons.mpr ⟨(List.mem_cons_of_mem _ (List.mem_append_left _ (List.mem_append_left _ (List.mem_append_left _ (List.mem_append_left _ (List.mem_append_left _ lm10)))))), List.forall_mem_cons.mpr ⟨(List.mem_cons_of_mem _ (List.mem_append_left _ (List.mem_append_left _ (List.mem_append_left _ (List.mem_append_left _ (List.mem_append_left _ lm11)))))), List.forall_mem_cons.mpr ⟨(List.mem_cons_of_mem _ (List.mem_append_left _ (List.mem_append_left _ (List.mem_append_left _ (List.mem_append_left _ (List.mem_append_left _ lm12)))))), List.forall_mem_cons.mpr ⟨(List.mem_cons_of_mem _ (List.mem_append_left _ (List.mem_append_left _ (List.mem_append_left _ (List.mem_append_left _ (List.mem_append_left _ lm0)))))), List.forall_mem_cons.mpr ⟨(List.mem_cons_of_mem _ (List.mem_append_left _ (List.mem_append_left _ (List.mem_append_left _ (List.mem_append_left _ (List.mem_append_left _ lm13)))))), List.forall_mem_cons.mpr ⟨(List.mem_cons_of_mem _ (List.mem_append_left _ (List.mem_append_left _ (List.mem_append_left _ (List.mem_append_left _ (List.mem_append_left _ lm14)))))), List.forall_mem_cons.mpr ⟨(List.mem_cons_of_mem _ (List.mem_append_left _ (List.mem_append_left _ (List.mem_append_left _ (List.mem_append_left _ (List.mem_append_left _ lm15)))))), List.forall_mem_cons.mpr ⟨(List.mem_cons_of_mem _ (List.mem_append_left _ (List.mem_append_left _ (List.mem_append_left _ (List.mem_append_left _ (List.mem_append_left _ lm16)))))), List.forall_mem_cons.mpr ⟨(List.mem_cons_of_mem _ (List.mem_append_left _ (List.mem_append_left _ (List.mem_append_left _ (List.mem_append_left _ (List.mem_append_left _ lm17)))))), List.forall_mem_cons.mpr ⟨(List.mem_cons_of_mem _ (List.mem_append_left _ (List.mem_append_left _ (List.mem_append_left _ (List.mem_append_left _ (List.mem_append_left _ lm19)))))), List.forall_mem_cons.mpr ⟨(List.mem_cons_of_mem _ (List.mem_append_left _ (List.mem_append_left _ (List.mem_append_left _ (List.mem_append_left _ (List.mem_append_left _ lm20)))))), List.forall_mem_cons.mpr ⟨(List.mem_cons_of_mem _ (List.mem_append_left _ (List.mem_append_left _ (List.mem_append_left _ (List.mem_append_left _ (List.mem_append_left _ lm21)))))), (fun _ h => absurd h List.not_mem_nil)⟩⟩⟩⟩⟩⟩⟩⟩⟩⟩⟩⟩⟩⟩⟩⟩⟩⟩⟩, (fun _ h => (List.mem_cons_of_mem _ (List.mem_append_left _ (List.mem_append_right _ h))))⟩, (fun _ h => (List.mem_cons_of_mem _ (List.mem_append_left _ (List.mem_append_left _ (List.mem_append_left _ (List.mem_append_right _ h))))))⟩, (fun _ h => (List.mem_cons_of_mem _ (List.mem_append_left _ (List.mem_append_left _ (List.mem_append_right _ h)))))⟩, (fun _ h => (List.mem_cons_of_mem _ (List.mem_append_right _ h)))⟩⟩) gw_X1_addExamples)
theorem gX1_build_X1_add : GoodIn wsX1_build (wsV RX1 55 RX1 yX1_add wsX1_add) := goodIn_app (goodIn_sub (List.forall_mem_cons.mpr ⟨(List.mem_cons_of_mem _ (List.mem_append_left _ (List.mem_append_left _ (List.mem_append_left _ (List.mem_append_left _ (List.mem_append_left _ lm8)))))), List.forall_mem_cons.mpr ⟨(List.mem_cons_of_mem _ (List.mem_append_left _ (List.mem_append_left _ (List.mem_append_left _ (List.mem_append_left _ (List.mem_append_left _ lm9)))))), List.forall_mem_cons.mpr ⟨(List.mem_cons_of_mem _ (List.mem_append_left _ (List.mem_append_left _ (List.mem_append_left _ (List.mem_append_left _ (List.mem_append_left _ lm10)))))), List.forall_mem_cons.mpr ⟨(List.mem_cons_of_mem _ (List.mem_append_left _ (List.mem_append_left _ (List.mem_append_left _ (List.mem_append_left _ (List.mem_append_left _ lm11)))))), (fun _ h => absurd h List.not_mem_nil)⟩⟩⟩⟩) (by decide +kernel)) (goodIn_sub (by unfold wsX1_add; exact List.forall_mem_cons.mpr ⟨(List.mem_cons_of_mem _ (List.mem_append_left _ (List.mem_append_left _ (List.mem_append_left _ (List.mem_append_left _ (List.mem_append_left _ lm12)))))), List.forall_mem_append.mpr ⟨List.forall_mem_append.mpr ⟨List.forall_mem_append.mpr ⟨List.forall_mem_append.mpr ⟨List.forall_mem_cons.mpr ⟨(List.mem_cons_of_mem _ (List.mem_append_left _ (List.mem_append_left _ (List.mem_append_left _ (List.mem_append_left _ (List.mem_append_left _ lm0)))))), List.forall_mem_cons.mpr ⟨(List.mem_cons_of_mem _ (List.mem_append_left _ (List.mem_append_left _ (List.mem_append_left _ (List.mem_append_left _ (List.mem_append_left _ lm13)))))), List.forall_mem_cons.mpr ⟨(List.mem_cons_of_mem _ (List.mem_append_left _ (List.mem_append_left _ (List.mem_append_left _ (List.mem_append_left _ (List.mem_append_left _ lm14)))))), List.forall_mem_cons.mpr ⟨(List.mem_cons_of_mem _ (List.mem_append_left _ (List.mem_append_left _ (List.mem_append_left _ (List.mem_append_left _ (List.mem_append_left _ lm15)))))), List.forall_mem_cons.mpr ⟨(List.mem_cons_of_mem _ (List.mem_append_left _ (List.mem_append_left _ (List.mem_append_left _ (List.mem_append_left _ (List.mem_append_left _ lm16)))))), List.forall_mem_cons.mpr ⟨(List.mem_cons_of_mem _ (List.mem_append_left _ (List.mem_append_left _ (List.mem_append_left _ (List.mem_append_left _ (List.mem_append_left _ lm1)))))), List.forall_mem_cons.mpr ⟨(List.mem_cons_of_mem _ (List.mem_append_left _ (List.mem_append_left _ (List.mem_append_left _ (List.mem_append_left _ (List.mem_append_left _ lm17)))))), List.forall_mem_cons.mpr ⟨(List.mem_cons_of_mem _ (List.mem_append_left _ (List.mem_append_left _ (List.mem_append_left _ (List.mem_append_left _ (List.mem_append_left _ lm18)))))), List.forall_mem_cons.mpr ⟨(List.mem_cons_of_mem _ (List.mem_append_left _ (List.mem_append_left _ (List.mem_append_left _ (List.mem_append_left _ (List.mem_append_left _ lm19)))))), List.forall_mem_cons.mpr ⟨(List.mem_cons_of_mem _ (List.mem_append_left _ (List.mem_append_left _ (List.mem_append_left _ (List.mem_append_left _ (List.mem_append_left _ lm20)))))), List.forall_mem_cons.mpr ⟨(List.mem_cons_of_mem _ (List.mem_append_left _ (List.mem_append_left _ (List.mem_append_left _ (List.mem_append_left _ (List.mem_append_left _ lm21)))))), (fun _ h => absurd h List.not_mem_nil)⟩⟩⟩⟩⟩⟩⟩⟩⟩⟩⟩, (fun _ h => (List.mem_cons_of_mem _ (List.mem_append_left _ (List.mem_append_left _ (List.mem_append_left _ (List.mem_append_right _ h))))))⟩, (fun _ h => (List.mem_cons_of_mem _ (List.mem_append_right _ h)))⟩, (fun _ h => (List.mem_cons_of_mem _ (List.mem_append_left _ (List.mem_append_left _ (List.mem_append_right _ h)))))⟩, (fun _ h => (List.mem_cons_of_mem _ (List.mem_append_left _ (List.mem_append_right _ h))))⟩⟩) gw_X1_add)
set_option maxHeartbeats 2000000 in
set_option maxRecDepth 100000 in
theorem k_addEx (l : Launch) (D : va_G) (g : Nat → Nat) (ka : Nat → ClassId) (ad : Nat → Nat) (i : Nat → Nat → Int32) (r : Nat → Nat → Nat) (L : Nat → Nat → Int64) (d : Nat → Nat → UInt64) (q : Nat) (ee : Nat) (hO : OkI i) (hR : RS r) (sz : Nat) (hq1 : 42 ≤ q) (hq2 : q < 54) (he1 : 84 ≤ ee) (he2 : ee < 96) (hPC : PC i r) (hPO : PO i) : Met l yX1_addExamples wsX1_addExamples ({ frames := 1, cells := 0, slots := 0, locals := 25 }) (va_Pc [.ref (g 13), .ref (g q), .ref (g ee)] (sj_B D (hwc g ka i r L d) (hT ka) sz (gx ad (va_A (hwc g ka i r L d) sz)))) (sj_Qv (S := (Nat → Nat → Int32) × (Nat → Nat → Nat)) D (fun u => OkI u.1 ∧ (∀ a, ¬ (a = 13 ∨ (216 ≤ a ∧ a < 240)) → u.1 a = i a) ∧ RS u.2 ∧ (∀ a b, ¬ ((216 ≤ a ∧ a < 240)) → u.2 a b = r a b) ∧ (PC u.1 u.2) ∧ (∀ K : List (Nat × Int32), K.length ≤ 24 → csP i r K → csP u.1 u.2 ((K ++ csE i q ee ((i ee 3).toInt - 1).toNat).take 24))) (fun u => hwc g ka u.1 u.2 L d) (fun _ => []) (va_A (hwc g ka i r L d) sz)) 0 0 (va_A (hwc g ka i r L d) sz) := by
  refine x_met (Ex := gx ad) (cc := cX1_addExamples) (maxL := 4) (ret := none) (by decide) rfl (Nat.le_of_ble_eq_true rfl) ?_
  intro p e s m below meth c A ls hx hb hr hml hts hown hlocks hA hS hH hK hE hl
  have hown : s.vm.findClass RX1 = some m.cls := hown
  have in1 : ∀ w ∈ wsX10, w ∈ wsX1_addExamples := (fun _ h => (List.mem_cons_of_mem _ (List.mem_append_left _ (List.mem_append_left _ (List.mem_append_right _ h)))))
  have in4 : ∀ w ∈ wsX40, w ∈ wsX1_addExamples := (fun _ h => (List.mem_cons_of_mem _ (List.mem_append_left _ (List.mem_append_left _ (List.mem_append_left _ (List.mem_append_right _ h))))))
  have in5 : ∀ w ∈ wsX50, w ∈ wsX1_addExamples := (fun _ h => (List.mem_cons_of_mem _ (List.mem_append_left _ (List.mem_append_right _ h))))
  have wd0 := hts (.fieldLink RX1 68 "StoryDesk$Part" "count" "I") (List.mem_cons_of_mem _ (List.mem_append_left _ (List.mem_append_left _ (List.mem_append_left _ (List.mem_append_left _ lm0)))))
  have wd1 := hts (.fieldLink RX1 69 "StoryDesk$Part" "tags" "I") (List.mem_cons_of_mem _ (List.mem_append_left _ (List.mem_append_left _ (List.mem_append_left _ (List.mem_append_left _ lm1)))))
  have wd2 := hts (.fieldLink RX1 9 "StoryDesk$Cases" "reading" "LStoryDesk$Reading;") (List.mem_cons_of_mem _ (List.mem_append_left _ (List.mem_append_left _ (List.mem_append_left _ (List.mem_append_left _ lm2)))))
  have wd3 := hts (.fieldLink RX1 72 "StoryDesk$Reading" "rows" "[LStoryDesk$Row;") (List.mem_cons_of_mem _ (List.mem_append_left _ (List.mem_append_left _ (List.mem_append_left _ (List.mem_append_left _ lm3)))))
  have wd4 := hts (.fieldLink RX1 76 "StoryDesk$Part" "first" "I") (List.mem_cons_of_mem _ (List.mem_append_left _ (List.mem_append_left _ (List.mem_append_left _ (List.mem_append_left _ lm4)))))
  have hl : lv_has ls 4 [(0, .ref (g 13)), (1, .ref (g q)), (2, .ref (g ee))] := hl
  have hK : va_K D vwCl (hT ka) s := hK
  have hpe := hPO ee (by omega) (by omega)
  have hbe := bxp hO (p := ee) (by omega) (by omega)
  refine lv_iconst (v := 1) hx hb dX1_addExamples_0 (by decide) ?_
  refine lv_istore_n (lv' := [(3, .int 1), (0, .ref (g 13)), (1, .ref (g q)), (2, .ref (g ee))]) hx hb dX1_addExamples_1 rfl hl (by decide) rfl (fun ls hl => ?_)
  -- loop at 2
  have lp_1 : ∀ (fuel_lp_1 : Nat) (f : Int32) (j1 : Nat → Nat → Int32) (r1 : Nat → Nat → Nat) (H : Heap) (locs : List Loc) (ls : Array Slot), (41 - f.toInt).toNat < fuel_lp_1 → (1 : Int) ≤ f.toInt ∧ f.toInt ≤ 41 → f.toInt = 1 ∨ f.toInt ≤ (i ee 3).toInt → PC j1 r1 → (∀ K : List (Nat × Int32), K.length ≤ 24 → csP i r K → csP j1 r1 ((K ++ csE i q ee (f.toInt - 1).toNat).take 24)) → RS r1 → (∀ a b, ¬ ((216 ≤ a ∧ a < 240)) → r1 a b = r a b) → OkI j1 → (∀ a, ¬ (a = 13 ∨ (216 ≤ a ∧ a < 240)) → j1 a = i a) → lv_has ls 4 [(3, .int f), (0, .ref (g 13)), (1, .ref (g q)), (2, .ref (g ee))] → sj_H D A (hwc g ka j1 r1 L d) H → va_S A s.heap H locs → W p l e (headSpec wsX1_addExamples ({ frames := 1, cells := 0, slots := 0, locals := 25 })).room s m ([.ref (g 13), .ref (g q), .ref (g ee)] : List Value).toArray below meth c H locs 0 0 (MQ below (sj_Qv (S := (Nat → Nat → Int32) × (Nat → Nat → Nat)) D (fun u => OkI u.1 ∧ (∀ a, ¬ (a = 13 ∨ (216 ≤ a ∧ a < 240)) → u.1 a = i a) ∧ RS u.2 ∧ (∀ a b, ¬ ((216 ≤ a ∧ a < 240)) → u.2 a b = r a b) ∧ (PC u.1 u.2) ∧ (∀ K : List (Nat × Int32), K.length ≤ 24 → csP i r K → csP u.1 u.2 ((K ++ csE i q ee ((i ee 3).toInt - 1).toNat).take 24))) (fun u => hwc g ka u.1 u.2 L d) (fun _ => []) A) ([.ref (g 13), .ref (g q), .ref (g ee)] : List Value).toArray s 0 0 A) (F0 m 2 ls []) := by
    intro fuel_lp_1
    induction fuel_lp_1 with
    | zero => intros; omega
    | succ fuel_lp_1 ih_lp_1 =>
      intro f j1 r1 H locs ls hm hr_f hi_lp_1_0 hi_lp_1_1 hi_lp_1_2 hRS_r1 hfr_r1 hO_j1 hfr_j1 hl hH hS
      refine lv_iload_n hx hb dX1_addExamples_2 rfl (lv_at hl 0 rfl) ?_
      refine lv_aload_n hx hb dX1_addExamples_3 rfl (lv_at hl 3 rfl) ?_
      have bx_2 : (0 : Int) ≤ (i ee 3).toInt ∧ (i ee 3).toInt ≤ 40 := by have h9 := hO ee 3; rw [bx_part (by omega) (by omega) 3] at h9; exact h9
      refine h_geti (ci := 4) (C := RX4) (F := TX4) (N := 9) hx hb hts in4 hown hK hH (lt_nK (by omega)) (kd_part (by omega) (by omega)) (by decide) rfl 3 (by decide) wd0 (fun _ h9 => h9) (by decide) rfl dX1_addExamples_4 ?_
      refine sj_i (y := (i ee 3)) (congrFun (hfr_j1 ee (by omega)) _) ?_
      refine lv_icmp_ge (tgt := 51) hx hb dX1_addExamples_7 (by decide) (fun c_3 => ?_) (fun c_3 => ?_)
      · skip
        have h_4 := s_le (rfl : (i ee 3).toInt = _) (rfl : f.toInt = _) c_3
        exact sj_vret hx hb hr hlocks hS (j1, r1) ⟨hO_j1, (fun a ha => (hfr_j1 a (by omega))), hRS_r1, (fun a b ha => (hfr_r1 a b (by omega))), hi_lp_1_1, (fun K hl hK => by
          have h7 := hi_lp_1_2 K hl hK
          rw [show ((i ee 3).toInt - 1).toNat = (f.toInt - 1).toNat by omega]
          exact h7)⟩ hH (sj_Knil hK) (Nat.le_of_ble_eq_true rfl) (Nat.le_of_ble_eq_true rfl) dX1_addExamples_51
      · skip
        have h_5 := s_nle (rfl : (i ee 3).toInt = _) (rfl : f.toInt = _) c_3
        refine lv_aload_n hx hb dX1_addExamples_10 rfl (lv_at hl 1 rfl) ?_
        refine lv_aload_n hx hb dX1_addExamples_11 rfl (lv_at hl 2 rfl) ?_
        refine lv_aload_n hx hb dX1_addExamples_12 rfl (lv_at hl 3 rfl) ?_
        have bx_6 : (0 : Int) ≤ (i ee 1).toInt ∧ (i ee 1).toInt ≤ 65535 := by have h9 := hO ee 1; rw [bx_part (by omega) (by omega) 1] at h9; exact h9
        refine h_geti (ci := 4) (C := RX4) (F := TX4) (N := 9) hx hb hts in4 hown hK hH (lt_nK (by omega)) (kd_part (by omega) (by omega)) (by decide) rfl 1 (by decide) wd1 (fun _ h9 => h9) (by decide) rfl dX1_addExamples_13 ?_
        refine sj_i (y := (i ee 1)) (congrFun (hfr_j1 ee (by omega)) _) ?_
        refine lv_aload_n hx hb dX1_addExamples_16 rfl (lv_at hl 1 rfl) ?_
        refine h_getr (ci := 1) (C := RX1) (F := TX1) (N := 5) hx hb hts in1 hown hK hH (by decide) (rfl : kd 13 = 1) (by decide) rfl 0 (by decide) wd2 (fun _ h9 => h9) (by decide) rfl (t := 3) (hRS_r1 13 0 rfl) (by decide) dX1_addExamples_17 ?_
        refine h_getr (ci := 5) (C := RX5) (F := TX5) (N := 19) hx hb hts in5 hown hK hH (by decide) (rfl : kd 3 = 5) (by decide) rfl 13 (by decide) wd3 (fun _ h9 => h9) (by decide) rfl (t := 12) (hRS_r1 3 13 rfl) (by decide) dX1_addExamples_20 ?_
        refine lv_aload_n hx hb dX1_addExamples_23 rfl (lv_at hl 3 rfl) ?_
        have bx_7 : (0 : Int) ≤ (i ee 2).toInt ∧ (i ee 2).toInt ≤ 40 := by have h9 := hO ee 2; rw [bx_part (by omega) (by omega) 2] at h9; exact h9
        refine h_geti (ci := 4) (C := RX4) (F := TX4) (N := 9) hx hb hts in4 hown hK hH (lt_nK (by omega)) (kd_part (by omega) (by omega)) (by decide) rfl 2 (by decide) wd4 (fun _ h9 => h9) (by decide) rfl dX1_addExamples_24 ?_
        refine sj_i (y := (i ee 2)) (congrFun (hfr_j1 ee (by omega)) _) ?_
        obtain ⟨j_8, ej_8, hj_8⟩ : ∃ j : Nat, ((i ee 2)).toNatClampNeg = j ∧ (j : Int) = (i ee 2).toInt := ⟨_, rfl, by rw [s_cl (rfl : (i ee 2).toInt = _)]; omega⟩
        have lj_8 : j_8 < 40 := by omega
        refine h_qald hx hb hK hH (by decide) (rfl : kd 12 = 24) (by decide) rfl (s_vin (N := 40) (rfl : (i ee 2).toInt = _) (rfl : ln 12 = 40) (by omega) (by omega)) (t := (96 + 3 * j_8)) (by rw [ej_8]; exact (hRS_r1 12 j_8 rfl)) (lt_nK (by omega)) dX1_addExamples_27 ?_
        refine lv_aload_n hx hb dX1_addExamples_28 rfl (lv_at hl 1 rfl) ?_
        refine h_getr (ci := 1) (C := RX1) (F := TX1) (N := 5) hx hb hts in1 hown hK hH (by decide) (rfl : kd 13 = 1) (by decide) rfl 0 (by decide) wd2 (fun _ h9 => h9) (by decide) rfl (t := 3) (hRS_r1 13 0 rfl) (by decide) dX1_addExamples_29 ?_
        refine h_getr (ci := 5) (C := RX5) (F := TX5) (N := 19) hx hb hts in5 hown hK hH (by decide) (rfl : kd 3 = 5) (by decide) rfl 13 (by decide) wd3 (fun _ h9 => h9) (by decide) rfl (t := 12) (hRS_r1 3 13 rfl) (by decide) dX1_addExamples_32 ?_
        refine lv_aload_n hx hb dX1_addExamples_35 rfl (lv_at hl 3 rfl) ?_
        refine h_geti (ci := 4) (C := RX4) (F := TX4) (N := 9) hx hb hts in4 hown hK hH (lt_nK (by omega)) (kd_part (by omega) (by omega)) (by decide) rfl 2 (by decide) wd4 (fun _ h9 => h9) (by decide) rfl dX1_addExamples_36 ?_
        refine sj_i (y := (i ee 2)) (congrFun (hfr_j1 ee (by omega)) _) ?_
        refine lv_iload_n hx hb dX1_addExamples_39 rfl (lv_at hl 0 rfl) ?_
        refine lv_iadd hx hb dX1_addExamples_40 ?_
        obtain ⟨z_9, ez_9, hz_9⟩ := s_add (rfl : (i ee 2).toInt = _) (rfl : f.toInt = _) (by omega) (by omega)
        refine sj_i ez_9 ?_
        obtain ⟨j_10, ej_10, hj_10⟩ : ∃ j : Nat, (z_9).toNatClampNeg = j ∧ (j : Int) = z_9.toInt := ⟨_, rfl, by rw [s_cl (rfl : z_9.toInt = _)]; omega⟩
        have lj_10 : j_10 < 40 := by omega
        refine h_qald hx hb hK hH (by decide) (rfl : kd 12 = 24) (by decide) rfl (s_vin (N := 40) (rfl : z_9.toInt = _) (rfl : ln 12 = 40) (by omega) (by omega)) (t := (96 + 3 * j_10)) (by rw [ej_10]; exact (hRS_r1 12 j_10 rfl)) (lt_nK (by omega)) dX1_addExamples_41 ?_
        refine x_callv (va_runV (As := [.ref (g q), .int (i ee 1), .ref (g (96 + 3 * j_8)), .ref (g (96 + 3 * j_10))]) (rest := []) ⟨hx, hb, hml, hown, hts⟩ (k_addR l D g ka ad j1 r1 L d q (i ee 1) j_8 j_10 hO_j1 hRS_r1 H.size (by first | omega | decide) (by first | omega | decide) hi_lp_1_1 (by first | omega | decide) (by first | omega | decide) (by first | omega | decide) (by first | omega | decide)) (cwV 4 hts gX1_addExamples_X1_add rfl rfl rfl (by decide +kernel) ⟨(Nat.le_of_ble_eq_true rfl), (Nat.le_of_ble_eq_true rfl)⟩) (x_preV (q := (RX1, TX1, 5)) hH hK (q_obj (by decide) (rfl : kd 13 = 1) (by decide)) rfl gxb (gxw hE hS (x_F hH hS hA))) rfl rfl hl.1 rfl (lv_room (Nat.le_of_ble_eq_true rfl)) dX1_addExamples_42 ⟨(Nat.le_of_ble_eq_true rfl), (Nat.le_of_ble_eq_true rfl)⟩) hH hS hA rfl rfl (fun u_15 H locs hw_12 hH hS => ?_)
        obtain ⟨im_13, rm_14⟩ := u_15
        try dsimp only at hw_12
        have hH : sj_H D A (hwc g ka im_13 rm_14 L d) H := hH
        obtain ⟨hO_17, hfr_16, hRS_18, hfr_19, hx2_20, hx2_21, hx2_22, hx2_23⟩ := hw_12
        obtain ⟨z_24, ez_24, hz_24⟩ := s_add (rfl : f.toInt = _) (show (1 : Int32).toInt = 1 from rfl) (by omega) (by omega)
        refine lv_iinc (v := z_24) (lv' := [(3, .int z_24), (0, .ref (g 13)), (1, .ref (g q)), (2, .ref (g ee))]) hx hb dX1_addExamples_45 hl (k := 0) rfl ez_24 (by decide) rfl (fun ls hl => ?_)
        refine lv_goto (tgt := 2) hx hb dX1_addExamples_48 (by decide) ?_
        have hE2 := hx2_22
        rw [ortags_fr hO (by omega) (by omega) (fun a ha => (hfr_j1 a (by omega)))] at hE2
        exact ih_lp_1 z_24 _ _ _ _ ls (by omega) (by omega) (by omega) hx2_21 (fun K hl hK => by
          have h7 := hi_lp_1_2 K hl hK
          have h9 := csP_add (by omega) h7 (csP_len hO_j1 h7) hx2_20 hE2 hx2_23
          rw [take_app, List.append_assoc, ← csE_s] at h9
          rw [show ((z_24).toInt - 1).toNat = (f.toInt - 1).toNat + 1 by omega]
          exact h9) hRS_18 (fun a b ha => ((hfr_19 a b (by omega)).trans (hfr_r1 a b (by omega)))) hO_17 (fun a ha => ((hfr_16 a (by omega)).trans (hfr_j1 a (by omega)))) (lv_sub hl [0, 1, 2, 3] rfl) hH hS
  have hl_25 : (1 : Int32).toInt = 1 := rfl
  exact lp_1 _ 1 _ _ _ _ ls (Nat.lt_succ_self _) (by omega) (by omega) hPC (fun K hl hK => by rw [show ((1 : Int32).toInt - 1).toNat = 0 from rfl]; unfold csE; rw [List.replicate_zero, List.append_nil, List.take_of_length_le hl]; exact hK) hR (fun a b ha => rfl) hO (fun a ha => rfl) (lv_sub hl [0, 1, 2, 3] rfl) hH hS
set_option maxHeartbeats 2000000 in
set_option maxRecDepth 100000 in
theorem k_build (l : Launch) (D : va_G) (g : Nat → Nat) (ka : Nat → ClassId) (ad : Nat → Nat) (i : Nat → Nat → Int32) (r : Nat → Nat → Nat) (L : Nat → Nat → Int64) (d : Nat → Nat → UInt64)  (hO : OkI i) (hR : RS r) (sz : Nat) (hPC : PC i r) (hPO : PO i) : Met l yX1_build wsX1_build ({ frames := 2, cells := 0, slots := 0, locals := 48 }) (va_Pc [.ref (g 13)] (sj_B D (hwc g ka i r L d) (hT ka) sz (gx ad (va_A (hwc g ka i r L d) sz)))) (sj_Qv (S := (Nat → Nat → Int32) × (Nat → Nat → Nat)) D (fun u => OkI u.1 ∧ (∀ a, ¬ (a = 13 ∨ (216 ≤ a ∧ a < 240)) → u.1 a = i a) ∧ RS u.2 ∧ (∀ a b, ¬ ((216 ≤ a ∧ a < 240)) → u.2 a b = r a b) ∧ (PC u.1 u.2) ∧ (csP u.1 u.2 (if 0 < (i 3 4).toInt then [] else (csA i (i 3 8).toInt.toNat).take 24))) (fun u => hwc g ka u.1 u.2 L d) (fun _ => []) (va_A (hwc g ka i r L d) sz)) 0 0 (va_A (hwc g ka i r L d) sz) := by
  refine x_met (Ex := gx ad) (cc := cX1_build) (maxL := 4) (ret := none) (by decide) rfl (Nat.le_of_ble_eq_true rfl) ?_
  intro p e s m below meth c A ls hx hb hr hml hts hown hlocks hA hS hH hK hE hl
  have hown : s.vm.findClass RX1 = some m.cls := hown
  have in1 : ∀ w ∈ wsX10, w ∈ wsX1_build := (fun _ h => (List.mem_cons_of_mem _ (List.mem_append_left _ (List.mem_append_left _ (List.mem_append_left _ (List.mem_append_right _ h))))))
  have in4 : ∀ w ∈ wsX40, w ∈ wsX1_build := (fun _ h => (List.mem_cons_of_mem _ (List.mem_append_left _ (List.mem_append_right _ h))))
  have in5 : ∀ w ∈ wsX50, w ∈ wsX1_build := (fun _ h => (List.mem_cons_of_mem _ (List.mem_append_left _ (List.mem_append_left _ (List.mem_append_right _ h)))))
  have wd0 := hts (.fieldLink RX1 34 "StoryDesk$Cases" "count" "I") (List.mem_cons_of_mem _ (List.mem_append_left _ (List.mem_append_left _ (List.mem_append_left _ (List.mem_append_left _ (List.mem_append_left _ lm0))))))
  have wd1 := hts (.fieldLink RX1 9 "StoryDesk$Cases" "reading" "LStoryDesk$Reading;") (List.mem_cons_of_mem _ (List.mem_append_left _ (List.mem_append_left _ (List.mem_append_left _ (List.mem_append_left _ (List.mem_append_left _ lm1))))))
  have wd2 := hts (.fieldLink RX1 38 "StoryDesk$Reading" "errors" "I") (List.mem_cons_of_mem _ (List.mem_append_left _ (List.mem_append_left _ (List.mem_append_left _ (List.mem_append_left _ (List.mem_append_left _ lm2))))))
  have wd3 := hts (.fieldLink RX1 43 "StoryDesk$Reading" "scenarioCount" "I") (List.mem_cons_of_mem _ (List.mem_append_left _ (List.mem_append_left _ (List.mem_append_left _ (List.mem_append_left _ (List.mem_append_left _ lm3))))))
  have wd4 := hts (.fieldLink RX1 46 "StoryDesk$Reading" "scenarios" "[LStoryDesk$Part;") (List.mem_cons_of_mem _ (List.mem_append_left _ (List.mem_append_left _ (List.mem_append_left _ (List.mem_append_left _ (List.mem_append_left _ lm4))))))
  have wd5 := hts (.fieldLink RX1 50 "StoryDesk$Part" "examples" "I") (List.mem_cons_of_mem _ (List.mem_append_left _ (List.mem_append_left _ (List.mem_append_left _ (List.mem_append_left _ (List.mem_append_left _ lm5))))))
  have wd6 := hts (.fieldLink RX1 59 "StoryDesk$Reading" "examples" "[LStoryDesk$Part;") (List.mem_cons_of_mem _ (List.mem_append_left _ (List.mem_append_left _ (List.mem_append_left _ (List.mem_append_left _ (List.mem_append_left _ lm6))))))
  have wd7 := hts (.fieldLink RX1 61 "StoryDesk$Part" "firstExamples" "I") (List.mem_cons_of_mem _ (List.mem_append_left _ (List.mem_append_left _ (List.mem_append_left _ (List.mem_append_left _ (List.mem_append_left _ lm7))))))
  have hl : lv_has ls 4 [(0, .ref (g 13))] := hl
  have hK : va_K D vwCl (hT ka) s := hK
  have hb3 : (0 : Int) ≤ (i 3 8).toInt ∧ (i 3 8).toInt ≤ 12 := hO 3 8
  have hc0 : (up2 i 13 4 0 13 4).toInt = 0 := by rw [up2_at]; rfl
  refine lv_aload_n hx hb dX1_build_0 rfl (lv_at hl 0 rfl) ?_
  refine lv_iconst (v := 0) hx hb dX1_build_1 (by decide) ?_
  have hO_1 := okp hO (n := 13) (k := 4) (v := 0) (show (0 : Int) ≤ (0 : Int32).toInt ∧ (0 : Int32).toInt ≤ 24 from ⟨by decide, by decide⟩)
  refine h_puti (ty := .int) (ci := 1) (C := RX1) (F := TX1) (N := 5) hx hb hts in1 tyX1 tyX1_ok nmX1 hown hK hH hS (by decide) (rfl : kd 13 = 1) (by decide) rfl 4 (by decide) wd0 (fun _ h9 => h9) rfl (by decide +kernel) rfl rfl (by decide) rfl dX1_build_2 (fun H locs hH hS => ?_)
  refine lv_aload_n hx hb dX1_build_5 rfl (lv_at hl 0 rfl) ?_
  refine h_getr (ci := 1) (C := RX1) (F := TX1) (N := 5) hx hb hts in1 hown hK hH (by decide) (rfl : kd 13 = 1) (by decide) rfl 0 (by decide) wd1 (fun _ h9 => h9) (by decide) rfl (t := 3) (hR 13 0 rfl) (by decide) dX1_build_6 ?_
  have bx_2 : (0 : Int) ≤ (i 3 4).toInt ∧ (i 3 4).toInt ≤ 20 := hO 3 4
  refine h_geti (ci := 5) (C := RX5) (F := TX5) (N := 19) hx hb hts in5 hown hK hH (by decide) (rfl : kd 3 = 5) (by decide) rfl 4 (by decide) wd2 (fun _ h9 => h9) (by decide) rfl dX1_build_9 ?_
  refine sj_i (y := (i 3 4)) (congrFun (up2_n _ _ (by decide)) _) ?_
  refine lv_if_le (tgt := 16) hx hb dX1_build_12 (by decide) (fun c_3 => ?_) (fun c_3 => ?_)
  · skip
    have h_4 := s_le (rfl : (i 3 4).toInt = _) (show (0 : Int32).toInt = 0 from rfl) c_3
    refine lv_iconst (v := 0) hx hb dX1_build_16 (by decide) ?_
    refine lv_istore_n (lv' := [(1, .int 0), (0, .ref (g 13))]) hx hb dX1_build_17 rfl hl (by decide) rfl (fun ls hl => ?_)
    -- loop at 18
    have lp_5 : ∀ (fuel_lp_5 : Nat) (f : Int32) (j1 : Nat → Nat → Int32) (r1 : Nat → Nat → Nat) (H : Heap) (locs : List Loc) (ls : Array Slot), (12 - f.toInt).toNat < fuel_lp_5 → (0 : Int) ≤ f.toInt ∧ f.toInt ≤ 12 → f.toInt ≤ (i 3 8).toInt → PC j1 r1 → csP j1 r1 ((csA i f.toInt.toNat).take 24) → RS r1 → (∀ a b, ¬ ((216 ≤ a ∧ a < 240)) → r1 a b = r a b) → OkI j1 → (∀ a, ¬ (a = 13 ∨ (216 ≤ a ∧ a < 240)) → j1 a = (up2 i 13 4 0) a) → lv_has ls 4 [(1, .int f), (0, .ref (g 13))] → sj_H D A (hwc g ka j1 r1 L d) H → va_S A s.heap H locs → W p l e (headSpec wsX1_build ({ frames := 2, cells := 0, slots := 0, locals := 48 })).room s m ([.ref (g 13)] : List Value).toArray below meth c H locs 0 0 (MQ below (sj_Qv (S := (Nat → Nat → Int32) × (Nat → Nat → Nat)) D (fun u => OkI u.1 ∧ (∀ a, ¬ (a = 13 ∨ (216 ≤ a ∧ a < 240)) → u.1 a = i a) ∧ RS u.2 ∧ (∀ a b, ¬ ((216 ≤ a ∧ a < 240)) → u.2 a b = r a b) ∧ (PC u.1 u.2) ∧ (csP u.1 u.2 (if 0 < (i 3 4).toInt then [] else (csA i (i 3 8).toInt.toNat).take 24))) (fun u => hwc g ka u.1 u.2 L d) (fun _ => []) A) ([.ref (g 13)] : List Value).toArray s 0 0 A) (F0 m 18 ls []) := by
      intro fuel_lp_5
      induction fuel_lp_5 with
      | zero => intros; omega
      | succ fuel_lp_5 ih_lp_5 =>
        intro f j1 r1 H locs ls hm hr_f hi_lp_5_0 hi_lp_5_1 hi_lp_5_2 hRS_r1 hfr_r1 hO_j1 hfr_j1 hl hH hS
        refine lv_iload_n hx hb dX1_build_18 rfl (lv_at hl 0 rfl) ?_
        refine lv_aload_n hx hb dX1_build_19 rfl (lv_at hl 1 rfl) ?_
        refine h_getr (ci := 1) (C := RX1) (F := TX1) (N := 5) hx hb hts in1 hown hK hH (by decide) (rfl : kd 13 = 1) (by decide) rfl 0 (by decide) wd1 (fun _ h9 => h9) (by decide) rfl (t := 3) (hRS_r1 13 0 rfl) (by decide) dX1_build_20 ?_
        have bx_6 : (0 : Int) ≤ (i 3 8).toInt ∧ (i 3 8).toInt ≤ 12 := hO 3 8
        refine h_geti (ci := 5) (C := RX5) (F := TX5) (N := 19) hx hb hts in5 hown hK hH (by decide) (rfl : kd 3 = 5) (by decide) rfl 8 (by decide) wd3 (fun _ h9 => h9) (by decide) rfl dX1_build_23 ?_
        refine sj_i (y := (i 3 8)) ((congrFun (hfr_j1 3 (by omega)) _).trans (congrFun (up2_n _ _ (by decide)) _)) ?_
        refine lv_icmp_ge (tgt := 95) hx hb dX1_build_26 (by decide) (fun c_7 => ?_) (fun c_7 => ?_)
        · skip
          have h_8 := s_le (rfl : (i 3 8).toInt = _) (rfl : f.toInt = _) c_7
          exact sj_vret hx hb hr hlocks hS (j1, r1) ⟨hO_j1, (fun a ha => ((hfr_j1 a (by omega)).trans (up2_n _ _ (by omega)))), hRS_r1, (fun a b ha => (hfr_r1 a b (by omega))), hi_lp_5_1, (by rw [if_neg (by omega), show (i 3 8).toInt.toNat = f.toInt.toNat by omega]; exact hi_lp_5_2)⟩ hH (sj_Knil hK) (Nat.le_of_ble_eq_true rfl) (Nat.le_of_ble_eq_true rfl) dX1_build_95
        · skip
          have h_9 := s_nle (rfl : (i 3 8).toInt = _) (rfl : f.toInt = _) c_7
          refine lv_aload_n hx hb dX1_build_29 rfl (lv_at hl 1 rfl) ?_
          refine h_getr (ci := 1) (C := RX1) (F := TX1) (N := 5) hx hb hts in1 hown hK hH (by decide) (rfl : kd 13 = 1) (by decide) rfl 0 (by decide) wd1 (fun _ h9 => h9) (by decide) rfl (t := 3) (hRS_r1 13 0 rfl) (by decide) dX1_build_30 ?_
          refine h_getr (ci := 5) (C := RX5) (F := TX5) (N := 19) hx hb hts in5 hown hK hH (by decide) (rfl : kd 3 = 5) (by decide) rfl 7 (by decide) wd4 (fun _ h9 => h9) (by decide) rfl (t := 9) (hRS_r1 3 7 rfl) (by decide) dX1_build_33 ?_
          refine lv_iload_n hx hb dX1_build_36 rfl (lv_at hl 0 rfl) ?_
          obtain ⟨j_10, ej_10, hj_10⟩ : ∃ j : Nat, (f).toNatClampNeg = j ∧ (j : Int) = f.toInt := ⟨_, rfl, by rw [s_cl (rfl : f.toInt = _)]; omega⟩
          have lj_10 : j_10 < 12 := by omega
          refine h_qald hx hb hK hH (by decide) (rfl : kd 9 = 22) (by decide) rfl (s_vin (N := 12) (rfl : f.toInt = _) (rfl : ln 9 = 12) (by omega) (by omega)) (t := (42 + 1 * j_10)) (by rw [ej_10]; exact (hRS_r1 9 j_10 rfl)) (lt_nK (by omega)) dX1_build_37 ?_
          have pb_11 := bxp hO (p := (42 + 1 * j_10)) (by omega) (by omega)
          have po_12 := hPO (42 + 1 * j_10) (by omega) (by omega)
          refine lv_astore_n (lv' := [(2, .ref (g (42 + 1 * j_10))), (1, .int f), (0, .ref (g 13))]) hx hb dX1_build_38 rfl hl (by decide) rfl (fun ls hl => ?_)
          refine lv_aload_n hx hb dX1_build_39 rfl (lv_at hl 0 rfl) ?_
          have bx_13 : (0 : Int) ≤ (i (42 + 1 * j_10) 8).toInt ∧ (i (42 + 1 * j_10) 8).toInt ≤ 12 := by have h9 := hO (42 + 1 * j_10) 8; rw [bx_part (by omega) (by omega) 8] at h9; exact h9
          refine h_geti (ci := 4) (C := RX4) (F := TX4) (N := 9) hx hb hts in4 hown hK hH (lt_nK (by omega)) (kd_part (by omega) (by omega)) (by decide) rfl 8 (by decide) wd5 (fun _ h9 => h9) (by decide) rfl dX1_build_40 ?_
          refine sj_i (y := (i (42 + 1 * j_10) 8)) ((congrFun (hfr_j1 (42 + 1 * j_10) (by omega)) _).trans (congrFun (up2_n _ _ (by omega)) _)) ?_
          refine lv_if_ne (tgt := 54) hx hb dX1_build_43 (by decide) (fun c_14 => ?_) (fun c_14 => ?_)
          · skip
            have h_15 := s_ne (rfl : (i (42 + 1 * j_10) 8).toInt = _) (show (0 : Int32).toInt = 0 from rfl) c_14
            refine lv_iconst (v := 0) hx hb dX1_build_54 (by decide) ?_
            refine lv_istore_n (lv' := [(3, .int 0), (2, .ref (g (42 + 1 * j_10))), (1, .int f), (0, .ref (g 13))]) hx hb dX1_build_55 rfl hl (by decide) rfl (fun ls hl => ?_)
            -- loop at 56
            have lp_16 : ∀ (fuel_lp_16 : Nat) (u : Int32) (j2 : Nat → Nat → Int32) (r2 : Nat → Nat → Nat) (H : Heap) (locs : List Loc) (ls : Array Slot), (12 - u.toInt).toNat < fuel_lp_16 → (0 : Int) ≤ u.toInt ∧ u.toInt ≤ 12 → u.toInt ≤ (i (42 + 1 * j_10) 8).toInt → PC j2 r2 → csP j2 r2 ((csA i f.toInt.toNat ++ (if (i (42 + 1 * j_10) 8).toInt = 0 then [(j_10, ortags i (42 + 1 * j_10) 0)] else []) ++ csX i (42 + 1 * j_10) u.toInt.toNat).take 24) → RS r2 → (∀ a b, ¬ ((216 ≤ a ∧ a < 240)) → r2 a b = r1 a b) → OkI j2 → (∀ a, ¬ (a = 13 ∨ (216 ≤ a ∧ a < 240)) → j2 a = j1 a) → lv_has ls 4 [(3, .int u), (2, .ref (g (42 + 1 * j_10))), (1, .int f), (0, .ref (g 13))] → sj_H D A (hwc g ka j2 r2 L d) H → va_S A s.heap H locs → W p l e (headSpec wsX1_build ({ frames := 2, cells := 0, slots := 0, locals := 48 })).room s m ([.ref (g 13)] : List Value).toArray below meth c H locs 0 0 (MQ below (sj_Qv (S := (Nat → Nat → Int32) × (Nat → Nat → Nat)) D (fun u => OkI u.1 ∧ (∀ a, ¬ (a = 13 ∨ (216 ≤ a ∧ a < 240)) → u.1 a = i a) ∧ RS u.2 ∧ (∀ a b, ¬ ((216 ≤ a ∧ a < 240)) → u.2 a b = r a b) ∧ (PC u.1 u.2) ∧ (csP u.1 u.2 (if 0 < (i 3 4).toInt then [] else (csA i (i 3 8).toInt.toNat).take 24))) (fun u => hwc g ka u.1 u.2 L d) (fun _ => []) A) ([.ref (g 13)] : List Value).toArray s 0 0 A) (F0 m 56 ls []) := by
              intro fuel_lp_16
              induction fuel_lp_16 with
              | zero => intros; omega
              | succ fuel_lp_16 ih_lp_16 =>
                intro u j2 r2 H locs ls hm hr_u hi_lp_16_0 hi_lp_16_1 hi_lp_16_2 hRS_r2 hfr_r2 hO_j2 hfr_j2 hl hH hS
                refine lv_iload_n hx hb dX1_build_56 rfl (lv_at hl 0 rfl) ?_
                refine lv_aload_n hx hb dX1_build_57 rfl (lv_at hl 1 rfl) ?_
                refine h_geti (ci := 4) (C := RX4) (F := TX4) (N := 9) hx hb hts in4 hown hK hH (lt_nK (by omega)) (kd_part (by omega) (by omega)) (by decide) rfl 8 (by decide) wd5 (fun _ h9 => h9) (by decide) rfl dX1_build_58 ?_
                refine sj_i (y := (i (42 + 1 * j_10) 8)) ((congrFun (hfr_j2 (42 + 1 * j_10) (by omega)) _).trans ((congrFun (hfr_j1 (42 + 1 * j_10) (by omega)) _).trans (congrFun (up2_n _ _ (by omega)) _))) ?_
                refine lv_icmp_ge (tgt := 89) hx hb dX1_build_61 (by decide) (fun c_17 => ?_) (fun c_17 => ?_)
                · skip
                  have h_18 := s_le (rfl : (i (42 + 1 * j_10) 8).toInt = _) (rfl : u.toInt = _) c_17
                  obtain ⟨z_19, ez_19, hz_19⟩ := s_add (rfl : f.toInt = _) (show (1 : Int32).toInt = 1 from rfl) (by omega) (by omega)
                  refine lv_iinc (v := z_19) (lv' := [(1, .int z_19), (3, .int u), (2, .ref (g (42 + 1 * j_10))), (0, .ref (g 13))]) hx hb dX1_build_89 hl (k := 2) rfl ez_19 (by decide) rfl (fun ls hl => ?_)
                  refine lv_goto (tgt := 18) hx hb dX1_build_92 (by decide) ?_
                  exact ih_lp_5 z_19 _ _ _ _ ls (by omega) (by omega) (by omega) hi_lp_16_1 (by
          rw [show (z_19).toInt.toNat = f.toInt.toNat + 1 by omega]
          have h7 := hi_lp_16_2
          rw [show u.toInt.toNat = (i (42 + 1 * j_10) 8).toInt.toNat by omega, List.append_assoc, show j_10 = f.toInt.toNat by omega] at h7
          exact h7) hRS_r2 (fun a b ha => ((hfr_r2 a b (by omega)).trans (hfr_r1 a b (by omega)))) hO_j2 (fun a ha => ((hfr_j2 a (by omega)).trans (hfr_j1 a (by omega)))) (lv_sub hl [0, 3] rfl) hH hS
                · skip
                  have h_20 := s_nle (rfl : (i (42 + 1 * j_10) 8).toInt = _) (rfl : u.toInt = _) c_17
                  refine lv_aload_n hx hb dX1_build_64 rfl (lv_at hl 3 rfl) ?_
                  refine lv_aload_n hx hb dX1_build_65 rfl (lv_at hl 1 rfl) ?_
                  refine lv_aload_n hx hb dX1_build_66 rfl (lv_at hl 3 rfl) ?_
                  refine h_getr (ci := 1) (C := RX1) (F := TX1) (N := 5) hx hb hts in1 hown hK hH (by decide) (rfl : kd 13 = 1) (by decide) rfl 0 (by decide) wd1 (fun _ h9 => h9) (by decide) rfl (t := 3) (hRS_r2 13 0 rfl) (by decide) dX1_build_67 ?_
                  refine h_getr (ci := 5) (C := RX5) (F := TX5) (N := 19) hx hb hts in5 hown hK hH (by decide) (rfl : kd 3 = 5) (by decide) rfl 11 (by decide) wd6 (fun _ h9 => h9) (by decide) rfl (t := 11) (hRS_r2 3 11 rfl) (by decide) dX1_build_70 ?_
                  refine lv_aload_n hx hb dX1_build_73 rfl (lv_at hl 1 rfl) ?_
                  have bx_21 : (0 : Int) ≤ (i (42 + 1 * j_10) 7).toInt ∧ (i (42 + 1 * j_10) 7).toInt ≤ 12 := by have h9 := hO (42 + 1 * j_10) 7; rw [bx_part (by omega) (by omega) 7] at h9; exact h9
                  refine h_geti (ci := 4) (C := RX4) (F := TX4) (N := 9) hx hb hts in4 hown hK hH (lt_nK (by omega)) (kd_part (by omega) (by omega)) (by decide) rfl 7 (by decide) wd7 (fun _ h9 => h9) (by decide) rfl dX1_build_74 ?_
                  refine sj_i (y := (i (42 + 1 * j_10) 7)) ((congrFun (hfr_j2 (42 + 1 * j_10) (by omega)) _).trans ((congrFun (hfr_j1 (42 + 1 * j_10) (by omega)) _).trans (congrFun (up2_n _ _ (by omega)) _))) ?_
                  refine lv_iload_n hx hb dX1_build_77 rfl (lv_at hl 0 rfl) ?_
                  refine lv_iadd hx hb dX1_build_78 ?_
                  obtain ⟨z_22, ez_22, hz_22⟩ := s_add (rfl : (i (42 + 1 * j_10) 7).toInt = _) (rfl : u.toInt = _) (by omega) (by omega)
                  refine sj_i ez_22 ?_
                  obtain ⟨j_23, ej_23, hj_23⟩ : ∃ j : Nat, (z_22).toNatClampNeg = j ∧ (j : Int) = z_22.toInt := ⟨_, rfl, by rw [s_cl (rfl : z_22.toInt = _)]; omega⟩
                  have lj_23 : j_23 < 12 := by omega
                  refine h_qald hx hb hK hH (by decide) (rfl : kd 11 = 22) (by decide) rfl (s_vin (N := 12) (rfl : z_22.toInt = _) (rfl : ln 11 = 12) (by omega) (by omega)) (t := (84 + 1 * j_23)) (by rw [ej_23]; exact (hRS_r2 11 j_23 rfl)) (lt_nK (by omega)) dX1_build_79 ?_
                  have pb_24 := bxp hO (p := (84 + 1 * j_23)) (by omega) (by omega)
                  have po_25 := hPO (84 + 1 * j_23) (by omega) (by omega)
                  refine x_callv (va_runV (As := [.ref (g (42 + 1 * j_10)), .ref (g (84 + 1 * j_23))]) (rest := []) ⟨hx, hb, hml, hown, hts⟩ (k_addEx l D g ka ad j2 r2 L d (42 + 1 * j_10) (84 + 1 * j_23) hO_j2 hRS_r2 H.size (by first | omega | decide) (by first | omega | decide) (by first | omega | decide) (by first | omega | decide) hi_lp_16_1 (PO_fr hPO (fun a ha => ((hfr_j2 a (by omega)).trans ((hfr_j1 a (by omega)).trans (up2_n _ _ (by omega))))))) (cwV 2 hts gX1_build_X1_addExamples rfl rfl rfl (by decide +kernel) ⟨(Nat.le_of_ble_eq_true rfl), (Nat.le_of_ble_eq_true rfl)⟩) (x_preV (q := (RX1, TX1, 5)) hH hK (q_obj (by decide) (rfl : kd 13 = 1) (by decide)) rfl gxb (gxw hE hS (x_F hH hS hA))) rfl rfl hl.1 rfl (lv_room (Nat.le_of_ble_eq_true rfl)) dX1_build_80 ⟨(Nat.le_of_ble_eq_true rfl), (Nat.le_of_ble_eq_true rfl)⟩) hH hS hA rfl rfl (fun u_30 H locs hw_27 hH hS => ?_)
                  obtain ⟨im_28, rm_29⟩ := u_30
                  try dsimp only at hw_27
                  have hH : sj_H D A (hwc g ka im_28 rm_29 L d) H := hH
                  obtain ⟨hO_32, hfr_31, hRS_33, hfr_34, hx2_35, hx2_36⟩ := hw_27
                  obtain ⟨z_37, ez_37, hz_37⟩ := s_add (rfl : u.toInt = _) (show (1 : Int32).toInt = 1 from rfl) (by omega) (by omega)
                  refine lv_iinc (v := z_37) (lv' := [(3, .int z_37), (2, .ref (g (42 + 1 * j_10))), (1, .int f), (0, .ref (g 13))]) hx hb dX1_build_83 hl (k := 0) rfl ez_37 (by decide) rfl (fun ls hl => ?_)
                  refine lv_goto (tgt := 56) hx hb dX1_build_86 (by decide) ?_
                  have hX : csX i (42 + 1 * j_10) (u.toInt.toNat + 1) = csX i (42 + 1 * j_10) u.toInt.toNat ++ csE i (42 + 1 * j_10) (84 + 1 * j_23) ((i (84 + 1 * j_23) 3).toInt - 1).toNat := by
                      show csX i (42 + 1 * j_10) _ ++ csE i (42 + 1 * j_10) (84 + 1 * ((i (42 + 1 * j_10) 7).toInt + (u.toInt.toNat : Int)).toNat) _ = _
                      rw [show ((i (42 + 1 * j_10) 7).toInt + (u.toInt.toNat : Int)).toNat = j_23 by omega]
                  have h9 := hx2_36 _ (csP_len hO_j2 hi_lp_16_2) hi_lp_16_2
                  rw [csE_fr hO (by omega) (by omega) (by omega) (by omega) (fun a ha => ((hfr_j2 a (by omega)).trans ((hfr_j1 a (by omega)).trans (up2_n _ _ (by omega))))), show j2 (84 + 1 * j_23) 3 = i (84 + 1 * j_23) 3 from congrFun (((hfr_j2 (84 + 1 * j_23) (by omega)).trans ((hfr_j1 (84 + 1 * j_23) (by omega)).trans (up2_n _ _ (by omega))))) 3, take_app] at h9
                  exact ih_lp_16 z_37 _ _ _ _ ls (by omega) (by omega) (by omega) hx2_35 (by
          rw [show (z_37).toInt.toNat = u.toInt.toNat + 1 by omega, hX, ← List.append_assoc]
          exact h9) hRS_33 (fun a b ha => ((hfr_34 a b (by omega)).trans (hfr_r2 a b (by omega)))) hO_32 (fun a ha => ((hfr_31 a (by omega)).trans (hfr_j2 a (by omega)))) (lv_sub hl [0, 1, 2, 3] rfl) hH hS
            have hl_38 : (0 : Int32).toInt = 0 := rfl
            exact lp_16 _ 0 _ _ _ _ ls (Nat.lt_succ_self _) (by omega) (by omega) hi_lp_5_1 (by
          rw [if_neg (by omega), show (0 : Int32).toInt.toNat = 0 from rfl]
          show csP _ _ ((csA i f.toInt.toNat ++ [] ++ []).take 24)
          rw [List.append_nil, List.append_nil]
          exact hi_lp_5_2) hRS_r1 (fun a b ha => rfl) hO_j1 (fun a ha => rfl) (lv_sub hl [0, 1, 2, 3] rfl) hH hS
          · skip
            have h_39 := s_eq (rfl : (i (42 + 1 * j_10) 8).toInt = _) (show (0 : Int32).toInt = 0 from rfl) c_14
            refine lv_aload_n hx hb dX1_build_46 rfl (lv_at hl 2 rfl) ?_
            refine lv_aload_n hx hb dX1_build_47 rfl (lv_at hl 0 rfl) ?_
            refine lv_iconst (v := 0) hx hb dX1_build_48 (by decide) ?_
            refine lv_null hx hb dX1_build_49 ?_
            refine lv_null hx hb dX1_build_50 ?_
            have hl_40 : (0 : Int32).toInt = 0 := rfl
            refine x_callv (va_runV (As := [.ref (g (42 + 1 * j_10)), .int 0, .null, .null]) (rest := []) ⟨hx, hb, hml, hown, hts⟩ (k_addN l D g ka ad j1 r1 L d (42 + 1 * j_10) 0 hO_j1 hRS_r1 H.size (by first | omega | decide) (by first | omega | decide) hi_lp_5_1 (by first | omega | decide) (by first | omega | decide)) (cwV 4 hts gX1_build_X1_add rfl rfl rfl (by decide +kernel) ⟨(Nat.le_of_ble_eq_true rfl), (Nat.le_of_ble_eq_true rfl)⟩) (x_preV (q := (RX1, TX1, 5)) hH hK (q_obj (by decide) (rfl : kd 13 = 1) (by decide)) rfl gxb (gxw hE hS (x_F hH hS hA))) rfl rfl hl.1 rfl (lv_room (Nat.le_of_ble_eq_true rfl)) dX1_build_51 ⟨(Nat.le_of_ble_eq_true rfl), (Nat.le_of_ble_eq_true rfl)⟩) hH hS hA rfl rfl (fun u_45 H locs hw_42 hH hS => ?_)
            obtain ⟨im_43, rm_44⟩ := u_45
            try dsimp only at hw_42
            have hH : sj_H D A (hwc g ka im_43 rm_44 L d) H := hH
            obtain ⟨hO_47, hfr_46, hRS_48, hfr_49, hx2_50, hx2_51, hx2_52, hx2_53⟩ := hw_42
            refine lv_iconst (v := 0) hx hb dX1_build_54 (by decide) ?_
            refine lv_istore_n (lv' := [(3, .int 0), (2, .ref (g (42 + 1 * j_10))), (1, .int f), (0, .ref (g 13))]) hx hb dX1_build_55 rfl hl (by decide) rfl (fun ls hl => ?_)
            -- loop at 56
            have lp_54 : ∀ (fuel_lp_54 : Nat) (u : Int32) (j2 : Nat → Nat → Int32) (r2 : Nat → Nat → Nat) (H : Heap) (locs : List Loc) (ls : Array Slot), (12 - u.toInt).toNat < fuel_lp_54 → (0 : Int) ≤ u.toInt ∧ u.toInt ≤ 12 → u.toInt ≤ (i (42 + 1 * j_10) 8).toInt → PC j2 r2 → csP j2 r2 ((csA i f.toInt.toNat ++ (if (i (42 + 1 * j_10) 8).toInt = 0 then [(j_10, ortags i (42 + 1 * j_10) 0)] else []) ++ csX i (42 + 1 * j_10) u.toInt.toNat).take 24) → RS r2 → (∀ a b, ¬ ((216 ≤ a ∧ a < 240)) → r2 a b = rm_44 a b) → OkI j2 → (∀ a, ¬ (a = 13 ∨ (216 ≤ a ∧ a < 240)) → j2 a = im_43 a) → lv_has ls 4 [(3, .int u), (2, .ref (g (42 + 1 * j_10))), (1, .int f), (0, .ref (g 13))] → sj_H D A (hwc g ka j2 r2 L d) H → va_S A s.heap H locs → W p l e (headSpec wsX1_build ({ frames := 2, cells := 0, slots := 0, locals := 48 })).room s m ([.ref (g 13)] : List Value).toArray below meth c H locs 0 0 (MQ below (sj_Qv (S := (Nat → Nat → Int32) × (Nat → Nat → Nat)) D (fun u => OkI u.1 ∧ (∀ a, ¬ (a = 13 ∨ (216 ≤ a ∧ a < 240)) → u.1 a = i a) ∧ RS u.2 ∧ (∀ a b, ¬ ((216 ≤ a ∧ a < 240)) → u.2 a b = r a b) ∧ (PC u.1 u.2) ∧ (csP u.1 u.2 (if 0 < (i 3 4).toInt then [] else (csA i (i 3 8).toInt.toNat).take 24))) (fun u => hwc g ka u.1 u.2 L d) (fun _ => []) A) ([.ref (g 13)] : List Value).toArray s 0 0 A) (F0 m 56 ls []) := by
              intro fuel_lp_54
              induction fuel_lp_54 with
              | zero => intros; omega
              | succ fuel_lp_54 ih_lp_54 =>
                intro u j2 r2 H locs ls hm hr_u hi_lp_54_0 hi_lp_54_1 hi_lp_54_2 hRS_r2 hfr_r2 hO_j2 hfr_j2 hl hH hS
                refine lv_iload_n hx hb dX1_build_56 rfl (lv_at hl 0 rfl) ?_
                refine lv_aload_n hx hb dX1_build_57 rfl (lv_at hl 1 rfl) ?_
                refine h_geti (ci := 4) (C := RX4) (F := TX4) (N := 9) hx hb hts in4 hown hK hH (lt_nK (by omega)) (kd_part (by omega) (by omega)) (by decide) rfl 8 (by decide) wd5 (fun _ h9 => h9) (by decide) rfl dX1_build_58 ?_
                refine sj_i (y := (i (42 + 1 * j_10) 8)) ((congrFun (hfr_j2 (42 + 1 * j_10) (by omega)) _).trans ((congrFun (hfr_46 (42 + 1 * j_10) (by omega)) _).trans ((congrFun (hfr_j1 (42 + 1 * j_10) (by omega)) _).trans (congrFun (up2_n _ _ (by omega)) _)))) ?_
                refine lv_icmp_ge (tgt := 89) hx hb dX1_build_61 (by decide) (fun _ => ?_) (fun h => absurd (p_le (rfl : (i (42 + 1 * j_10) 8).toInt = _) (rfl : u.toInt = _) (by omega)) h)
                obtain ⟨z_55, ez_55, hz_55⟩ := s_add (rfl : f.toInt = _) (show (1 : Int32).toInt = 1 from rfl) (by omega) (by omega)
                refine lv_iinc (v := z_55) (lv' := [(1, .int z_55), (3, .int u), (2, .ref (g (42 + 1 * j_10))), (0, .ref (g 13))]) hx hb dX1_build_89 hl (k := 2) rfl ez_55 (by decide) rfl (fun ls hl => ?_)
                refine lv_goto (tgt := 18) hx hb dX1_build_92 (by decide) ?_
                exact ih_lp_5 z_55 _ _ _ _ ls (by omega) (by omega) (by omega) hi_lp_54_1 (by
          rw [show (z_55).toInt.toNat = f.toInt.toNat + 1 by omega]
          have h7 := hi_lp_54_2
          rw [show u.toInt.toNat = (i (42 + 1 * j_10) 8).toInt.toNat by omega, List.append_assoc, show j_10 = f.toInt.toNat by omega] at h7
          exact h7) hRS_r2 (fun a b ha => ((hfr_r2 a b (by omega)).trans ((hfr_49 a b (by omega)).trans (hfr_r1 a b (by omega))))) hO_j2 (fun a ha => ((hfr_j2 a (by omega)).trans ((hfr_46 a (by omega)).trans (hfr_j1 a (by omega))))) (lv_sub hl [0, 3] rfl) hH hS
            have hl_56 : (0 : Int32).toInt = 0 := rfl
            have hE2 := hx2_52
            rw [ortags_fr hO (by omega) (by omega) (fun a ha => ((hfr_j1 a (by omega)).trans (up2_n _ _ (by omega))))] at hE2
            have h9 := csP_add (by omega) hi_lp_5_2 (csP_len hO_j1 hi_lp_5_2) hx2_50 hE2 hx2_53
            rw [take_app, show 42 + 1 * j_10 - 42 = j_10 by omega] at h9
            exact lp_54 _ 0 _ _ _ _ ls (Nat.lt_succ_self _) (by omega) (by omega) hx2_51 (by
          rw [if_pos (by omega), show (0 : Int32).toInt.toNat = 0 from rfl]
          show csP _ _ ((csA i f.toInt.toNat ++ _ ++ []).take 24)
          rw [List.append_nil]
          exact h9) hRS_48 (fun a b ha => rfl) hO_47 (fun a ha => rfl) (lv_sub hl [0, 1, 2, 3] rfl) hH hS
    have hl_57 : (0 : Int32).toInt = 0 := rfl
    exact lp_5 _ 0 _ _ _ _ ls (Nat.lt_succ_self _) (by omega) (by omega) (PC_0 hPC hc0) (csP_0 hc0) hR (fun a b ha => rfl) hO_1 (fun a ha => rfl) (lv_sub hl [0, 1] rfl) hH hS
  · skip
    have h_58 := s_nle (rfl : (i 3 4).toInt = _) (show (0 : Int32).toInt = 0 from rfl) c_3
    exact sj_vret hx hb hr hlocks hS ((up2 i 13 4 0), r) ⟨hO_1, (fun a ha => (up2_n _ _ (by omega))), hR, (fun a b ha => rfl), (PC_0 hPC hc0), (by rw [if_pos (by omega)]; exact csP_0 hc0)⟩ hH (sj_Knil hK) (Nat.le_of_ble_eq_true rfl) (Nat.le_of_ble_eq_true rfl) dX1_build_15
