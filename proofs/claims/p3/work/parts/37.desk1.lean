theorem dX11_boundDefinition_0 : decode cX11_boundDefinition 0 = .ok (.iconst (-1), 1) := by decide +kernel
theorem dX11_boundDefinition_1 : decode cX11_boundDefinition 1 = .ok (.istore_n 1, 1) := by decide +kernel
theorem dX11_boundDefinition_2 : decode cX11_boundDefinition 2 = .ok (.iconst 0, 1) := by decide +kernel
theorem dX11_boundDefinition_3 : decode cX11_boundDefinition 3 = .ok (.istore_n 2, 1) := by decide +kernel
theorem dX11_boundDefinition_4 : decode cX11_boundDefinition 4 = .ok (.iload_n 2, 1) := by decide +kernel
theorem dX11_boundDefinition_5 : decode cX11_boundDefinition 5 = .ok (.aload_n 0, 1) := by decide +kernel
theorem dX11_boundDefinition_6 : decode cX11_boundDefinition 6 = .ok (.getfield 114, 3) := by decide +kernel
theorem dX11_boundDefinition_9 : decode cX11_boundDefinition 9 = .ok (.if_icmp .ge 37, 3) := by decide +kernel
theorem dX11_boundDefinition_46 : decode cX11_boundDefinition 46 = .ok (.iload_n 1, 1) := by decide +kernel
theorem dX11_boundDefinition_47 : decode cX11_boundDefinition 47 = .ok (.ireturn, 1) := by decide +kernel
theorem dX11_boundDefinition_12 : decode cX11_boundDefinition 12 = .ok (.aload_n 0, 1) := by decide +kernel
theorem dX11_boundDefinition_13 : decode cX11_boundDefinition 13 = .ok (.getfield 50, 3) := by decide +kernel
theorem dX11_boundDefinition_16 : decode cX11_boundDefinition 16 = .ok (.iload_n 2, 1) := by decide +kernel
theorem dX11_boundDefinition_17 : decode cX11_boundDefinition 17 = .ok (.aaload, 1) := by decide +kernel
theorem dX11_boundDefinition_18 : decode cX11_boundDefinition 18 = .ok (.aload_n 0, 1) := by decide +kernel
theorem dX11_boundDefinition_19 : decode cX11_boundDefinition 19 = .ok (.getfield 30, 3) := by decide +kernel
theorem dX11_boundDefinition_22 : decode cX11_boundDefinition 22 = .ok (.getfield 189, 3) := by decide +kernel
theorem dX11_boundDefinition_25 : decode cX11_boundDefinition 25 = .ok (.invokevirtual 272, 3) := by decide +kernel
theorem dX11_boundDefinition_28 : decode cX11_boundDefinition 28 = .ok (.ifCond .eq 12, 3) := by decide +kernel
theorem dX11_boundDefinition_40 : decode cX11_boundDefinition 40 = .ok (.iinc 2 1, 3) := by decide +kernel
theorem dX11_boundDefinition_43 : decode cX11_boundDefinition 43 = .ok (.goto (-39), 3) := by decide +kernel
theorem dX11_boundDefinition_31 : decode cX11_boundDefinition 31 = .ok (.iload_n 1, 1) := by decide +kernel
theorem dX11_boundDefinition_32 : decode cX11_boundDefinition 32 = .ok (.ifCond .lt 6, 3) := by decide +kernel
theorem dX11_boundDefinition_38 : decode cX11_boundDefinition 38 = .ok (.iload_n 2, 1) := by decide +kernel
theorem dX11_boundDefinition_39 : decode cX11_boundDefinition 39 = .ok (.istore_n 1, 1) := by decide +kernel
theorem dX11_boundDefinition_35 : decode cX11_boundDefinition 35 = .ok (.bipush (-2), 2) := by decide +kernel
theorem dX11_boundDefinition_37 : decode cX11_boundDefinition 37 = .ok (.ireturn, 1) := by decide +kernel
theorem dX11_fittingCount_0 : decode cX11_fittingCount 0 = .ok (.iconst 0, 1) := by decide +kernel
theorem dX11_fittingCount_1 : decode cX11_fittingCount 1 = .ok (.istore_n 1, 1) := by decide +kernel
theorem dX11_fittingCount_2 : decode cX11_fittingCount 2 = .ok (.iconst 0, 1) := by decide +kernel
theorem dX11_fittingCount_3 : decode cX11_fittingCount 3 = .ok (.istore_n 2, 1) := by decide +kernel
theorem dX11_fittingCount_4 : decode cX11_fittingCount 4 = .ok (.iload_n 2, 1) := by decide +kernel
theorem dX11_fittingCount_5 : decode cX11_fittingCount 5 = .ok (.aload_n 0, 1) := by decide +kernel
theorem dX11_fittingCount_6 : decode cX11_fittingCount 6 = .ok (.getfield 114, 3) := by decide +kernel
theorem dX11_fittingCount_9 : decode cX11_fittingCount 9 = .ok (.if_icmp .ge 31, 3) := by decide +kernel
theorem dX11_fittingCount_40 : decode cX11_fittingCount 40 = .ok (.iload_n 1, 1) := by decide +kernel
theorem dX11_fittingCount_41 : decode cX11_fittingCount 41 = .ok (.ireturn, 1) := by decide +kernel
theorem dX11_fittingCount_12 : decode cX11_fittingCount 12 = .ok (.aload_n 0, 1) := by decide +kernel
theorem dX11_fittingCount_13 : decode cX11_fittingCount 13 = .ok (.getfield 50, 3) := by decide +kernel
theorem dX11_fittingCount_16 : decode cX11_fittingCount 16 = .ok (.iload_n 2, 1) := by decide +kernel
theorem dX11_fittingCount_17 : decode cX11_fittingCount 17 = .ok (.aaload, 1) := by decide +kernel
theorem dX11_fittingCount_18 : decode cX11_fittingCount 18 = .ok (.aload_n 0, 1) := by decide +kernel
theorem dX11_fittingCount_19 : decode cX11_fittingCount 19 = .ok (.getfield 30, 3) := by decide +kernel
theorem dX11_fittingCount_22 : decode cX11_fittingCount 22 = .ok (.getfield 189, 3) := by decide +kernel
theorem dX11_fittingCount_25 : decode cX11_fittingCount 25 = .ok (.invokevirtual 272, 3) := by decide +kernel
theorem dX11_fittingCount_28 : decode cX11_fittingCount 28 = .ok (.ifCond .eq 6, 3) := by decide +kernel
theorem dX11_fittingCount_34 : decode cX11_fittingCount 34 = .ok (.iinc 2 1, 3) := by decide +kernel
theorem dX11_fittingCount_37 : decode cX11_fittingCount 37 = .ok (.goto (-33), 3) := by decide +kernel
theorem dX11_fittingCount_31 : decode cX11_fittingCount 31 = .ok (.iinc 1 1, 3) := by decide +kernel
theorem dX11_nextHook_0 : decode cX11_nextHook 0 = .ok (.iload_n 1, 1) := by decide +kernel
theorem dX11_nextHook_1 : decode cX11_nextHook 1 = .ok (.ifCond .eq 7, 3) := by decide +kernel
theorem dX11_nextHook_4 : decode cX11_nextHook 4 = .ok (.iconst 1, 1) := by decide +kernel
theorem dX11_nextHook_5 : decode cX11_nextHook 5 = .ok (.goto 4, 3) := by decide +kernel
theorem dX11_nextHook_9 : decode cX11_nextHook 9 = .ok (.istore 4, 2) := by decide +kernel
theorem dX11_nextHook_11 : decode cX11_nextHook 11 = .ok (.iload_n 2, 1) := by decide +kernel
theorem dX11_nextHook_12 : decode cX11_nextHook 12 = .ok (.istore 5, 2) := by decide +kernel
theorem dX11_nextHook_14 : decode cX11_nextHook 14 = .ok (.iload 5, 2) := by decide +kernel
theorem dX11_nextHook_16 : decode cX11_nextHook 16 = .ok (.ifCond .lt 50, 3) := by decide +kernel
theorem dX11_nextHook_19 : decode cX11_nextHook 19 = .ok (.iload 5, 2) := by decide +kernel
theorem dX11_nextHook_21 : decode cX11_nextHook 21 = .ok (.aload_n 0, 1) := by decide +kernel
theorem dX11_nextHook_22 : decode cX11_nextHook 22 = .ok (.getfield 130, 3) := by decide +kernel
theorem dX11_nextHook_25 : decode cX11_nextHook 25 = .ok (.if_icmp .ge 41, 3) := by decide +kernel
theorem dX11_nextHook_66 : decode cX11_nextHook 66 = .ok (.iconst (-1), 1) := by decide +kernel
theorem dX11_nextHook_67 : decode cX11_nextHook 67 = .ok (.ireturn, 1) := by decide +kernel
theorem dX11_nextHook_28 : decode cX11_nextHook 28 = .ok (.aload_n 0, 1) := by decide +kernel
theorem dX11_nextHook_29 : decode cX11_nextHook 29 = .ok (.getfield 66, 3) := by decide +kernel
theorem dX11_nextHook_32 : decode cX11_nextHook 32 = .ok (.iload 5, 2) := by decide +kernel
theorem dX11_nextHook_34 : decode cX11_nextHook 34 = .ok (.baload, 1) := by decide +kernel
theorem dX11_nextHook_35 : decode cX11_nextHook 35 = .ok (.iload_n 1, 1) := by decide +kernel
theorem dX11_nextHook_36 : decode cX11_nextHook 36 = .ok (.if_icmp .ne 20, 3) := by decide +kernel
theorem dX11_nextHook_56 : decode cX11_nextHook 56 = .ok (.iload 5, 2) := by decide +kernel
theorem dX11_nextHook_58 : decode cX11_nextHook 58 = .ok (.iload 4, 2) := by decide +kernel
theorem dX11_nextHook_60 : decode cX11_nextHook 60 = .ok (.iadd, 1) := by decide +kernel
theorem dX11_nextHook_61 : decode cX11_nextHook 61 = .ok (.istore 5, 2) := by decide +kernel
theorem dX11_nextHook_63 : decode cX11_nextHook 63 = .ok (.goto (-49), 3) := by decide +kernel
theorem dX11_nextHook_39 : decode cX11_nextHook 39 = .ok (.aload_n 0, 1) := by decide +kernel
theorem dX11_nextHook_40 : decode cX11_nextHook 40 = .ok (.getfield 61, 3) := by decide +kernel
theorem dX11_nextHook_43 : decode cX11_nextHook 43 = .ok (.iload 5, 2) := by decide +kernel
theorem dX11_nextHook_45 : decode cX11_nextHook 45 = .ok (.aaload, 1) := by decide +kernel
theorem dX11_nextHook_46 : decode cX11_nextHook 46 = .ok (.iload_n 3, 1) := by decide +kernel
theorem dX11_nextHook_47 : decode cX11_nextHook 47 = .ok (.invokevirtual 146, 3) := by decide +kernel
theorem dX11_nextHook_50 : decode cX11_nextHook 50 = .ok (.ifCond .eq 6, 3) := by decide +kernel
theorem dX11_nextHook_53 : decode cX11_nextHook 53 = .ok (.iload 5, 2) := by decide +kernel
theorem dX11_nextHook_55 : decode cX11_nextHook 55 = .ok (.ireturn, 1) := by decide +kernel
theorem dX11_nextHook_8 : decode cX11_nextHook 8 = .ok (.iconst (-1), 1) := by decide +kernel
theorem gX11_boundDefinition_X2_fits : GoodIn wsX11_boundDefinition (wsV RX11 272 RX2 yX2_fits wsX2_fits) := goodIn_app (goodIn_sub (List.forall_mem_cons.mpr ⟨(List.mem_cons_of_mem _ (List.mem_append_left _ (List.mem_append_left _ (List.mem_append_left _ (List.mem_append_left _ (List.mem_append_left _ lm4)))))), List.forall_mem_cons.mpr ⟨(List.mem_cons_of_mem _ (List.mem_append_left _ (List.mem_append_left _ (List.mem_append_left _ (List.mem_append_left _ (List.mem_append_left _ lm5)))))), List.forall_mem_cons.mpr ⟨(List.mem_cons_of_mem _ (List.mem_append_left _ (List.mem_append_left _ (List.mem_append_left _ (List.mem_append_left _ (List.mem_append_left _ lm6)))))), List.forall_mem_cons.mpr ⟨(List.mem_cons_of_mem _ (List.mem_append_left _ (List.mem_append_left _ (List.mem_append_left _ (List.mem_append_left _ (List.mem_append_left _ lm7)))))), (fun _ h => absurd h List.not_mem_nil)⟩⟩⟩⟩) (by decide +kernel)) (goodIn_sub (by unfold wsX2_fits; exact List.forall_mem_cons.mpr ⟨(List.mem_cons_of_mem _ (List.mem_append_left _ (List.mem_append_left _ (List.mem_append_left _ (List.mem_append_left _ (List.mem_append_left _ lm8)))))), List.forall_mem_append.mpr ⟨List.forall_mem_append.mpr ⟨List.forall_mem_append.mpr ⟨List.forall_mem_cons.mpr ⟨(List.mem_cons_of_mem _ (List.mem_append_left _ (List.mem_append_left _ (List.mem_append_left _ (List.mem_append_left _ (List.mem_append_left _ lm9)))))), List.forall_mem_cons.mpr ⟨(List.mem_cons_of_mem _ (List.mem_append_left _ (List.mem_append_left _ (List.mem_append_left _ (List.mem_append_left _ (List.mem_append_left _ lm10)))))), List.forall_mem_cons.mpr ⟨(List.mem_cons_of_mem _ (List.mem_append_left _ (List.mem_append_left _ (List.mem_append_left _ (List.mem_append_left _ (List.mem_append_left _ lm11)))))), List.forall_mem_cons.mpr ⟨(List.mem_cons_of_mem _ (List.mem_append_left _ (List.mem_append_left _ (List.mem_append_left _ (List.mem_append_left _ (List.mem_append_left _ lm12)))))), List.forall_mem_cons.mpr ⟨(List.mem_cons_of_mem _ (List.mem_append_left _ (List.mem_append_left _ (List.mem_append_left _ (List.mem_append_left _ (List.mem_append_left _ lm13)))))), List.forall_mem_cons.mpr ⟨(List.mem_cons_of_mem _ (List.mem_append_left _ (List.mem_append_left _ (List.mem_append_left _ (List.mem_append_left _ (List.mem_append_left _ lm14)))))), List.forall_mem_cons.mpr ⟨(List.mem_cons_of_mem _ (List.mem_append_left _ (List.mem_append_left _ (List.mem_append_left _ (List.mem_append_left _ (List.mem_append_left _ lm15)))))), List.forall_mem_cons.mpr ⟨(List.mem_cons_of_mem _ (List.mem_append_left _ (List.mem_append_left _ (List.mem_append_left _ (List.mem_append_left _ (List.mem_append_left _ lm7)))))), List.forall_mem_cons.mpr ⟨(List.mem_cons_of_mem _ (List.mem_append_left _ (List.mem_append_left _ (List.mem_append_left _ (List.mem_append_left _ (List.mem_append_left _ lm16)))))), List.forall_mem_cons.mpr ⟨(List.mem_cons_of_mem _ (List.mem_append_left _ (List.mem_append_left _ (List.mem_append_left _ (List.mem_append_left _ (List.mem_append_left _ lm17)))))), List.forall_mem_cons.mpr ⟨(List.mem_cons_of_mem _ (List.mem_append_left _ (List.mem_append_left _ (List.mem_append_left _ (List.mem_append_left _ (List.mem_append_left _ lm18)))))), List.forall_mem_cons.mpr ⟨(List.mem_cons_of_mem _ (List.mem_append_left _ (List.mem_append_left _ (List.mem_append_left _ (List.mem_append_left _ (List.mem_append_left _ lm19)))))), List.forall_mem_cons.mpr ⟨(List.mem_cons_of_mem _ (List.mem_append_left _ (List.mem_append_left _ (List.mem_append_left _ (List.mem_append_left _ (List.mem_append_left _ lm20)))))), List.forall_mem_cons.mpr ⟨(List.mem_cons_of_mem _ (List.mem_append_left _ (List.mem_append_left _ (List.mem_append_left _ (List.mem_append_left _ (List.mem_append_left _ lm21)))))), List.forall_mem_cons.mpr ⟨(List.mem_cons_of_mem _ (List.mem_append_left _ (List.mem_append_left _ (List.mem_append_left _ (List.mem_append_left _ (List.mem_append_left _ lm22)))))), List.forall_mem_cons.mpr ⟨(List.mem_cons_of_mem _ (List.mem_append_left _ (List.mem_append_left _ (List.mem_append_left _ (List.mem_append_left _ (List.mem_append_left _ lm23)))))), List.forall_mem_cons.mpr ⟨(List.mem_cons_of_mem _ (List.mem_append_left _ (List.mem_append_left _ (List.mem_append_left _ (List.mem_append_left _ (List.mem_append_right _ (List.mem_append_left _ lm0))))))), List.forall_mem_cons.mpr ⟨(List.mem_cons_of_mem _ (List.mem_append_left _ (List.mem_append_left _ (List.mem_append_left _ (List.mem_append_left _ (List.mem_append_right _ (List.mem_append_left _ lm1))))))), List.forall_mem_cons.mpr ⟨(List.mem_cons_of_mem _ (List.mem_append_left _ (List.mem_append_left _ (List.mem_append_left _ (List.mem_append_left _ (List.mem_append_right _ (List.mem_append_left _ lm2))))))), List.forall_mem_cons.mpr ⟨(List.mem_cons_of_mem _ (List.mem_append_left _ (List.mem_append_left _ (List.mem_append_left _ (List.mem_append_left _ (List.mem_append_right _ (List.mem_append_left _ lm3))))))), List.forall_mem_cons.mpr ⟨(List.mem_cons_of_mem _ (List.mem_append_left _ (List.mem_append_left _ (List.mem_append_left _ (List.mem_append_left _ (List.mem_append_right _ (List.mem_append_left _ lm4))))))), List.forall_mem_cons.mpr ⟨(List.mem_cons_of_mem _ (List.mem_append_left _ (List.mem_append_left _ (List.mem_append_left _ (List.mem_append_left _ (List.mem_append_right _ (List.mem_append_left _ lm5))))))), List.forall_mem_cons.mpr ⟨(List.mem_cons_of_mem _ (List.mem_append_left _ (List.mem_append_left _ (List.mem_append_left _ (List.mem_append_left _ (List.mem_append_right _ (List.mem_append_left _ lm6))))))), List.forall_mem_cons.mpr ⟨(List.mem_cons_of_mem _ (List.mem_append_left _ (List.mem_append_left _ (List.mem_append_left _ (List.mem_append_left _ (List.mem_append_right _ (List.mem_append_left _ lm7))))))), (fun _ h => absurd h List.not_mem_nil)⟩⟩⟩⟩⟩⟩⟩⟩⟩⟩⟩⟩⟩⟩⟩⟩⟩⟩⟩⟩⟩⟩⟩⟩, List.forall_mem_cons.mpr ⟨(List.mem_cons_of_mem _ (List.mem_append_left _ (List.mem_append_left _ (List.mem_append_left _ (List.mem_append_left _ (List.mem_append_right _ (List.mem_append_left _ lm8))))))), List.forall_mem_cons.mpr ⟨(List.mem_cons_of_mem _ (List.mem_append_left _ (List.mem_append_left _ (List.mem_append_left _ (List.mem_append_left _ (List.mem_append_right _ (List.mem_append_left _ lm9))))))), List.forall_mem_cons.mpr ⟨(List.mem_cons_of_mem _ (List.mem_append_left _ (List.mem_append_left _ (List.mem_append_left _ (List.mem_append_left _ (List.mem_append_right _ (List.mem_append_left _ lm10))))))), List.forall_mem_cons.mpr ⟨(List.mem_cons_of_mem _ (List.mem_append_left _ (List.mem_append_left _ (List.mem_append_left _ (List.mem_append_left _ (List.mem_append_right _ (List.mem_append_left _ lm11))))))), List.forall_mem_cons.mpr ⟨(List.mem_cons_of_mem _ (List.mem_append_left _ (List.mem_append_left _ (List.mem_append_left _ (List.mem_append_left _ (List.mem_append_right _ (List.mem_append_left _ lm12))))))), List.forall_mem_cons.mpr ⟨(List.mem_cons_of_mem _ (List.mem_append_left _ (List.mem_append_left _ (List.mem_append_left _ (List.mem_append_left _ (List.mem_append_right _ (List.mem_append_left _ lm13))))))), List.forall_mem_cons.mpr ⟨(List.mem_cons_of_mem _ (List.mem_append_left _ (List.mem_append_left _ (List.mem_append_left _ (List.mem_append_left _ (List.mem_append_right _ (List.mem_append_left _ lm14))))))), List.forall_mem_cons.mpr ⟨(List.mem_cons_of_mem _ (List.mem_append_left _ (List.mem_append_left _ (List.mem_append_left _ (List.mem_append_left _ (List.mem_append_right _ (List.mem_append_left _ lm15))))))), List.forall_mem_cons.mpr ⟨(List.mem_cons_of_mem _ (List.mem_append_left _ (List.mem_append_left _ (List.mem_append_left _ (List.mem_append_left _ (List.mem_append_right _ (List.mem_append_left _ lm16))))))), List.forall_mem_cons.mpr ⟨(List.mem_cons_of_mem _ (List.mem_append_left _ (List.mem_append_left _ (List.mem_append_left _ (List.mem_append_left _ (List.mem_append_right _ (List.mem_append_left _ lm17))))))), List.forall_mem_cons.mpr ⟨(List.mem_cons_of_mem _ (List.mem_append_left _ (List.mem_append_left _ (List.mem_append_left _ (List.mem_append_left _ (List.mem_append_right _ (List.mem_append_left _ lm18))))))), List.forall_mem_cons.mpr ⟨(List.mem_cons_of_mem _ (List.mem_append_left _ (List.mem_append_left _ (List.mem_append_left _ (List.mem_append_left _ (List.mem_append_right _ (List.mem_append_left _ lm19))))))), List.forall_mem_cons.mpr ⟨(List.mem_cons_of_mem _ (List.mem_append_left _ (List.mem_append_left _ (List.mem_append_left _ (List.mem_append_left _ (List.mem_append_right _ (List.mem_append_left _ lm20))))))), List.forall_mem_cons.mpr ⟨(List.mem_cons_of_mem _ (List.mem_append_left _ (List.mem_append_left _ (List.mem_append_left _ (List.mem_append_left _ (List.mem_append_right _ (List.mem_append_left _ lm21))))))), List.forall_mem_cons.mpr ⟨(List.mem_cons_of_mem _ (List.mem_append_left _ (List.mem_append_left _ (List.mem_append_left _ (List.mem_append_left _ (List.mem_append_right _ (List.mem_append_left _ lm22))))))), List.forall_mem_cons.mpr ⟨(List.mem_cons_of_mem _ (List.mem_append_left _ (List.mem_append_left _ (List.mem_append_left _ (List.mem_append_left _ (List.mem_append_right _ (List.mem_append_left _ lm23))))))), List.forall_mem_cons.mpr ⟨(List.mem_cons_of_mem _ (List.mem_append_left _ (List.mem_append_left _ (List.mem_append_left _ (List.mem_append_left _ (List.mem_append_right _ (List.mem_append_right _ lm0))))))), List.forall_mem_cons.mpr ⟨(List.mem_cons_of_mem _ (List.mem_append_left _ (List.mem_append_left _ (List.mem_append_left _ (List.mem_append_left _ (List.mem_append_right _ (List.mem_append_right _ lm1))))))), List.forall_mem_cons.mpr ⟨(List.mem_cons_of_mem _ (List.mem_append_left _ (List.mem_append_left _ (List.mem_append_left _ (List.mem_append_left _ (List.mem_append_right _ (List.mem_append_right _ lm2))))))), List.forall_mem_cons.mpr ⟨(List.mem_cons_of_mem _ (List.mem_append_left _ (List.mem_append_left _ (List.mem_append_left _ (List.mem_append_left _ (List.mem_append_right _ (List.mem_append_right _ lm3))))))), List.forall_mem_cons.mpr ⟨(List.mem_cons_of_mem _ (List.mem_append_left _ (List.mem_append_left _ (List.mem_append_left _ (List.mem_append_left _ (List.mem_append_right _ (List.mem_append_right _ lm4))))))), List.forall_mem_cons.mpr ⟨(List.mem_cons_of_mem _ (List.mem_append_left _ (List.mem_append_left _ (List.mem_append_left _ (List.mem_append_left _ (List.mem_append_right _ (List.mem_append_right _ lm5))))))), List.forall_mem_cons.mpr ⟨(List.mem_cons_of_mem _ (List.mem_append_left _ (List.mem_append_left _ (List.mem_append_left _ (List.mem_append_left _ (List.mem_append_right _ (List.mem_append_right _ lm6))))))), (fun _ h => absurd h List.not_mem_nil)⟩⟩⟩⟩⟩⟩⟩⟩⟩⟩⟩⟩⟩⟩⟩⟩⟩⟩⟩⟩⟩⟩⟩⟩, (fun _ h => (List.mem_cons_of_mem _ (List.mem_append_left _ (List.mem_append_right _ h))))⟩, (fun _ h => (List.mem_cons_of_mem _ (List.mem_append_right _ h)))⟩⟩) gw_X2_fits)
theorem gX11_fittingCount_X2_fits : GoodIn wsX11_fittingCount (wsV RX11 272 RX2 yX2_fits wsX2_fits) := goodIn_app (goodIn_sub (List.forall_mem_cons.mpr ⟨(List.mem_cons_of_mem _ (List.mem_append_left _ (List.mem_append_left _ (List.mem_append_left _ (List.mem_append_left _ (List.mem_append_left _ lm4)))))), List.forall_mem_cons.mpr ⟨(List.mem_cons_of_mem _ (List.mem_append_left _ (List.mem_append_left _ (List.mem_append_left _ (List.mem_append_left _ (List.mem_append_left _ lm5)))))), List.forall_mem_cons.mpr ⟨(List.mem_cons_of_mem _ (List.mem_append_left _ (List.mem_append_left _ (List.mem_append_left _ (List.mem_append_left _ (List.mem_append_left _ lm6)))))), List.forall_mem_cons.mpr ⟨(List.mem_cons_of_mem _ (List.mem_append_left _ (List.mem_append_left _ (List.mem_append_left _ (List.mem_append_left _ (List.mem_append_left _ lm7)))))), (fun _ h => absurd h List.not_mem_nil)⟩⟩⟩⟩) (by decide +kernel)) (goodIn_sub (by unfold wsX2_fits; exact List.forall_mem_cons.mpr ⟨(List.mem_cons_of_mem _ (List.mem_append_left _ (List.mem_append_left _ (List.mem_append_left _ (List.mem_append_left _ (List.mem_append_left _ lm8)))))), List.forall_mem_append.mpr ⟨List.forall_mem_append.mpr ⟨List.forall_mem_append.mpr ⟨List.forall_mem_cons.mpr ⟨(List.mem_cons_of_mem _ (List.mem_append_left _ (List.mem_append_left _ (List.mem_append_left _ (List.mem_append_left _ (List.mem_append_left _ lm9)))))), List.forall_mem_cons.mpr ⟨(List.mem_cons_of_mem _ (List.mem_append_left _ (List.mem_append_left _ (List.mem_append_left _ (List.mem_append_left _ (List.mem_append_left _ lm10)))))), List.forall_mem_cons.mpr ⟨(List.mem_cons_of_mem _ (List.mem_append_left _ (List.mem_append_left _ (List.mem_append_left _ (List.mem_append_left _ (List.mem_append_left _ lm11)))))), List.forall_mem_cons.mpr ⟨(List.mem_cons_of_mem _ (List.mem_append_left _ (List.mem_append_left _ (List.mem_append_left _ (List.mem_append_left _ (List.mem_append_left _ lm12)))))), List.forall_mem_cons.mpr ⟨(List.mem_cons_of_mem _ (List.mem_append_left _ (List.mem_append_left _ (List.mem_append_left _ (List.mem_append_left _ (List.mem_append_left _ lm13)))))), List.forall_mem_cons.mpr ⟨(List.mem_cons_of_mem _ (List.mem_append_left _ (List.mem_append_left _ (List.mem_append_left _ (List.mem_append_left _ (List.mem_append_left _ lm14)))))), List.forall_mem_cons.mpr ⟨(List.mem_cons_of_mem _ (List.mem_append_left _ (List.mem_append_left _ (List.mem_append_left _ (List.mem_append_left _ (List.mem_append_left _ lm15)))))), List.forall_mem_cons.mpr ⟨(List.mem_cons_of_mem _ (List.mem_append_left _ (List.mem_append_left _ (List.mem_append_left _ (List.mem_append_left _ (List.mem_append_left _ lm7)))))), List.forall_mem_cons.mpr ⟨(List.mem_cons_of_mem _ (List.mem_append_left _ (List.mem_append_left _ (List.mem_append_left _ (List.mem_append_left _ (List.mem_append_left _ lm16)))))), List.forall_mem_cons.mpr ⟨(List.mem_cons_of_mem _ (List.mem_append_left _ (List.mem_append_left _ (List.mem_append_left _ (List.mem_append_left _ (List.mem_append_left _ lm17)))))), List.forall_mem_cons.mpr ⟨(List.mem_cons_of_mem _ (List.mem_append_left _ (List.mem_append_left _ (List.mem_append_left _ (List.mem_append_left _ (List.mem_append_left _ lm18)))))), List.forall_mem_cons.mpr ⟨(List.mem_cons_of_mem _ (List.mem_append_left _ (List.mem_append_left _ (List.mem_append_left _ (List.mem_append_left _ (List.mem_append_left _ lm19)))))), List.forall_mem_cons.mpr ⟨(List.mem_cons_of_mem _ (List.mem_append_left _ (List.mem_append_left _ (List.mem_append_left _ (List.mem_append_left _ (List.mem_append_left _ lm20)))))), List.forall_mem_cons.mpr ⟨(List.mem_cons_of_mem _ (List.mem_append_left _ (List.mem_append_left _ (List.mem_append_left _ (List.mem_append_left _ (List.mem_append_left _ lm21)))))), List.forall_mem_cons.mpr ⟨(List.mem_cons_of_mem _ (List.mem_append_left _ (List.mem_append_left _ (List.mem_append_left _ (List.mem_append_left _ (List.mem_append_left _ lm22)))))), List.forall_mem_cons.mpr ⟨(List.mem_cons_of_mem _ (List.mem_append_left _ (List.mem_append_left _ (List.mem_append_left _ (List.mem_append_left _ (List.mem_append_left _ lm23)))))), List.forall_mem_cons.mpr ⟨(List.mem_cons_of_mem _ (List.mem_append_left _ (List.mem_append_left _ (List.mem_append_left _ (List.mem_append_left _ (List.mem_append_right _ (List.mem_append_left _ lm0))))))), List.forall_mem_cons.mpr ⟨(List.mem_cons_of_mem _ (List.mem_append_left _ (List.mem_append_left _ (List.mem_append_left _ (List.mem_append_left _ (List.mem_append_right _ (List.mem_append_left _ lm1))))))), List.forall_mem_cons.mpr ⟨(List.mem_cons_of_mem _ (List.mem_append_left _ (List.mem_append_left _ (List.mem_append_left _ (List.mem_append_left _ (List.mem_append_right _ (List.mem_append_left _ lm2))))))), List.forall_mem_cons.mpr ⟨(List.mem_cons_of_mem _ (List.mem_append_left _ (List.mem_append_left _ (List.mem_append_left _ (List.mem_append_left _ (List.mem_append_right _ (List.mem_append_left _ lm3))))))), List.forall_mem_cons.mpr ⟨(List.mem_cons_of_mem _ (List.mem_append_left _ (List.mem_append_left _ (List.mem_append_left _ (List.mem_append_left _ (List.mem_append_right _ (List.mem_append_left _ lm4))))))), List.forall_mem_cons.mpr ⟨(List.mem_cons_of_mem _ (List.mem_append_left _ (List.mem_append_left _ (List.mem_append_left _ (List.mem_append_left _ (List.mem_append_right _ (List.mem_append_left _ lm5))))))), List.forall_mem_cons.mpr ⟨(List.mem_cons_of_mem _ (List.mem_append_left _ (List.mem_append_left _ (List.mem_append_left _ (List.mem_append_left _ (List.mem_append_right _ (List.mem_append_left _ lm6))))))), List.forall_mem_cons.mpr ⟨(List.mem_cons_of_mem _ (List.mem_append_left _ (List.mem_append_left _ (List.mem_append_left _ (List.mem_append_left _ (List.mem_append_right _ (List.mem_append_left _ lm7))))))), (fun _ h => absurd h List.not_mem_nil)⟩⟩⟩⟩⟩⟩⟩⟩⟩⟩⟩⟩⟩⟩⟩⟩⟩⟩⟩⟩⟩⟩⟩⟩, List.forall_mem_cons.mpr ⟨(List.mem_cons_of_mem _ (List.mem_append_left _ (List.mem_append_left _ (List.mem_append_left _ (List.mem_append_left _ (List.mem_append_right _ (List.mem_append_left _ lm8))))))), List.forall_mem_cons.mpr ⟨(List.mem_cons_of_mem _ (List.mem_append_left _ (List.mem_append_left _ (List.mem_append_left _ (List.mem_append_left _ (List.mem_append_right _ (List.mem_append_left _ lm9))))))), List.forall_mem_cons.mpr ⟨(List.mem_cons_of_mem _ (List.mem_append_left _ (List.mem_append_left _ (List.mem_append_left _ (List.mem_append_left _ (List.mem_append_right _ (List.mem_append_left _ lm10))))))), List.forall_mem_cons.mpr ⟨(List.mem_cons_of_mem _ (List.mem_append_left _ (List.mem_append_left _ (List.mem_append_left _ (List.mem_append_left _ (List.mem_append_right _ (List.mem_append_left _ lm11))))))), List.forall_mem_cons.mpr ⟨(List.mem_cons_of_mem _ (List.mem_append_left _ (List.mem_append_left _ (List.mem_append_left _ (List.mem_append_left _ (List.mem_append_right _ (List.mem_append_left _ lm12))))))), List.forall_mem_cons.mpr ⟨(List.mem_cons_of_mem _ (List.mem_append_left _ (List.mem_append_left _ (List.mem_append_left _ (List.mem_append_left _ (List.mem_append_right _ (List.mem_append_left _ lm13))))))), List.forall_mem_cons.mpr ⟨(List.mem_cons_of_mem _ (List.mem_append_left _ (List.mem_append_left _ (List.mem_append_left _ (List.mem_append_left _ (List.mem_append_right _ (List.mem_append_left _ lm14))))))), List.forall_mem_cons.mpr ⟨(List.mem_cons_of_mem _ (List.mem_append_left _ (List.mem_append_left _ (List.mem_append_left _ (List.mem_append_left _ (List.mem_append_right _ (List.mem_append_left _ lm15))))))), List.forall_mem_cons.mpr ⟨(List.mem_cons_of_mem _ (List.mem_append_left _ (List.mem_append_left _ (List.mem_append_left _ (List.mem_append_left _ (List.mem_append_right _ (List.mem_append_left _ lm16))))))), List.forall_mem_cons.mpr ⟨(List.mem_cons_of_mem _ (List.mem_append_left _ (List.mem_append_left _ (List.mem_append_left _ (List.mem_append_left _ (List.mem_append_right _ (List.mem_append_left _ lm17))))))), List.forall_mem_cons.mpr ⟨(List.mem_cons_of_mem _ (List.mem_append_left _ (List.mem_append_left _ (List.mem_append_left _ (List.mem_append_left _ (List.mem_append_right _ (List.mem_append_left _ lm18))))))), List.forall_mem_cons.mpr ⟨(List.mem_cons_of_mem _ (List.mem_append_left _ (List.mem_append_left _ (List.mem_append_left _ (List.mem_append_left _ (List.mem_append_right _ (List.mem_append_left _ lm19))))))), List.forall_mem_cons.mpr ⟨(List.mem_cons_of_mem _ (List.mem_append_left _ (List.mem_append_left _ (List.mem_append_left _ (List.mem_append_left _ (List.mem_append_right _ (List.mem_append_left _ lm20))))))), List.forall_mem_cons.mpr ⟨(List.mem_cons_of_mem _ (List.mem_append_left _ (List.mem_append_left _ (List.mem_append_left _ (List.mem_append_left _ (List.mem_append_right _ (List.mem_append_left _ lm21))))))), List.forall_mem_cons.mpr ⟨(List.mem_cons_of_mem _ (List.mem_append_left _ (List.mem_append_left _ (List.mem_append_left _ (List.mem_append_left _ (List.mem_append_right _ (List.mem_append_left _ lm22))))))), List.forall_mem_cons.mpr ⟨(List.mem_cons_of_mem _ (List.mem_append_left _ (List.mem_append_left _ (List.mem_append_left _ (List.mem_append_left _ (List.mem_append_right _ (List.mem_append_left _ lm23))))))), List.forall_mem_cons.mpr ⟨(List.mem_cons_of_mem _ (List.mem_append_left _ (List.mem_append_left _ (List.mem_append_left _ (List.mem_append_left _ (List.mem_append_right _ (List.mem_append_right _ lm0))))))), List.forall_mem_cons.mpr ⟨(List.mem_cons_of_mem _ (List.mem_append_left _ (List.mem_append_left _ (List.mem_append_left _ (List.mem_append_left _ (List.mem_append_right _ (List.mem_append_right _ lm1))))))), List.forall_mem_cons.mpr ⟨(List.mem_cons_of_mem _ (List.mem_append_left _ (List.mem_append_left _ (List.mem_append_left _ (List.mem_append_left _ (List.mem_append_right _ (List.mem_append_right _ lm2))))))), List.forall_mem_cons.mpr ⟨(List.mem_cons_of_mem _ (List.mem_append_left _ (List.mem_append_left _ (List.mem_append_left _ (List.mem_append_left _ (List.mem_append_right _ (List.mem_append_right _ lm3))))))), List.forall_mem_cons.mpr ⟨(List.mem_cons_of_mem _ (List.mem_append_left _ (List.mem_append_left _ (List.mem_append_left _ (List.mem_append_left _ (List.mem_append_right _ (List.mem_append_right _ lm4))))))), List.forall_mem_cons.mpr ⟨(List.mem_cons_of_mem _ (List.mem_append_left _ (List.mem_append_left _ (List.mem_append_left _ (List.mem_append_left _ (List.mem_append_right _ (List.mem_append_right _ lm5))))))), List.forall_mem_cons.mpr ⟨(List.mem_cons_of_mem _ (List.mem_append_left _ (List.mem_append_left _ (List.mem_append_left _ (List.mem_append_left _ (List.mem_append_right _ (List.mem_append_right _ lm6))))))), (fun _ h => absurd h List.not_mem_nil)⟩⟩⟩⟩⟩⟩⟩⟩⟩⟩⟩⟩⟩⟩⟩⟩⟩⟩⟩⟩⟩⟩⟩⟩, (fun _ h => (List.mem_cons_of_mem _ (List.mem_append_left _ (List.mem_append_right _ h))))⟩, (fun _ h => (List.mem_cons_of_mem _ (List.mem_append_right _ h)))⟩⟩) gw_X2_fits)
theorem gX11_nextHook_X9_holds : GoodIn wsX11_nextHook (wsV RX11 146 RX9 yX9_holds wsX9_holds) := goodIn_app (goodIn_sub (List.forall_mem_cons.mpr ⟨(List.mem_cons_of_mem _ (List.mem_append_left _ (List.mem_append_left _ lm3))), List.forall_mem_cons.mpr ⟨(List.mem_cons_of_mem _ (List.mem_append_left _ (List.mem_append_left _ lm4))), List.forall_mem_cons.mpr ⟨(List.mem_cons_of_mem _ (List.mem_append_left _ (List.mem_append_left _ lm5))), List.forall_mem_cons.mpr ⟨(List.mem_cons_of_mem _ (List.mem_append_left _ (List.mem_append_left _ lm6))), (fun _ h => absurd h List.not_mem_nil)⟩⟩⟩⟩) (by decide +kernel)) (goodIn_sub (by unfold wsX9_holds; exact List.forall_mem_cons.mpr ⟨(List.mem_cons_of_mem _ (List.mem_append_left _ (List.mem_append_left _ lm7))), List.forall_mem_append.mpr ⟨List.forall_mem_cons.mpr ⟨(List.mem_cons_of_mem _ (List.mem_append_left _ (List.mem_append_left _ lm8))), List.forall_mem_cons.mpr ⟨(List.mem_cons_of_mem _ (List.mem_append_left _ (List.mem_append_left _ lm9))), List.forall_mem_cons.mpr ⟨(List.mem_cons_of_mem _ (List.mem_append_left _ (List.mem_append_left _ lm10))), List.forall_mem_cons.mpr ⟨(List.mem_cons_of_mem _ (List.mem_append_left _ (List.mem_append_left _ lm11))), List.forall_mem_cons.mpr ⟨(List.mem_cons_of_mem _ (List.mem_append_left _ (List.mem_append_left _ lm12))), List.forall_mem_cons.mpr ⟨(List.mem_cons_of_mem _ (List.mem_append_left _ (List.mem_append_left _ lm13))), List.forall_mem_cons.mpr ⟨(List.mem_cons_of_mem _ (List.mem_append_left _ (List.mem_append_left _ lm6))), List.forall_mem_cons.mpr ⟨(List.mem_cons_of_mem _ (List.mem_append_left _ (List.mem_append_left _ lm14))), List.forall_mem_cons.mpr ⟨(List.mem_cons_of_mem _ (List.mem_append_left _ (List.mem_append_left _ lm15))), List.forall_mem_cons.mpr ⟨(List.mem_cons_of_mem _ (List.mem_append_left _ (List.mem_append_left _ lm16))), List.forall_mem_cons.mpr ⟨(List.mem_cons_of_mem _ (List.mem_append_left _ (List.mem_append_left _ lm17))), List.forall_mem_cons.mpr ⟨(List.mem_cons_of_mem _ (List.mem_append_left _ (List.mem_append_left _ lm18))), List.forall_mem_cons.mpr ⟨(List.mem_cons_of_mem _ (List.mem_append_left _ (List.mem_append_left _ lm19))), List.forall_mem_cons.mpr ⟨(List.mem_cons_of_mem _ (List.mem_append_left _ (List.mem_append_left _ lm20))), List.forall_mem_cons.mpr ⟨(List.mem_cons_of_mem _ (List.mem_append_left _ (List.mem_append_left _ lm21))), List.forall_mem_cons.mpr ⟨(List.mem_cons_of_mem _ (List.mem_append_left _ (List.mem_append_left _ lm22))), List.forall_mem_cons.mpr ⟨(List.mem_cons_of_mem _ (List.mem_append_left _ (List.mem_append_left _ lm23))), (fun _ h => absurd h List.not_mem_nil)⟩⟩⟩⟩⟩⟩⟩⟩⟩⟩⟩⟩⟩⟩⟩⟩⟩, (fun _ h => (List.mem_cons_of_mem _ (List.mem_append_right _ h)))⟩⟩) gw_X9_holds)
set_option maxHeartbeats 2000000 in
set_option maxRecDepth 100000 in
theorem k_bound (l : Launch) (D : va_G) (g : Nat → Nat) (ka : Nat → ClassId) (ad : Nat → Nat) (i : Nat → Nat → Int32) (r : Nat → Nat → Nat) (L : Nat → Nat → Int64) (d : Nat → Nat → UInt64)  (hO : OkI i) (hR : RS r) (sz : Nat)  : Met l yX11_boundDefinition wsX11_boundDefinition ({ frames := 4, cells := 0, slots := 0, locals := 98 }) (va_Pc [.ref (g 0)] (sj_B D (hwc g ka i r L d) (hT ka) sz (gx ad (va_A (hwc g ka i r L d) sz)))) (sj_Qi (S := (Nat → Nat → Int64)) D (fun v u => ((-2 : Int) ≤ v.toInt ∧ v.toInt ≤ 11) ∧ (v.toInt < (i 0 7).toInt ∧ (i 0 7).toInt ≤ 12)) (fun u => hwc g ka i r u d) (fun _ => []) (va_A (hwc g ka i r L d) sz)) 0 0 (va_A (hwc g ka i r L d) sz) := by
  refine x_met (Ex := gx ad) (cc := cX11_boundDefinition) (maxL := 3) (ret := (some .int)) (by decide) rfl (Nat.le_of_ble_eq_true rfl) ?_
  intro p e s m below meth c A ls hx hb hr hml hts hown hlocks hA hS hH hK hE hl
  have hown : s.vm.findClass RX11 = some m.cls := hown
  have in1 : ∀ w ∈ wsX10, w ∈ wsX11_boundDefinition := (fun _ h => (List.mem_cons_of_mem _ (List.mem_append_left _ (List.mem_append_left _ (List.mem_append_right _ h)))))
  have in11 : ∀ w ∈ wsX110, w ∈ wsX11_boundDefinition := (fun _ h => (List.mem_cons_of_mem _ (List.mem_append_left _ (List.mem_append_left _ (List.mem_append_left _ (List.mem_append_right _ h))))))
  have wd0 := hts (.fieldLink RX11 114 "StoryDesk" "definitionCount" "I") (List.mem_cons_of_mem _ (List.mem_append_left _ (List.mem_append_left _ (List.mem_append_left _ (List.mem_append_left _ (List.mem_append_left _ lm0))))))
  have wd1 := hts (.fieldLink RX11 50 "StoryDesk" "definitions" "[LStoryDesk$Expression;") (List.mem_cons_of_mem _ (List.mem_append_left _ (List.mem_append_left _ (List.mem_append_left _ (List.mem_append_left _ (List.mem_append_left _ lm1))))))
  have wd2 := hts (.fieldLink RX11 30 "StoryDesk" "cases" "LStoryDesk$Cases;") (List.mem_cons_of_mem _ (List.mem_append_left _ (List.mem_append_left _ (List.mem_append_left _ (List.mem_append_left _ (List.mem_append_left _ lm2))))))
  have wd3 := hts (.fieldLink RX11 189 "StoryDesk$Cases" "stepText" "LStoryDesk$Letters;") (List.mem_cons_of_mem _ (List.mem_append_left _ (List.mem_append_left _ (List.mem_append_left _ (List.mem_append_left _ (List.mem_append_left _ lm3))))))
  have hl : lv_has ls 3 [(0, .ref (g 0))] := hl
  have hK : va_K D vwCl (hT ka) s := hK
  have hbd : (0 : Int) ≤ (i 0 7).toInt ∧ (i 0 7).toInt ≤ 12 := hO 0 7
  refine lv_iconst (v := (-1)) hx hb dX11_boundDefinition_0 (by decide) ?_
  refine lv_istore_n (lv' := [(1, .int (-1)), (0, .ref (g 0))]) hx hb dX11_boundDefinition_1 rfl hl (by decide) rfl (fun ls hl => ?_)
  refine lv_iconst (v := 0) hx hb dX11_boundDefinition_2 (by decide) ?_
  refine lv_istore_n (lv' := [(2, .int 0), (1, .int (-1)), (0, .ref (g 0))]) hx hb dX11_boundDefinition_3 rfl hl (by decide) rfl (fun ls hl => ?_)
  -- loop at 4
  have lp_1 : ∀ (fuel_lp_1 : Nat) (t : Int32) (f : Int32) (Lv_2 : Nat → Nat → Int64) (H : Heap) (locs : List Loc) (ls : Array Slot), (12 - f.toInt).toNat < fuel_lp_1 → (-1 : Int) ≤ t.toInt ∧ t.toInt ≤ 11 → (0 : Int) ≤ f.toInt ∧ f.toInt ≤ 12 → t.toInt < f.toInt ∧ f.toInt ≤ (i 0 7).toInt → lv_has ls 3 [(2, .int f), (1, .int t), (0, .ref (g 0))] → sj_H D A (hwc g ka i r Lv_2 d) H → va_S A s.heap H locs → W p l e (headSpec wsX11_boundDefinition ({ frames := 4, cells := 0, slots := 0, locals := 98 })).room s m ([.ref (g 0)] : List Value).toArray below meth c H locs 0 0 (MQ below (sj_Qi (S := (Nat → Nat → Int64)) D (fun v u => ((-2 : Int) ≤ v.toInt ∧ v.toInt ≤ 11) ∧ (v.toInt < (i 0 7).toInt ∧ (i 0 7).toInt ≤ 12)) (fun u => hwc g ka i r u d) (fun _ => []) A) ([.ref (g 0)] : List Value).toArray s 0 0 A) (F0 m 4 ls []) := by
    intro fuel_lp_1
    induction fuel_lp_1 with
    | zero => intros; omega
    | succ fuel_lp_1 ih_lp_1 =>
      intro t f Lv_2 H locs ls hm hr_t hr_f hi_lp_1_0 hl hH hS
      refine lv_iload_n hx hb dX11_boundDefinition_4 rfl (lv_at hl 0 rfl) ?_
      refine lv_aload_n hx hb dX11_boundDefinition_5 rfl (lv_at hl 2 rfl) ?_
      have bx_3 : (0 : Int) ≤ (i 0 7).toInt ∧ (i 0 7).toInt ≤ 12 := hO 0 7
      refine h_geti (ci := 11) (C := RX11) (F := TX11) (N := 14) hx hb hts in11 hown hK hH (by decide) (rfl : kd 0 = 11) (by decide) rfl 7 (by decide) wd0 (fun _ h9 => h9) (by decide) rfl dX11_boundDefinition_6 ?_
      refine lv_icmp_ge (tgt := 46) hx hb dX11_boundDefinition_9 (by decide) (fun c_4 => ?_) (fun c_4 => ?_)
      · skip
        have h_5 := s_le (rfl : (i 0 7).toInt = _) (rfl : f.toInt = _) c_4
        refine lv_iload_n hx hb dX11_boundDefinition_46 rfl (lv_at hl 1 rfl) ?_
        exact sj_zret hx hb hr hlocks rfl hS Lv_2 ⟨⟨by omega, by omega⟩, (by first | omega | (refine ⟨?_, ?_⟩ <;> first | assumption | omega))⟩ hH (sj_Knil hK) (Nat.le_of_ble_eq_true rfl) (Nat.le_of_ble_eq_true rfl) dX11_boundDefinition_47
      · skip
        have h_6 := s_nle (rfl : (i 0 7).toInt = _) (rfl : f.toInt = _) c_4
        refine lv_aload_n hx hb dX11_boundDefinition_12 rfl (lv_at hl 2 rfl) ?_
        refine h_getr (ci := 11) (C := RX11) (F := TX11) (N := 14) hx hb hts in11 hown hK hH (by decide) (rfl : kd 0 = 11) (by decide) rfl 5 (by decide) wd1 (fun _ h9 => h9) (by decide) rfl (t := 30) (hR 0 5 rfl) (by decide) dX11_boundDefinition_13 ?_
        refine lv_iload_n hx hb dX11_boundDefinition_16 rfl (lv_at hl 0 rfl) ?_
        obtain ⟨j_7, ej_7, hj_7⟩ : ∃ j : Nat, (f).toNatClampNeg = j ∧ (j : Int) = f.toInt := ⟨_, rfl, by rw [s_cl (rfl : f.toInt = _)]; omega⟩
        have lj_7 : j_7 < 13 := by omega
        refine h_qald hx hb hK hH (by decide) (rfl : kd 30 = 20) (by decide) rfl (s_vin (N := 13) (rfl : f.toInt = _) (rfl : ln 30 = 13) (by omega) (by omega)) (t := (240 + 9 * j_7)) (by rw [ej_7]; exact (hR 30 j_7 rfl)) (lt_nK (by omega)) dX11_boundDefinition_17 ?_
        refine lv_aload_n hx hb dX11_boundDefinition_18 rfl (lv_at hl 2 rfl) ?_
        refine h_getr (ci := 11) (C := RX11) (F := TX11) (N := 14) hx hb hts in11 hown hK hH (by decide) (rfl : kd 0 = 11) (by decide) rfl 2 (by decide) wd2 (fun _ h9 => h9) (by decide) rfl (t := 13) (hR 0 2 rfl) (by decide) dX11_boundDefinition_19 ?_
        refine h_getr (ci := 1) (C := RX1) (F := TX1) (N := 5) hx hb hts in1 hown hK hH (by decide) (rfl : kd 13 = 1) (by decide) rfl 1 (by decide) wd3 (fun _ h9 => h9) (by decide) rfl (t := 14) (hR 13 1 rfl) (by decide) dX11_boundDefinition_22 ?_
        refine x_calli (va_runV (As := [.ref (g 14)]) (rest := []) ⟨hx, hb, hml, hown, hts⟩ (k_fits l D g ka ad i r Lv_2 d j_7 hO hR H.size (by first | omega | decide)) (cwV 1 hts gX11_boundDefinition_X2_fits rfl rfl rfl (by decide +kernel) ⟨(Nat.le_of_ble_eq_true rfl), (Nat.le_of_ble_eq_true rfl)⟩) (x_preV (q := (RX2, TX2, 11)) hH hK (q_obj (lt_nK (by omega)) (kd_expr (t := 0) lj_7 (by decide)) (by decide)) rfl gxb (gxw hE hS (x_F hH hS hA))) rfl rfl hl.1 rfl (lv_room (Nat.le_of_ble_eq_true rfl)) dX11_boundDefinition_25 ⟨(Nat.le_of_ble_eq_true rfl), (Nat.le_of_ble_eq_true rfl)⟩) hH hS hA rfl rfl (fun r_8 Lm_10 H locs hw_9 hH hS => ?_)
        have hH : sj_H D A (hwc g ka i r Lm_10 d) H := hH
        have hr_11 := hw_9
        have hr_11 : (0 : Int) ≤ r_8.toInt ∧ r_8.toInt ≤ 1 := hr_11
        refine lv_if_eq (tgt := 40) hx hb dX11_boundDefinition_28 (by decide) (fun c_12 => ?_) (fun c_12 => ?_)
        · skip
          have h_13 := s_eq (rfl : r_8.toInt = _) (show (0 : Int32).toInt = 0 from rfl) c_12
          obtain ⟨z_14, ez_14, hz_14⟩ := s_add (rfl : f.toInt = _) (show (1 : Int32).toInt = 1 from rfl) (by omega) (by omega)
          refine lv_iinc (v := z_14) (lv' := [(2, .int z_14), (1, .int t), (0, .ref (g 0))]) hx hb dX11_boundDefinition_40 hl (k := 0) rfl ez_14 (by decide) rfl (fun ls hl => ?_)
          refine lv_goto (tgt := 4) hx hb dX11_boundDefinition_43 (by decide) ?_
          exact ih_lp_1 t z_14 _ _ _ ls (by omega) (by omega) (by omega) (by omega) (lv_sub hl [0, 1, 2] rfl) hH hS
        · skip
          have h_15 := s_ne (rfl : r_8.toInt = _) (show (0 : Int32).toInt = 0 from rfl) c_12
          refine lv_iload_n hx hb dX11_boundDefinition_31 rfl (lv_at hl 1 rfl) ?_
          refine lv_if_lt (tgt := 38) hx hb dX11_boundDefinition_32 (by decide) (fun c_16 => ?_) (fun c_16 => ?_)
          · skip
            have h_17 := s_lt (rfl : t.toInt = _) (show (0 : Int32).toInt = 0 from rfl) c_16
            refine lv_iload_n hx hb dX11_boundDefinition_38 rfl (lv_at hl 0 rfl) ?_
            refine lv_istore_n (lv' := [(1, .int f), (2, .int f), (0, .ref (g 0))]) hx hb dX11_boundDefinition_39 rfl hl (by decide) rfl (fun ls hl => ?_)
            obtain ⟨z_18, ez_18, hz_18⟩ := s_add (rfl : f.toInt = _) (show (1 : Int32).toInt = 1 from rfl) (by omega) (by omega)
            refine lv_iinc (v := z_18) (lv' := [(2, .int z_18), (1, .int f), (0, .ref (g 0))]) hx hb dX11_boundDefinition_40 hl (k := 1) rfl ez_18 (by decide) rfl (fun ls hl => ?_)
            refine lv_goto (tgt := 4) hx hb dX11_boundDefinition_43 (by decide) ?_
            exact ih_lp_1 f z_18 _ _ _ ls (by omega) (by omega) (by omega) (by omega) (lv_sub hl [0, 1, 2] rfl) hH hS
          · skip
            have h_19 := s_nlt (rfl : t.toInt = _) (show (0 : Int32).toInt = 0 from rfl) c_16
            refine lv_bipush (v := (-2)) hx hb dX11_boundDefinition_35 (by decide) ?_
            have hlv_20 : ((-2) : Int32).toInt = -2 := rfl
            exact sj_zret hx hb hr hlocks rfl hS Lm_10 ⟨⟨by decide, by decide⟩, (by first | omega | (refine ⟨?_, ?_⟩ <;> first | assumption | omega))⟩ hH (sj_Knil hK) (Nat.le_of_ble_eq_true rfl) (Nat.le_of_ble_eq_true rfl) dX11_boundDefinition_37
  have hl_21 : ((-1) : Int32).toInt = -1 := rfl
  have hl_22 : (0 : Int32).toInt = 0 := rfl
  exact lp_1 _ (-1) 0 _ _ _ ls (Nat.lt_succ_self _) (by omega) (by omega) (by omega) (lv_sub hl [0, 1, 2] rfl) hH hS
set_option maxHeartbeats 2000000 in
set_option maxRecDepth 100000 in
theorem k_fitting (l : Launch) (D : va_G) (g : Nat → Nat) (ka : Nat → ClassId) (ad : Nat → Nat) (i : Nat → Nat → Int32) (r : Nat → Nat → Nat) (L : Nat → Nat → Int64) (d : Nat → Nat → UInt64)  (hO : OkI i) (hR : RS r) (sz : Nat)  : Met l yX11_fittingCount wsX11_fittingCount ({ frames := 4, cells := 0, slots := 0, locals := 98 }) (va_Pc [.ref (g 0)] (sj_B D (hwc g ka i r L d) (hT ka) sz (gx ad (va_A (hwc g ka i r L d) sz)))) (sj_Qi (S := (Nat → Nat → Int64)) D (fun v u => ((0 : Int) ≤ v.toInt ∧ v.toInt ≤ 12)) (fun u => hwc g ka i r u d) (fun _ => []) (va_A (hwc g ka i r L d) sz)) 0 0 (va_A (hwc g ka i r L d) sz) := by
  refine x_met (Ex := gx ad) (cc := cX11_fittingCount) (maxL := 3) (ret := (some .int)) (by decide) rfl (Nat.le_of_ble_eq_true rfl) ?_
  intro p e s m below meth c A ls hx hb hr hml hts hown hlocks hA hS hH hK hE hl
  have hown : s.vm.findClass RX11 = some m.cls := hown
  have in1 : ∀ w ∈ wsX10, w ∈ wsX11_fittingCount := (fun _ h => (List.mem_cons_of_mem _ (List.mem_append_left _ (List.mem_append_left _ (List.mem_append_right _ h)))))
  have in11 : ∀ w ∈ wsX110, w ∈ wsX11_fittingCount := (fun _ h => (List.mem_cons_of_mem _ (List.mem_append_left _ (List.mem_append_left _ (List.mem_append_left _ (List.mem_append_right _ h))))))
  have wd0 := hts (.fieldLink RX11 114 "StoryDesk" "definitionCount" "I") (List.mem_cons_of_mem _ (List.mem_append_left _ (List.mem_append_left _ (List.mem_append_left _ (List.mem_append_left _ (List.mem_append_left _ lm0))))))
  have wd1 := hts (.fieldLink RX11 50 "StoryDesk" "definitions" "[LStoryDesk$Expression;") (List.mem_cons_of_mem _ (List.mem_append_left _ (List.mem_append_left _ (List.mem_append_left _ (List.mem_append_left _ (List.mem_append_left _ lm1))))))
  have wd2 := hts (.fieldLink RX11 30 "StoryDesk" "cases" "LStoryDesk$Cases;") (List.mem_cons_of_mem _ (List.mem_append_left _ (List.mem_append_left _ (List.mem_append_left _ (List.mem_append_left _ (List.mem_append_left _ lm2))))))
  have wd3 := hts (.fieldLink RX11 189 "StoryDesk$Cases" "stepText" "LStoryDesk$Letters;") (List.mem_cons_of_mem _ (List.mem_append_left _ (List.mem_append_left _ (List.mem_append_left _ (List.mem_append_left _ (List.mem_append_left _ lm3))))))
  have hl : lv_has ls 3 [(0, .ref (g 0))] := hl
  have hK : va_K D vwCl (hT ka) s := hK
  refine lv_iconst (v := 0) hx hb dX11_fittingCount_0 (by decide) ?_
  refine lv_istore_n (lv' := [(1, .int 0), (0, .ref (g 0))]) hx hb dX11_fittingCount_1 rfl hl (by decide) rfl (fun ls hl => ?_)
  refine lv_iconst (v := 0) hx hb dX11_fittingCount_2 (by decide) ?_
  refine lv_istore_n (lv' := [(2, .int 0), (1, .int 0), (0, .ref (g 0))]) hx hb dX11_fittingCount_3 rfl hl (by decide) rfl (fun ls hl => ?_)
  -- loop at 4
  have lp_1 : ∀ (fuel_lp_1 : Nat) (t : Int32) (f : Int32) (Lv_2 : Nat → Nat → Int64) (H : Heap) (locs : List Loc) (ls : Array Slot), (12 - f.toInt).toNat < fuel_lp_1 → (0 : Int) ≤ t.toInt ∧ t.toInt ≤ 12 → (0 : Int) ≤ f.toInt ∧ f.toInt ≤ 12 → t.toInt ≤ f.toInt → lv_has ls 3 [(2, .int f), (1, .int t), (0, .ref (g 0))] → sj_H D A (hwc g ka i r Lv_2 d) H → va_S A s.heap H locs → W p l e (headSpec wsX11_fittingCount ({ frames := 4, cells := 0, slots := 0, locals := 98 })).room s m ([.ref (g 0)] : List Value).toArray below meth c H locs 0 0 (MQ below (sj_Qi (S := (Nat → Nat → Int64)) D (fun v u => ((0 : Int) ≤ v.toInt ∧ v.toInt ≤ 12)) (fun u => hwc g ka i r u d) (fun _ => []) A) ([.ref (g 0)] : List Value).toArray s 0 0 A) (F0 m 4 ls []) := by
    intro fuel_lp_1
    induction fuel_lp_1 with
    | zero => intros; omega
    | succ fuel_lp_1 ih_lp_1 =>
      intro t f Lv_2 H locs ls hm hr_t hr_f hi_lp_1_0 hl hH hS
      refine lv_iload_n hx hb dX11_fittingCount_4 rfl (lv_at hl 0 rfl) ?_
      refine lv_aload_n hx hb dX11_fittingCount_5 rfl (lv_at hl 2 rfl) ?_
      have bx_3 : (0 : Int) ≤ (i 0 7).toInt ∧ (i 0 7).toInt ≤ 12 := hO 0 7
      refine h_geti (ci := 11) (C := RX11) (F := TX11) (N := 14) hx hb hts in11 hown hK hH (by decide) (rfl : kd 0 = 11) (by decide) rfl 7 (by decide) wd0 (fun _ h9 => h9) (by decide) rfl dX11_fittingCount_6 ?_
      refine lv_icmp_ge (tgt := 40) hx hb dX11_fittingCount_9 (by decide) (fun c_4 => ?_) (fun c_4 => ?_)
      · skip
        have h_5 := s_le (rfl : (i 0 7).toInt = _) (rfl : f.toInt = _) c_4
        refine lv_iload_n hx hb dX11_fittingCount_40 rfl (lv_at hl 1 rfl) ?_
        exact sj_zret hx hb hr hlocks rfl hS Lv_2 ⟨by omega, by omega⟩ hH (sj_Knil hK) (Nat.le_of_ble_eq_true rfl) (Nat.le_of_ble_eq_true rfl) dX11_fittingCount_41
      · skip
        have h_6 := s_nle (rfl : (i 0 7).toInt = _) (rfl : f.toInt = _) c_4
        refine lv_aload_n hx hb dX11_fittingCount_12 rfl (lv_at hl 2 rfl) ?_
        refine h_getr (ci := 11) (C := RX11) (F := TX11) (N := 14) hx hb hts in11 hown hK hH (by decide) (rfl : kd 0 = 11) (by decide) rfl 5 (by decide) wd1 (fun _ h9 => h9) (by decide) rfl (t := 30) (hR 0 5 rfl) (by decide) dX11_fittingCount_13 ?_
        refine lv_iload_n hx hb dX11_fittingCount_16 rfl (lv_at hl 0 rfl) ?_
        obtain ⟨j_7, ej_7, hj_7⟩ : ∃ j : Nat, (f).toNatClampNeg = j ∧ (j : Int) = f.toInt := ⟨_, rfl, by rw [s_cl (rfl : f.toInt = _)]; omega⟩
        have lj_7 : j_7 < 13 := by omega
        refine h_qald hx hb hK hH (by decide) (rfl : kd 30 = 20) (by decide) rfl (s_vin (N := 13) (rfl : f.toInt = _) (rfl : ln 30 = 13) (by omega) (by omega)) (t := (240 + 9 * j_7)) (by rw [ej_7]; exact (hR 30 j_7 rfl)) (lt_nK (by omega)) dX11_fittingCount_17 ?_
        refine lv_aload_n hx hb dX11_fittingCount_18 rfl (lv_at hl 2 rfl) ?_
        refine h_getr (ci := 11) (C := RX11) (F := TX11) (N := 14) hx hb hts in11 hown hK hH (by decide) (rfl : kd 0 = 11) (by decide) rfl 2 (by decide) wd2 (fun _ h9 => h9) (by decide) rfl (t := 13) (hR 0 2 rfl) (by decide) dX11_fittingCount_19 ?_
        refine h_getr (ci := 1) (C := RX1) (F := TX1) (N := 5) hx hb hts in1 hown hK hH (by decide) (rfl : kd 13 = 1) (by decide) rfl 1 (by decide) wd3 (fun _ h9 => h9) (by decide) rfl (t := 14) (hR 13 1 rfl) (by decide) dX11_fittingCount_22 ?_
        refine x_calli (va_runV (As := [.ref (g 14)]) (rest := []) ⟨hx, hb, hml, hown, hts⟩ (k_fits l D g ka ad i r Lv_2 d j_7 hO hR H.size (by first | omega | decide)) (cwV 1 hts gX11_fittingCount_X2_fits rfl rfl rfl (by decide +kernel) ⟨(Nat.le_of_ble_eq_true rfl), (Nat.le_of_ble_eq_true rfl)⟩) (x_preV (q := (RX2, TX2, 11)) hH hK (q_obj (lt_nK (by omega)) (kd_expr (t := 0) lj_7 (by decide)) (by decide)) rfl gxb (gxw hE hS (x_F hH hS hA))) rfl rfl hl.1 rfl (lv_room (Nat.le_of_ble_eq_true rfl)) dX11_fittingCount_25 ⟨(Nat.le_of_ble_eq_true rfl), (Nat.le_of_ble_eq_true rfl)⟩) hH hS hA rfl rfl (fun r_8 Lm_10 H locs hw_9 hH hS => ?_)
        have hH : sj_H D A (hwc g ka i r Lm_10 d) H := hH
        have hr_11 := hw_9
        have hr_11 : (0 : Int) ≤ r_8.toInt ∧ r_8.toInt ≤ 1 := hr_11
        refine lv_if_eq (tgt := 34) hx hb dX11_fittingCount_28 (by decide) (fun c_12 => ?_) (fun c_12 => ?_)
        · skip
          have h_13 := s_eq (rfl : r_8.toInt = _) (show (0 : Int32).toInt = 0 from rfl) c_12
          obtain ⟨z_14, ez_14, hz_14⟩ := s_add (rfl : f.toInt = _) (show (1 : Int32).toInt = 1 from rfl) (by omega) (by omega)
          refine lv_iinc (v := z_14) (lv' := [(2, .int z_14), (1, .int t), (0, .ref (g 0))]) hx hb dX11_fittingCount_34 hl (k := 0) rfl ez_14 (by decide) rfl (fun ls hl => ?_)
          refine lv_goto (tgt := 4) hx hb dX11_fittingCount_37 (by decide) ?_
          exact ih_lp_1 t z_14 _ _ _ ls (by omega) (by omega) (by omega) (by omega) (lv_sub hl [0, 1, 2] rfl) hH hS
        · skip
          have h_15 := s_ne (rfl : r_8.toInt = _) (show (0 : Int32).toInt = 0 from rfl) c_12
          obtain ⟨z_16, ez_16, hz_16⟩ := s_add (rfl : t.toInt = _) (show (1 : Int32).toInt = 1 from rfl) (by omega) (by omega)
          refine lv_iinc (v := z_16) (lv' := [(1, .int z_16), (2, .int f), (0, .ref (g 0))]) hx hb dX11_fittingCount_31 hl (k := 1) rfl ez_16 (by decide) rfl (fun ls hl => ?_)
          obtain ⟨z_17, ez_17, hz_17⟩ := s_add (rfl : f.toInt = _) (show (1 : Int32).toInt = 1 from rfl) (by omega) (by omega)
          refine lv_iinc (v := z_17) (lv' := [(2, .int z_17), (1, .int z_16), (0, .ref (g 0))]) hx hb dX11_fittingCount_34 hl (k := 1) rfl ez_17 (by decide) rfl (fun ls hl => ?_)
          refine lv_goto (tgt := 4) hx hb dX11_fittingCount_37 (by decide) ?_
          exact ih_lp_1 z_16 z_17 _ _ _ ls (by omega) (by omega) (by omega) (by omega) (lv_sub hl [0, 1, 2] rfl) hH hS
  have hl_18 : (0 : Int32).toInt = 0 := rfl
  have hl_19 : (0 : Int32).toInt = 0 := rfl
  exact lp_1 _ 0 0 _ _ _ ls (Nat.lt_succ_self _) (by omega) (by omega) (by omega) (lv_sub hl [0, 1, 2] rfl) hH hS
set_option maxHeartbeats 2000000 in
set_option maxRecDepth 100000 in
theorem k_next1 (l : Launch) (D : va_G) (g : Nat → Nat) (ka : Nat → ClassId) (ad : Nat → Nat) (i : Nat → Nat → Int32) (r : Nat → Nat → Nat) (L : Nat → Nat → Int64) (d : Nat → Nat → UInt64) (y : Int32) (z : Int32) (hO : OkI i) (hR : RS r) (sz : Nat) (hPK : PK i) (hf0 : 0 ≤ y.toInt) (hf1 : y.toInt ≤ (i 0 11).toInt) : Met l yX11_nextHook wsX11_nextHook ({ frames := 124, cells := 0, slots := 0, locals := 4925 }) (va_Pc [.ref (g 0), .int 1, .int y, .int z] (sj_B D (hwc g ka i r L d) (hT ka) sz (gx ad (va_A (hwc g ka i r L d) sz)))) (sj_Qi (S := (Nat → Nat → Int32)) D (fun v u => OkI u ∧ (∀ a, ¬ ((357 ≤ a ∧ a < 379)) → u a = i a) ∧ ((-1 : Int) ≤ v.toInt ∧ v.toInt ≤ 7) ∧ ((v.toInt = -1 ∧ cnl (hdue i 1 z) (i 0 11).toInt.toNat = cnl (hdue i 1 z) y.toInt.toNat) ∨ (y.toInt ≤ v.toInt ∧ v.toInt < (i 0 11).toInt ∧ cnl (hdue i 1 z) (v.toInt.toNat + 1) = cnl (hdue i 1 z) y.toInt.toNat + 1)) ∧ (tgE i u)) (fun u => hwc g ka u r L d) (fun _ => []) (va_A (hwc g ka i r L d) sz)) 0 0 (va_A (hwc g ka i r L d) sz) := by
  refine x_met (Ex := gx ad) (cc := cX11_nextHook) (maxL := 6) (ret := (some .int)) (by decide) rfl (Nat.le_of_ble_eq_true rfl) ?_
  intro p e s m below meth c A ls hx hb hr hml hts hown hlocks hA hS hH hK hE hl
  have hown : s.vm.findClass RX11 = some m.cls := hown
  have in11 : ∀ w ∈ wsX110, w ∈ wsX11_nextHook := (fun _ h => (List.mem_cons_of_mem _ (List.mem_append_left _ (List.mem_append_right _ h))))
  have wd0 := hts (.fieldLink RX11 130 "StoryDesk" "hookCount" "I") (List.mem_cons_of_mem _ (List.mem_append_left _ (List.mem_append_left _ lm0)))
  have wd1 := hts (.fieldLink RX11 66 "StoryDesk" "hookBefore" "[Z") (List.mem_cons_of_mem _ (List.mem_append_left _ (List.mem_append_left _ lm1)))
  have wd2 := hts (.fieldLink RX11 61 "StoryDesk" "hookTags" "[LStoryDesk$TagExpression;") (List.mem_cons_of_mem _ (List.mem_append_left _ (List.mem_append_left _ lm2)))
  have hl : lv_has ls 6 [(0, .ref (g 0)), (1, .int 1), (2, .int y), (3, .int z)] := hl
  have hK : va_K D vwCl (hT ka) s := hK
  have hg_1 := s_rng z
  have hb11 : (0 : Int) ≤ (i 0 11).toInt ∧ (i 0 11).toInt ≤ 8 := hO 0 11
  refine lv_iload_n hx hb dX11_nextHook_0 rfl (lv_at hl 1 rfl) ?_
  refine lv_if_eq (tgt := 8) hx hb dX11_nextHook_1 (by decide) (fun h => absurd h (by decide)) (fun _ => ?_)
  refine lv_iconst (v := 1) hx hb dX11_nextHook_4 (by decide) ?_
  refine lv_goto (tgt := 9) hx hb dX11_nextHook_5 (by decide) ?_
  refine lv_istore (lv' := [(4, .int 1), (0, .ref (g 0)), (1, .int 1), (2, .int y), (3, .int z)]) hx hb dX11_nextHook_9 hl (by decide) rfl (fun ls hl => ?_)
  refine lv_iload_n hx hb dX11_nextHook_11 rfl (lv_at hl 3 rfl) ?_
  refine lv_istore (lv' := [(5, .int y), (4, .int 1), (0, .ref (g 0)), (1, .int 1), (2, .int y), (3, .int z)]) hx hb dX11_nextHook_12 hl (by decide) rfl (fun ls hl => ?_)
  -- loop at 14
  have lp_2 : ∀ (fuel_lp_2 : Nat) (f : Int32) (j1 : Nat → Nat → Int32) (H : Heap) (locs : List Loc) (ls : Array Slot), (8 - f.toInt).toNat < fuel_lp_2 → (0 : Int) ≤ f.toInt ∧ f.toInt ≤ 8 → (0 ≤ f.toInt ∧ f.toInt ≤ (i 0 11).toInt ∧ y.toInt ≤ f.toInt) ∧ cnl (hdue i 1 z) f.toInt.toNat = cnl (hdue i 1 z) y.toInt.toNat → tgE i j1 → OkI j1 → (∀ a, ¬ ((357 ≤ a ∧ a < 379)) → j1 a = i a) → lv_has ls 6 [(5, .int f), (4, .int 1), (0, .ref (g 0)), (1, .int 1), (2, .int y), (3, .int z)] → sj_H D A (hwc g ka j1 r L d) H → va_S A s.heap H locs → W p l e (headSpec wsX11_nextHook ({ frames := 124, cells := 0, slots := 0, locals := 4925 })).room s m ([.ref (g 0), .int 1, .int y, .int z] : List Value).toArray below meth c H locs 0 0 (MQ below (sj_Qi (S := (Nat → Nat → Int32)) D (fun v u => OkI u ∧ (∀ a, ¬ ((357 ≤ a ∧ a < 379)) → u a = i a) ∧ ((-1 : Int) ≤ v.toInt ∧ v.toInt ≤ 7) ∧ ((v.toInt = -1 ∧ cnl (hdue i 1 z) (i 0 11).toInt.toNat = cnl (hdue i 1 z) y.toInt.toNat) ∨ (y.toInt ≤ v.toInt ∧ v.toInt < (i 0 11).toInt ∧ cnl (hdue i 1 z) (v.toInt.toNat + 1) = cnl (hdue i 1 z) y.toInt.toNat + 1)) ∧ (tgE i u)) (fun u => hwc g ka u r L d) (fun _ => []) A) ([.ref (g 0), .int 1, .int y, .int z] : List Value).toArray s 0 0 A) (F0 m 14 ls []) := by
    intro fuel_lp_2
    induction fuel_lp_2 with
    | zero => intros; omega
    | succ fuel_lp_2 ih_lp_2 =>
      intro f j1 H locs ls hm hr_f hi_lp_2_0 hi_lp_2_1 hO_j1 hfr_j1 hl hH hS
      have hE9 := hi_lp_2_1
      refine lv_iload hx hb dX11_nextHook_14 (lv_at hl 0 rfl) ?_
      refine lv_if_lt (tgt := 66) hx hb dX11_nextHook_16 (by decide) (fun h => absurd h (p_nlt (rfl : f.toInt = _) (show (0 : Int32).toInt = 0 from rfl) (by omega))) (fun _ => ?_)
      refine lv_iload hx hb dX11_nextHook_19 (lv_at hl 0 rfl) ?_
      refine lv_aload_n hx hb dX11_nextHook_21 rfl (lv_at hl 2 rfl) ?_
      have bx_3 : (0 : Int) ≤ (i 0 11).toInt ∧ (i 0 11).toInt ≤ 8 := hO 0 11
      refine h_geti (ci := 11) (C := RX11) (F := TX11) (N := 14) hx hb hts in11 hown hK hH (by decide) (rfl : kd 0 = 11) (by decide) rfl 11 (by decide) wd0 (fun _ h9 => h9) (by decide) rfl dX11_nextHook_22 ?_
      refine sj_i (y := (i 0 11)) (congrFun (hfr_j1 0 (by omega)) _) ?_
      refine lv_icmp_ge (tgt := 66) hx hb dX11_nextHook_25 (by decide) (fun c_4 => ?_) (fun c_4 => ?_)
      · skip
        have h_5 := s_le (rfl : (i 0 11).toInt = _) (rfl : f.toInt = _) c_4
        refine lv_iconst (v := (-1)) hx hb dX11_nextHook_66 (by decide) ?_
        have hlv_6 : ((-1) : Int32).toInt = -1 := rfl
        exact sj_zret hx hb hr hlocks rfl hS j1 ⟨hO_j1, (fun a ha => (hfr_j1 a (by omega))), ⟨by decide, by decide⟩, (Or.inl ⟨by omega, by rw [show (i 0 11).toInt.toNat = f.toInt.toNat by omega]; exact hi_lp_2_0.2⟩), hE9⟩ hH (sj_Knil hK) (Nat.le_of_ble_eq_true rfl) (Nat.le_of_ble_eq_true rfl) dX11_nextHook_67
      · skip
        have h_7 := s_nle (rfl : (i 0 11).toInt = _) (rfl : f.toInt = _) c_4
        refine lv_aload_n hx hb dX11_nextHook_28 rfl (lv_at hl 2 rfl) ?_
        refine h_getr (ci := 11) (C := RX11) (F := TX11) (N := 14) hx hb hts in11 hown hK hH (by decide) (rfl : kd 0 = 11) (by decide) rfl 9 (by decide) wd1 (fun _ h9 => h9) (by decide) rfl (t := 33) (hR 0 9 rfl) (by decide) dX11_nextHook_29 ?_
        refine lv_iload hx hb dX11_nextHook_32 (lv_at hl 0 rfl) ?_
        have bx_8 : (0 : Int) ≤ (i 33 (f.toInt).toNat).toInt ∧ (i 33 (f.toInt).toNat).toInt ≤ 1 := hO 33 (f.toInt).toNat
        refine h_zald hx hb hK hH (by decide) (rfl : kd 33 = 15) (s_vin (N := 8) (rfl : f.toInt = _) (rfl : ln 33 = 8) (by omega) (by omega)) dX11_nextHook_34 ?_
        have ek_9 : f.toNatClampNeg = (f.toInt).toNat := (s_cl (show f.toInt = f.toInt by omega))
        refine sj_i (y := (i 33 (f.toInt).toNat)) (by rw [ek_9]; exact (congrFun (hfr_j1 33 (by omega)) _)) ?_
        refine lv_iload_n hx hb dX11_nextHook_35 rfl (lv_at hl 3 rfl) ?_
        refine lv_icmp_ne (tgt := 56) hx hb dX11_nextHook_36 (by decide) (fun c_10 => ?_) (fun c_10 => ?_)
        · skip
          have h_11 := s_ne (rfl : (i 33 (f.toInt).toNat).toInt = _) (show (1 : Int32).toInt = 1 from rfl) c_10
          refine lv_iload hx hb dX11_nextHook_56 (lv_at hl 0 rfl) ?_
          refine lv_iload hx hb dX11_nextHook_58 (lv_at hl 1 rfl) ?_
          refine lv_iadd hx hb dX11_nextHook_60 ?_
          obtain ⟨z_12, ez_12, hz_12⟩ := s_add (rfl : f.toInt = _) (show (1 : Int32).toInt = 1 from rfl) (by omega) (by omega)
          refine sj_i ez_12 ?_
          refine lv_istore (lv' := [(5, .int z_12), (4, .int 1), (0, .ref (g 0)), (1, .int 1), (2, .int y), (3, .int z)]) hx hb dX11_nextHook_61 hl (by decide) rfl (fun ls hl => ?_)
          refine lv_goto (tgt := 14) hx hb dX11_nextHook_63 (by decide) ?_
          have hno : hdue i 1 z f.toInt.toNat = false := hdue_no (by omega)
          have hcn := cnl_no hno
          exact ih_lp_2 z_12 _ _ _ ls (by omega) (by omega) ⟨by omega, by rw [show (z_12).toInt.toNat = f.toInt.toNat + 1 by omega]; omega⟩ hE9 hO_j1 (fun a ha => (hfr_j1 a (by omega))) (lv_sub hl [0, 1, 2, 3, 4, 5] rfl) hH hS
        · skip
          have h_13 := s_eq (rfl : (i 33 (f.toInt).toNat).toInt = _) (show (1 : Int32).toInt = 1 from rfl) c_10
          refine lv_aload_n hx hb dX11_nextHook_39 rfl (lv_at hl 2 rfl) ?_
          refine h_getr (ci := 11) (C := RX11) (F := TX11) (N := 14) hx hb hts in11 hown hK hH (by decide) (rfl : kd 0 = 11) (by decide) rfl 8 (by decide) wd2 (fun _ h9 => h9) (by decide) rfl (t := 32) (hR 0 8 rfl) (by decide) dX11_nextHook_40 ?_
          refine lv_iload hx hb dX11_nextHook_43 (lv_at hl 0 rfl) ?_
          obtain ⟨j_14, ej_14, hj_14⟩ : ∃ j : Nat, (f).toNatClampNeg = j ∧ (j : Int) = f.toInt := ⟨_, rfl, by rw [s_cl (rfl : f.toInt = _)]; omega⟩
          have lj_14 : j_14 < 9 := by omega
          have mj_14 : j_14 < 11 := by omega
          refine h_qald hx hb hK hH (by decide) (rfl : kd 32 = 27) (by decide) rfl (s_vin (N := 9) (rfl : f.toInt = _) (rfl : ln 32 = 9) (by omega) (by omega)) (t := (357 + 2 * j_14)) (by rw [ej_14]; exact (hR 32 j_14 rfl)) (lt_nK (by omega)) dX11_nextHook_45 ?_
          refine lv_iload_n hx hb dX11_nextHook_46 rfl (lv_at hl 5 rfl) ?_
          have hw_15 : (j1 0 11).toInt = ((i 0 11) : Int32).toInt := congrArg Int32.toInt ((congrFun (hfr_j1 0 (by omega)) _))
          refine x_calli (va_runV (As := [.int z]) (rest := []) ⟨hx, hb, hml, hown, hts⟩ (k_holds l D g ka ad j1 r L d j_14 z hO_j1 hR H.size (by first | omega | decide) (hE9.o (by omega) (hPK j_14 (by omega))).1) (cwV 1 hts gX11_nextHook_X9_holds rfl rfl rfl (by decide +kernel) ⟨(Nat.le_of_ble_eq_true rfl), (Nat.le_of_ble_eq_true rfl)⟩) (x_preV (q := (RX9, TX9, 4)) hH hK (q_obj (lt_nK (by omega)) (kd_tag mj_14) (by decide)) rfl gxb (gxw hE hS (x_F hH hS hA))) rfl rfl hl.1 rfl (lv_room (Nat.le_of_ble_eq_true rfl)) dX11_nextHook_47 ⟨(Nat.le_of_ble_eq_true rfl), (Nat.le_of_ble_eq_true rfl)⟩) hH hS hA rfl rfl (fun r_16 im_18 H locs hw_17 hH hS => ?_)
          have hH : sj_H D A (hwc g ka im_18 r L d) H := hH
          obtain ⟨hO_20, hfr_19, hr_21, he_22, hx2_23⟩ := hw_17
          have hr_21 : (0 : Int) ≤ r_16.toInt ∧ r_16.toInt ≤ 1 := hr_21
          have ho9 : tgO j1 j_14 := hE9.o (by omega) (hPK j_14 (by omega))
          have hv9 : r_16.toInt = (if tgH j1 j_14 z = true then 1 else 0) := hold_tgH ho9 (by omega) (fun b q hb => (hx2_23 q).1 b hb)
          rw [hE9.h (by omega)] at hv9
          have hE8 : tgE i im_18 := hE9.trans (tgE.one (by omega) hfr_19 (by omega))
          refine lv_if_eq (tgt := 56) hx hb dX11_nextHook_50 (by decide) (fun c_24 => ?_) (fun c_24 => ?_)
          · skip
            have h_25 := s_eq (rfl : r_16.toInt = _) (show (0 : Int32).toInt = 0 from rfl) c_24
            refine lv_iload hx hb dX11_nextHook_56 (lv_at hl 0 rfl) ?_
            refine lv_iload hx hb dX11_nextHook_58 (lv_at hl 1 rfl) ?_
            refine lv_iadd hx hb dX11_nextHook_60 ?_
            obtain ⟨z_26, ez_26, hz_26⟩ := s_add (rfl : f.toInt = _) (show (1 : Int32).toInt = 1 from rfl) (by omega) (by omega)
            refine sj_i ez_26 ?_
            refine lv_istore (lv' := [(5, .int z_26), (4, .int 1), (0, .ref (g 0)), (1, .int 1), (2, .int y), (3, .int z)]) hx hb dX11_nextHook_61 hl (by decide) rfl (fun ls hl => ?_)
            refine lv_goto (tgt := 14) hx hb dX11_nextHook_63 (by decide) ?_
            have hno : hdue i 1 z f.toInt.toNat = false := by
                rw [show f.toInt.toNat = j_14 by omega, hdue_v (by rw [show j_14 = f.toInt.toNat by omega]; omega) (by omega)]
                cases q : tgH i j_14 z with
                | true => rw [q, if_pos rfl] at hv9; omega
                | false => rfl
            have hcn := cnl_no hno
            exact ih_lp_2 z_26 _ _ _ ls (by omega) (by omega) ⟨by omega, by rw [show (z_26).toInt.toNat = f.toInt.toNat + 1 by omega]; omega⟩ hE8 hO_20 (fun a ha => ((hfr_19 a (by omega)).trans (hfr_j1 a (by omega)))) (lv_sub hl [0, 1, 2, 3, 4, 5] rfl) hH hS
          · skip
            have h_27 := s_ne (rfl : r_16.toInt = _) (show (0 : Int32).toInt = 0 from rfl) c_24
            refine lv_iload hx hb dX11_nextHook_53 (lv_at hl 0 rfl) ?_
            have hyes : hdue i 1 z f.toInt.toNat = true := by
                rw [show f.toInt.toNat = j_14 by omega, hdue_v (by rw [show j_14 = f.toInt.toNat by omega]; omega) (by omega)]
                cases q : tgH i j_14 z with
                | true => rfl
                | false => rw [q] at hv9; simp at hv9; omega
            have hcn := cnl_yes hyes
            exact sj_zret hx hb hr hlocks rfl hS im_18 ⟨hO_20, (fun a ha => ((hfr_19 a (by omega)).trans (hfr_j1 a (by omega)))), ⟨by omega, by omega⟩, (Or.inr ⟨by omega, by omega, by omega⟩), hE8⟩ hH (sj_Knil hK) (Nat.le_of_ble_eq_true rfl) (Nat.le_of_ble_eq_true rfl) dX11_nextHook_55
  exact lp_2 _ y _ _ _ ls (Nat.lt_succ_self _) (by omega) ⟨by omega, rfl⟩ (tgE.refl i) hO (fun a ha => rfl) (lv_sub hl [0, 1, 2, 3, 4, 5] rfl) hH hS
set_option maxHeartbeats 2000000 in
set_option maxRecDepth 100000 in
theorem k_next0 (l : Launch) (D : va_G) (g : Nat → Nat) (ka : Nat → ClassId) (ad : Nat → Nat) (i : Nat → Nat → Int32) (r : Nat → Nat → Nat) (L : Nat → Nat → Int64) (d : Nat → Nat → UInt64) (y : Int32) (z : Int32) (hO : OkI i) (hR : RS r) (sz : Nat) (hPK : PK i) (hf0 : -1 ≤ y.toInt) (hf1 : y.toInt < (i 0 11).toInt) : Met l yX11_nextHook wsX11_nextHook ({ frames := 124, cells := 0, slots := 0, locals := 4925 }) (va_Pc [.ref (g 0), .int 0, .int y, .int z] (sj_B D (hwc g ka i r L d) (hT ka) sz (gx ad (va_A (hwc g ka i r L d) sz)))) (sj_Qi (S := (Nat → Nat → Int32)) D (fun v u => OkI u ∧ (∀ a, ¬ ((357 ≤ a ∧ a < 379)) → u a = i a) ∧ ((-1 : Int) ≤ v.toInt ∧ v.toInt ≤ 7) ∧ ((v.toInt = -1 ∧ cnl (hdue i 0 z) (y.toInt + 1).toNat = 0) ∨ (0 ≤ v.toInt ∧ v.toInt ≤ y.toInt ∧ v.toInt < (i 0 11).toInt ∧ cnl (hdue i 0 z) (y.toInt + 1).toNat = cnl (hdue i 0 z) v.toInt.toNat + 1)) ∧ (tgE i u)) (fun u => hwc g ka u r L d) (fun _ => []) (va_A (hwc g ka i r L d) sz)) 0 0 (va_A (hwc g ka i r L d) sz) := by
  refine x_met (Ex := gx ad) (cc := cX11_nextHook) (maxL := 6) (ret := (some .int)) (by decide) rfl (Nat.le_of_ble_eq_true rfl) ?_
  intro p e s m below meth c A ls hx hb hr hml hts hown hlocks hA hS hH hK hE hl
  have hown : s.vm.findClass RX11 = some m.cls := hown
  have in11 : ∀ w ∈ wsX110, w ∈ wsX11_nextHook := (fun _ h => (List.mem_cons_of_mem _ (List.mem_append_left _ (List.mem_append_right _ h))))
  have wd0 := hts (.fieldLink RX11 130 "StoryDesk" "hookCount" "I") (List.mem_cons_of_mem _ (List.mem_append_left _ (List.mem_append_left _ lm0)))
  have wd1 := hts (.fieldLink RX11 66 "StoryDesk" "hookBefore" "[Z") (List.mem_cons_of_mem _ (List.mem_append_left _ (List.mem_append_left _ lm1)))
  have wd2 := hts (.fieldLink RX11 61 "StoryDesk" "hookTags" "[LStoryDesk$TagExpression;") (List.mem_cons_of_mem _ (List.mem_append_left _ (List.mem_append_left _ lm2)))
  have hl : lv_has ls 6 [(0, .ref (g 0)), (1, .int 0), (2, .int y), (3, .int z)] := hl
  have hK : va_K D vwCl (hT ka) s := hK
  have hg_1 := s_rng z
  have hb11 : (0 : Int) ≤ (i 0 11).toInt ∧ (i 0 11).toInt ≤ 8 := hO 0 11
  refine lv_iload_n hx hb dX11_nextHook_0 rfl (lv_at hl 1 rfl) ?_
  refine lv_if_eq (tgt := 8) hx hb dX11_nextHook_1 (by decide) (fun _ => ?_) (fun h => absurd (by decide) h)
  refine lv_iconst (v := (-1)) hx hb dX11_nextHook_8 (by decide) ?_
  refine lv_istore (lv' := [(4, .int (-1)), (0, .ref (g 0)), (1, .int 0), (2, .int y), (3, .int z)]) hx hb dX11_nextHook_9 hl (by decide) rfl (fun ls hl => ?_)
  refine lv_iload_n hx hb dX11_nextHook_11 rfl (lv_at hl 3 rfl) ?_
  refine lv_istore (lv' := [(5, .int y), (4, .int (-1)), (0, .ref (g 0)), (1, .int 0), (2, .int y), (3, .int z)]) hx hb dX11_nextHook_12 hl (by decide) rfl (fun ls hl => ?_)
  -- loop at 14
  have lp_2 : ∀ (fuel_lp_2 : Nat) (f : Int32) (j1 : Nat → Nat → Int32) (H : Heap) (locs : List Loc) (ls : Array Slot), (f.toInt + 1).toNat < fuel_lp_2 → (-1 : Int) ≤ f.toInt ∧ f.toInt ≤ 7 → (-1 ≤ f.toInt ∧ f.toInt < (i 0 11).toInt ∧ f.toInt ≤ y.toInt) ∧ cnl (hdue i 0 z) (f.toInt + 1).toNat = cnl (hdue i 0 z) (y.toInt + 1).toNat → tgE i j1 → OkI j1 → (∀ a, ¬ ((357 ≤ a ∧ a < 379)) → j1 a = i a) → lv_has ls 6 [(5, .int f), (4, .int (-1)), (0, .ref (g 0)), (1, .int 0), (2, .int y), (3, .int z)] → sj_H D A (hwc g ka j1 r L d) H → va_S A s.heap H locs → W p l e (headSpec wsX11_nextHook ({ frames := 124, cells := 0, slots := 0, locals := 4925 })).room s m ([.ref (g 0), .int 0, .int y, .int z] : List Value).toArray below meth c H locs 0 0 (MQ below (sj_Qi (S := (Nat → Nat → Int32)) D (fun v u => OkI u ∧ (∀ a, ¬ ((357 ≤ a ∧ a < 379)) → u a = i a) ∧ ((-1 : Int) ≤ v.toInt ∧ v.toInt ≤ 7) ∧ ((v.toInt = -1 ∧ cnl (hdue i 0 z) (y.toInt + 1).toNat = 0) ∨ (0 ≤ v.toInt ∧ v.toInt ≤ y.toInt ∧ v.toInt < (i 0 11).toInt ∧ cnl (hdue i 0 z) (y.toInt + 1).toNat = cnl (hdue i 0 z) v.toInt.toNat + 1)) ∧ (tgE i u)) (fun u => hwc g ka u r L d) (fun _ => []) A) ([.ref (g 0), .int 0, .int y, .int z] : List Value).toArray s 0 0 A) (F0 m 14 ls []) := by
    intro fuel_lp_2
    induction fuel_lp_2 with
    | zero => intros; omega
    | succ fuel_lp_2 ih_lp_2 =>
      intro f j1 H locs ls hm hr_f hi_lp_2_0 hi_lp_2_1 hO_j1 hfr_j1 hl hH hS
      have hE9 := hi_lp_2_1
      refine lv_iload hx hb dX11_nextHook_14 (lv_at hl 0 rfl) ?_
      refine lv_if_lt (tgt := 66) hx hb dX11_nextHook_16 (by decide) (fun c_3 => ?_) (fun c_3 => ?_)
      · skip
        have h_4 := s_lt (rfl : f.toInt = _) (show (0 : Int32).toInt = 0 from rfl) c_3
        refine lv_iconst (v := (-1)) hx hb dX11_nextHook_66 (by decide) ?_
        have hlv_5 : ((-1) : Int32).toInt = -1 := rfl
        exact sj_zret hx hb hr hlocks rfl hS j1 ⟨hO_j1, (fun a ha => (hfr_j1 a (by omega))), ⟨by decide, by decide⟩, (Or.inl ⟨by omega, by rw [← hi_lp_2_0.2, show (f.toInt + 1).toNat = 0 by omega]; rfl⟩), hE9⟩ hH (sj_Knil hK) (Nat.le_of_ble_eq_true rfl) (Nat.le_of_ble_eq_true rfl) dX11_nextHook_67
      · skip
        have h_6 := s_nlt (rfl : f.toInt = _) (show (0 : Int32).toInt = 0 from rfl) c_3
        refine lv_iload hx hb dX11_nextHook_19 (lv_at hl 0 rfl) ?_
        refine lv_aload_n hx hb dX11_nextHook_21 rfl (lv_at hl 2 rfl) ?_
        have bx_7 : (0 : Int) ≤ (i 0 11).toInt ∧ (i 0 11).toInt ≤ 8 := hO 0 11
        refine h_geti (ci := 11) (C := RX11) (F := TX11) (N := 14) hx hb hts in11 hown hK hH (by decide) (rfl : kd 0 = 11) (by decide) rfl 11 (by decide) wd0 (fun _ h9 => h9) (by decide) rfl dX11_nextHook_22 ?_
        refine sj_i (y := (i 0 11)) (congrFun (hfr_j1 0 (by omega)) _) ?_
        refine lv_icmp_ge (tgt := 66) hx hb dX11_nextHook_25 (by decide) (fun c_8 => ?_) (fun c_8 => ?_)
        · skip
          have h_9 := s_le (rfl : (i 0 11).toInt = _) (rfl : f.toInt = _) c_8
          refine lv_iconst (v := (-1)) hx hb dX11_nextHook_66 (by decide) ?_
          have hlv_10 : ((-1) : Int32).toInt = -1 := rfl
          exact sj_zret hx hb hr hlocks rfl hS j1 ⟨hO_j1, (fun a ha => (hfr_j1 a (by omega))), ⟨by decide, by decide⟩, (Or.inl ⟨by omega, by rw [← hi_lp_2_0.2, show (f.toInt + 1).toNat = 0 by omega]; rfl⟩), hE9⟩ hH (sj_Knil hK) (Nat.le_of_ble_eq_true rfl) (Nat.le_of_ble_eq_true rfl) dX11_nextHook_67
        · skip
          have h_11 := s_nle (rfl : (i 0 11).toInt = _) (rfl : f.toInt = _) c_8
          refine lv_aload_n hx hb dX11_nextHook_28 rfl (lv_at hl 2 rfl) ?_
          refine h_getr (ci := 11) (C := RX11) (F := TX11) (N := 14) hx hb hts in11 hown hK hH (by decide) (rfl : kd 0 = 11) (by decide) rfl 9 (by decide) wd1 (fun _ h9 => h9) (by decide) rfl (t := 33) (hR 0 9 rfl) (by decide) dX11_nextHook_29 ?_
          refine lv_iload hx hb dX11_nextHook_32 (lv_at hl 0 rfl) ?_
          have bx_12 : (0 : Int) ≤ (i 33 (f.toInt).toNat).toInt ∧ (i 33 (f.toInt).toNat).toInt ≤ 1 := hO 33 (f.toInt).toNat
          refine h_zald hx hb hK hH (by decide) (rfl : kd 33 = 15) (s_vin (N := 8) (rfl : f.toInt = _) (rfl : ln 33 = 8) (by omega) (by omega)) dX11_nextHook_34 ?_
          have ek_13 : f.toNatClampNeg = (f.toInt).toNat := (s_cl (show f.toInt = f.toInt by omega))
          refine sj_i (y := (i 33 (f.toInt).toNat)) (by rw [ek_13]; exact (congrFun (hfr_j1 33 (by omega)) _)) ?_
          refine lv_iload_n hx hb dX11_nextHook_35 rfl (lv_at hl 3 rfl) ?_
          refine lv_icmp_ne (tgt := 56) hx hb dX11_nextHook_36 (by decide) (fun c_14 => ?_) (fun c_14 => ?_)
          · skip
            have h_15 := s_ne (rfl : (i 33 (f.toInt).toNat).toInt = _) (show (0 : Int32).toInt = 0 from rfl) c_14
            refine lv_iload hx hb dX11_nextHook_56 (lv_at hl 0 rfl) ?_
            refine lv_iload hx hb dX11_nextHook_58 (lv_at hl 1 rfl) ?_
            refine lv_iadd hx hb dX11_nextHook_60 ?_
            obtain ⟨z_16, ez_16, hz_16⟩ := s_add (rfl : f.toInt = _) (show ((-1) : Int32).toInt = (-1) from rfl) (by omega) (by omega)
            refine sj_i ez_16 ?_
            refine lv_istore (lv' := [(5, .int z_16), (4, .int (-1)), (0, .ref (g 0)), (1, .int 0), (2, .int y), (3, .int z)]) hx hb dX11_nextHook_61 hl (by decide) rfl (fun ls hl => ?_)
            refine lv_goto (tgt := 14) hx hb dX11_nextHook_63 (by decide) ?_
            have hno : hdue i 0 z f.toInt.toNat = false := hdue_no (by omega)
            have hcn := cnl_no hno
            exact ih_lp_2 z_16 _ _ _ ls (by omega) (by omega) ⟨by omega, by rw [show (z_16.toInt + 1).toNat = f.toInt.toNat by omega]; rw [show (f.toInt + 1).toNat = f.toInt.toNat + 1 by omega] at hi_lp_2_0; omega⟩ hE9 hO_j1 (fun a ha => (hfr_j1 a (by omega))) (lv_sub hl [0, 1, 2, 3, 4, 5] rfl) hH hS
          · skip
            have h_17 := s_eq (rfl : (i 33 (f.toInt).toNat).toInt = _) (show (0 : Int32).toInt = 0 from rfl) c_14
            refine lv_aload_n hx hb dX11_nextHook_39 rfl (lv_at hl 2 rfl) ?_
            refine h_getr (ci := 11) (C := RX11) (F := TX11) (N := 14) hx hb hts in11 hown hK hH (by decide) (rfl : kd 0 = 11) (by decide) rfl 8 (by decide) wd2 (fun _ h9 => h9) (by decide) rfl (t := 32) (hR 0 8 rfl) (by decide) dX11_nextHook_40 ?_
            refine lv_iload hx hb dX11_nextHook_43 (lv_at hl 0 rfl) ?_
            obtain ⟨j_18, ej_18, hj_18⟩ : ∃ j : Nat, (f).toNatClampNeg = j ∧ (j : Int) = f.toInt := ⟨_, rfl, by rw [s_cl (rfl : f.toInt = _)]; omega⟩
            have lj_18 : j_18 < 9 := by omega
            have mj_18 : j_18 < 11 := by omega
            refine h_qald hx hb hK hH (by decide) (rfl : kd 32 = 27) (by decide) rfl (s_vin (N := 9) (rfl : f.toInt = _) (rfl : ln 32 = 9) (by omega) (by omega)) (t := (357 + 2 * j_18)) (by rw [ej_18]; exact (hR 32 j_18 rfl)) (lt_nK (by omega)) dX11_nextHook_45 ?_
            refine lv_iload_n hx hb dX11_nextHook_46 rfl (lv_at hl 5 rfl) ?_
            have hw_19 : (j1 0 11).toInt = ((i 0 11) : Int32).toInt := congrArg Int32.toInt ((congrFun (hfr_j1 0 (by omega)) _))
            refine x_calli (va_runV (As := [.int z]) (rest := []) ⟨hx, hb, hml, hown, hts⟩ (k_holds l D g ka ad j1 r L d j_18 z hO_j1 hR H.size (by first | omega | decide) (hE9.o (by omega) (hPK j_18 (by omega))).1) (cwV 1 hts gX11_nextHook_X9_holds rfl rfl rfl (by decide +kernel) ⟨(Nat.le_of_ble_eq_true rfl), (Nat.le_of_ble_eq_true rfl)⟩) (x_preV (q := (RX9, TX9, 4)) hH hK (q_obj (lt_nK (by omega)) (kd_tag mj_18) (by decide)) rfl gxb (gxw hE hS (x_F hH hS hA))) rfl rfl hl.1 rfl (lv_room (Nat.le_of_ble_eq_true rfl)) dX11_nextHook_47 ⟨(Nat.le_of_ble_eq_true rfl), (Nat.le_of_ble_eq_true rfl)⟩) hH hS hA rfl rfl (fun r_20 im_22 H locs hw_21 hH hS => ?_)
            have hH : sj_H D A (hwc g ka im_22 r L d) H := hH
            obtain ⟨hO_24, hfr_23, hr_25, he_26, hx2_27⟩ := hw_21
            have hr_25 : (0 : Int) ≤ r_20.toInt ∧ r_20.toInt ≤ 1 := hr_25
            have ho9 : tgO j1 j_18 := hE9.o (by omega) (hPK j_18 (by omega))
            have hv9 : r_20.toInt = (if tgH j1 j_18 z = true then 1 else 0) := hold_tgH ho9 (by omega) (fun b q hb => (hx2_27 q).1 b hb)
            rw [hE9.h (by omega)] at hv9
            have hE8 : tgE i im_22 := hE9.trans (tgE.one (by omega) hfr_23 (by omega))
            refine lv_if_eq (tgt := 56) hx hb dX11_nextHook_50 (by decide) (fun c_28 => ?_) (fun c_28 => ?_)
            · skip
              have h_29 := s_eq (rfl : r_20.toInt = _) (show (0 : Int32).toInt = 0 from rfl) c_28
              refine lv_iload hx hb dX11_nextHook_56 (lv_at hl 0 rfl) ?_
              refine lv_iload hx hb dX11_nextHook_58 (lv_at hl 1 rfl) ?_
              refine lv_iadd hx hb dX11_nextHook_60 ?_
              obtain ⟨z_30, ez_30, hz_30⟩ := s_add (rfl : f.toInt = _) (show ((-1) : Int32).toInt = (-1) from rfl) (by omega) (by omega)
              refine sj_i ez_30 ?_
              refine lv_istore (lv' := [(5, .int z_30), (4, .int (-1)), (0, .ref (g 0)), (1, .int 0), (2, .int y), (3, .int z)]) hx hb dX11_nextHook_61 hl (by decide) rfl (fun ls hl => ?_)
              refine lv_goto (tgt := 14) hx hb dX11_nextHook_63 (by decide) ?_
              have hno : hdue i 0 z f.toInt.toNat = false := by
                  rw [show f.toInt.toNat = j_18 by omega, hdue_v (by rw [show j_18 = f.toInt.toNat by omega]; omega) (by omega)]
                  cases q : tgH i j_18 z with
                  | true => rw [q, if_pos rfl] at hv9; omega
                  | false => rfl
              have hcn := cnl_no hno
              exact ih_lp_2 z_30 _ _ _ ls (by omega) (by omega) ⟨by omega, by rw [show (z_30.toInt + 1).toNat = f.toInt.toNat by omega]; rw [show (f.toInt + 1).toNat = f.toInt.toNat + 1 by omega] at hi_lp_2_0; omega⟩ hE8 hO_24 (fun a ha => ((hfr_23 a (by omega)).trans (hfr_j1 a (by omega)))) (lv_sub hl [0, 1, 2, 3, 4, 5] rfl) hH hS
            · skip
              have h_31 := s_ne (rfl : r_20.toInt = _) (show (0 : Int32).toInt = 0 from rfl) c_28
              refine lv_iload hx hb dX11_nextHook_53 (lv_at hl 0 rfl) ?_
              have hyes : hdue i 0 z f.toInt.toNat = true := by
                  rw [show f.toInt.toNat = j_18 by omega, hdue_v (by rw [show j_18 = f.toInt.toNat by omega]; omega) (by omega)]
                  cases q : tgH i j_18 z with
                  | true => rfl
                  | false => rw [q] at hv9; simp at hv9; omega
              have hcn := cnl_yes hyes
              exact sj_zret hx hb hr hlocks rfl hS im_22 ⟨hO_24, (fun a ha => ((hfr_23 a (by omega)).trans (hfr_j1 a (by omega)))), ⟨by omega, by omega⟩, (Or.inr ⟨by omega, by omega, by omega, by rw [← hi_lp_2_0.2, show (f.toInt + 1).toNat = f.toInt.toNat + 1 by omega]; exact hcn⟩), hE8⟩ hH (sj_Knil hK) (Nat.le_of_ble_eq_true rfl) (Nat.le_of_ble_eq_true rfl) dX11_nextHook_55
  exact lp_2 _ y _ _ _ ls (Nat.lt_succ_self _) (by omega) ⟨by omega, rfl⟩ (tgE.refl i) hO (fun a ha => rfl) (lv_sub hl [0, 1, 2, 3, 4, 5] rfl) hH hS
