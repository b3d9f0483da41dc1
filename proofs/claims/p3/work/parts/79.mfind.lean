theorem dX12_forget_0 : decode cX12_forget 0 = .ok (.aload_n 0, 1) := by decide +kernel
theorem dX12_forget_1 : decode cX12_forget 1 = .ok (.iconst 0, 1) := by decide +kernel
theorem dX12_forget_2 : decode cX12_forget 2 = .ok (.putfield 57, 3) := by decide +kernel
theorem dX12_forget_5 : decode cX12_forget 5 = .ok (.aload_n 0, 1) := by decide +kernel
theorem dX12_forget_6 : decode cX12_forget 6 = .ok (.iconst 0, 1) := by decide +kernel
theorem dX12_forget_7 : decode cX12_forget 7 = .ok (.putfield 50, 3) := by decide +kernel
theorem dX12_forget_10 : decode cX12_forget 10 = .ok (.aload_n 0, 1) := by decide +kernel
theorem dX12_forget_11 : decode cX12_forget 11 = .ok (.iconst 0, 1) := by decide +kernel
theorem dX12_forget_12 : decode cX12_forget 12 = .ok (.putfield 64, 3) := by decide +kernel
theorem dX12_forget_15 : decode cX12_forget 15 = .ok (.aload_n 0, 1) := by decide +kernel
theorem dX12_forget_16 : decode cX12_forget 16 = .ok (.iconst 0, 1) := by decide +kernel
theorem dX12_forget_17 : decode cX12_forget 17 = .ok (.putfield 46, 3) := by decide +kernel
theorem dX12_forget_20 : decode cX12_forget 20 = .ok (.aload_n 0, 1) := by decide +kernel
theorem dX12_forget_21 : decode cX12_forget 21 = .ok (.iconst 0, 1) := by decide +kernel
theorem dX12_forget_22 : decode cX12_forget 22 = .ok (.putfield 117, 3) := by decide +kernel
theorem dX12_forget_25 : decode cX12_forget 25 = .ok (.aload_n 0, 1) := by decide +kernel
theorem dX12_forget_26 : decode cX12_forget 26 = .ok (.iconst 0, 1) := by decide +kernel
theorem dX12_forget_27 : decode cX12_forget 27 = .ok (.putfield 120, 3) := by decide +kernel
theorem dX12_forget_30 : decode cX12_forget 30 = .ok (.aload_n 0, 1) := by decide +kernel
theorem dX12_forget_31 : decode cX12_forget 31 = .ok (.iconst 0, 1) := by decide +kernel
theorem dX12_forget_32 : decode cX12_forget 32 = .ok (.putfield 99, 3) := by decide +kernel
theorem dX12_forget_35 : decode cX12_forget 35 = .ok (.aload_n 0, 1) := by decide +kernel
theorem dX12_forget_36 : decode cX12_forget 36 = .ok (.iconst 0, 1) := by decide +kernel
theorem dX12_forget_37 : decode cX12_forget 37 = .ok (.putfield 123, 3) := by decide +kernel
theorem dX12_forget_40 : decode cX12_forget 40 = .ok (.aload_n 0, 1) := by decide +kernel
theorem dX12_forget_41 : decode cX12_forget 41 = .ok (.iconst 0, 1) := by decide +kernel
theorem dX12_forget_42 : decode cX12_forget 42 = .ok (.putfield 70, 3) := by decide +kernel
theorem dX12_forget_45 : decode cX12_forget 45 = .ok (.aload_n 0, 1) := by decide +kernel
theorem dX12_forget_46 : decode cX12_forget 46 = .ok (.iconst 0, 1) := by decide +kernel
theorem dX12_forget_47 : decode cX12_forget 47 = .ok (.putfield 165, 3) := by decide +kernel
theorem dX12_forget_50 : decode cX12_forget 50 = .ok (.return_, 1) := by decide +kernel
theorem dX12_addCase_0 : decode cX12_addCase 0 = .ok (.aload_n 0, 1) := by decide +kernel
theorem dX12_addCase_1 : decode cX12_addCase 1 = .ok (.getfield 165, 3) := by decide +kernel
theorem dX12_addCase_4 : decode cX12_addCase 4 = .ok (.bipush 24, 2) := by decide +kernel
theorem dX12_addCase_6 : decode cX12_addCase 6 = .ok (.if_icmp .ne 4, 3) := by decide +kernel
theorem dX12_addCase_10 : decode cX12_addCase 10 = .ok (.aload_n 0, 1) := by decide +kernel
theorem dX12_addCase_11 : decode cX12_addCase 11 = .ok (.getfield 135, 3) := by decide +kernel
theorem dX12_addCase_14 : decode cX12_addCase 14 = .ok (.iload_n 1, 1) := by decide +kernel
theorem dX12_addCase_15 : decode cX12_addCase 15 = .ok (.iaload, 1) := by decide +kernel
theorem dX12_addCase_16 : decode cX12_addCase 16 = .ok (.istore 5, 2) := by decide +kernel
theorem dX12_addCase_18 : decode cX12_addCase 18 = .ok (.aload_n 0, 1) := by decide +kernel
theorem dX12_addCase_19 : decode cX12_addCase 19 = .ok (.getfield 195, 3) := by decide +kernel
theorem dX12_addCase_22 : decode cX12_addCase 22 = .ok (.aload_n 0, 1) := by decide +kernel
theorem dX12_addCase_23 : decode cX12_addCase 23 = .ok (.getfield 165, 3) := by decide +kernel
theorem dX12_addCase_26 : decode cX12_addCase 26 = .ok (.iload_n 1, 1) := by decide +kernel
theorem dX12_addCase_27 : decode cX12_addCase 27 = .ok (.iastore, 1) := by decide +kernel
theorem dX12_addCase_28 : decode cX12_addCase 28 = .ok (.aload_n 0, 1) := by decide +kernel
theorem dX12_addCase_29 : decode cX12_addCase 29 = .ok (.getfield 198, 3) := by decide +kernel
theorem dX12_addCase_32 : decode cX12_addCase 32 = .ok (.aload_n 0, 1) := by decide +kernel
theorem dX12_addCase_33 : decode cX12_addCase 33 = .ok (.getfield 165, 3) := by decide +kernel
theorem dX12_addCase_36 : decode cX12_addCase 36 = .ok (.iload_n 3, 1) := by decide +kernel
theorem dX12_addCase_37 : decode cX12_addCase 37 = .ok (.iastore, 1) := by decide +kernel
theorem dX12_addCase_38 : decode cX12_addCase 38 = .ok (.aload_n 0, 1) := by decide +kernel
theorem dX12_addCase_39 : decode cX12_addCase 39 = .ok (.getfield 201, 3) := by decide +kernel
theorem dX12_addCase_42 : decode cX12_addCase 42 = .ok (.aload_n 0, 1) := by decide +kernel
theorem dX12_addCase_43 : decode cX12_addCase 43 = .ok (.getfield 165, 3) := by decide +kernel
theorem dX12_addCase_46 : decode cX12_addCase 46 = .ok (.iload 4, 2) := by decide +kernel
theorem dX12_addCase_48 : decode cX12_addCase 48 = .ok (.iastore, 1) := by decide +kernel
theorem dX12_addCase_49 : decode cX12_addCase 49 = .ok (.aload_n 0, 1) := by decide +kernel
theorem dX12_addCase_50 : decode cX12_addCase 50 = .ok (.getfield 204, 3) := by decide +kernel
theorem dX12_addCase_53 : decode cX12_addCase 53 = .ok (.aload_n 0, 1) := by decide +kernel
theorem dX12_addCase_54 : decode cX12_addCase 54 = .ok (.getfield 165, 3) := by decide +kernel
theorem dX12_addCase_57 : decode cX12_addCase 57 = .ok (.iload_n 2, 1) := by decide +kernel
theorem dX12_addCase_58 : decode cX12_addCase 58 = .ok (.aload_n 0, 1) := by decide +kernel
theorem dX12_addCase_59 : decode cX12_addCase 59 = .ok (.getfield 129, 3) := by decide +kernel
theorem dX12_addCase_62 : decode cX12_addCase 62 = .ok (.iload_n 1, 1) := by decide +kernel
theorem dX12_addCase_63 : decode cX12_addCase 63 = .ok (.iaload, 1) := by decide +kernel
theorem dX12_addCase_64 : decode cX12_addCase 64 = .ok (.ior, 1) := by decide +kernel
theorem dX12_addCase_65 : decode cX12_addCase 65 = .ok (.aload_n 0, 1) := by decide +kernel
theorem dX12_addCase_66 : decode cX12_addCase 66 = .ok (.getfield 126, 3) := by decide +kernel
theorem dX12_addCase_69 : decode cX12_addCase 69 = .ok (.iload 5, 2) := by decide +kernel
theorem dX12_addCase_71 : decode cX12_addCase 71 = .ok (.iaload, 1) := by decide +kernel
theorem dX12_addCase_72 : decode cX12_addCase 72 = .ok (.ior, 1) := by decide +kernel
theorem dX12_addCase_73 : decode cX12_addCase 73 = .ok (.aload_n 0, 1) := by decide +kernel
theorem dX12_addCase_74 : decode cX12_addCase 74 = .ok (.getfield 126, 3) := by decide +kernel
theorem dX12_addCase_77 : decode cX12_addCase 77 = .ok (.iconst 0, 1) := by decide +kernel
theorem dX12_addCase_78 : decode cX12_addCase 78 = .ok (.iaload, 1) := by decide +kernel
theorem dX12_addCase_79 : decode cX12_addCase 79 = .ok (.ior, 1) := by decide +kernel
theorem dX12_addCase_80 : decode cX12_addCase 80 = .ok (.iastore, 1) := by decide +kernel
theorem dX12_addCase_81 : decode cX12_addCase 81 = .ok (.aload_n 0, 1) := by decide +kernel
theorem dX12_addCase_82 : decode cX12_addCase 82 = .ok (.getfield 207, 3) := by decide +kernel
theorem dX12_addCase_85 : decode cX12_addCase 85 = .ok (.aload_n 0, 1) := by decide +kernel
theorem dX12_addCase_86 : decode cX12_addCase 86 = .ok (.getfield 165, 3) := by decide +kernel
theorem dX12_addCase_89 : decode cX12_addCase 89 = .ok (.iconst (-1), 1) := by decide +kernel
theorem dX12_addCase_90 : decode cX12_addCase 90 = .ok (.iastore, 1) := by decide +kernel
theorem dX12_addCase_91 : decode cX12_addCase 91 = .ok (.aload_n 0, 1) := by decide +kernel
theorem dX12_addCase_92 : decode cX12_addCase 92 = .ok (.dup, 1) := by decide +kernel
theorem dX12_addCase_93 : decode cX12_addCase 93 = .ok (.getfield 165, 3) := by decide +kernel
theorem dX12_addCase_96 : decode cX12_addCase 96 = .ok (.iconst 1, 1) := by decide +kernel
theorem dX12_addCase_97 : decode cX12_addCase 97 = .ok (.iadd, 1) := by decide +kernel
theorem dX12_addCase_98 : decode cX12_addCase 98 = .ok (.putfield 165, 3) := by decide +kernel
theorem dX12_addCase_101 : decode cX12_addCase 101 = .ok (.return_, 1) := by decide +kernel
theorem dX12_addCase_9 : decode cX12_addCase 9 = .ok (.return_, 1) := by decide +kernel
theorem dX12_findCases_0 : decode cX12_findCases 0 = .ok (.iconst 0, 1) := by decide +kernel
theorem dX12_findCases_1 : decode cX12_findCases 1 = .ok (.istore_n 1, 1) := by decide +kernel
theorem dX12_findCases_2 : decode cX12_findCases 2 = .ok (.iload_n 1, 1) := by decide +kernel
theorem dX12_findCases_3 : decode cX12_findCases 3 = .ok (.aload_n 0, 1) := by decide +kernel
theorem dX12_findCases_4 : decode cX12_findCases 4 = .ok (.getfield 120, 3) := by decide +kernel
theorem dX12_findCases_7 : decode cX12_findCases 7 = .ok (.if_icmp .ge 118, 3) := by decide +kernel
theorem dX12_findCases_125 : decode cX12_findCases 125 = .ok (.return_, 1) := by decide +kernel
theorem dX12_findCases_10 : decode cX12_findCases 10 = .ok (.iconst 1, 1) := by decide +kernel
theorem dX12_findCases_11 : decode cX12_findCases 11 = .ok (.istore_n 2, 1) := by decide +kernel
theorem dX12_findCases_12 : decode cX12_findCases 12 = .ok (.iconst 0, 1) := by decide +kernel
theorem dX12_findCases_13 : decode cX12_findCases 13 = .ok (.istore_n 3, 1) := by decide +kernel
theorem dX12_findCases_14 : decode cX12_findCases 14 = .ok (.iload_n 3, 1) := by decide +kernel
theorem dX12_findCases_15 : decode cX12_findCases 15 = .ok (.aload_n 0, 1) := by decide +kernel
theorem dX12_findCases_16 : decode cX12_findCases 16 = .ok (.getfield 123, 3) := by decide +kernel
theorem dX12_findCases_19 : decode cX12_findCases 19 = .ok (.if_icmp .ge 88, 3) := by decide +kernel
theorem dX12_findCases_107 : decode cX12_findCases 107 = .ok (.iload_n 2, 1) := by decide +kernel
theorem dX12_findCases_108 : decode cX12_findCases 108 = .ok (.ifCond .eq 11, 3) := by decide +kernel
theorem dX12_findCases_119 : decode cX12_findCases 119 = .ok (.iinc 1 1, 3) := by decide +kernel
theorem dX12_findCases_122 : decode cX12_findCases 122 = .ok (.goto (-120), 3) := by decide +kernel
theorem dX12_findCases_111 : decode cX12_findCases 111 = .ok (.aload_n 0, 1) := by decide +kernel
theorem dX12_findCases_112 : decode cX12_findCases 112 = .ok (.iload_n 1, 1) := by decide +kernel
theorem dX12_findCases_113 : decode cX12_findCases 113 = .ok (.iconst 0, 1) := by decide +kernel
theorem dX12_findCases_114 : decode cX12_findCases 114 = .ok (.iconst (-1), 1) := by decide +kernel
theorem dX12_findCases_115 : decode cX12_findCases 115 = .ok (.iconst (-1), 1) := by decide +kernel
theorem dX12_findCases_116 : decode cX12_findCases 116 = .ok (.invokevirtual 210, 3) := by decide +kernel
theorem dX12_findCases_22 : decode cX12_findCases 22 = .ok (.aload_n 0, 1) := by decide +kernel
theorem dX12_findCases_23 : decode cX12_findCases 23 = .ok (.getfield 141, 3) := by decide +kernel
theorem dX12_findCases_26 : decode cX12_findCases 26 = .ok (.iload_n 3, 1) := by decide +kernel
theorem dX12_findCases_27 : decode cX12_findCases 27 = .ok (.iaload, 1) := by decide +kernel
theorem dX12_findCases_28 : decode cX12_findCases 28 = .ok (.iload_n 1, 1) := by decide +kernel
theorem dX12_findCases_29 : decode cX12_findCases 29 = .ok (.if_icmp .eq 6, 3) := by decide +kernel
theorem dX12_findCases_35 : decode cX12_findCases 35 = .ok (.iconst 0, 1) := by decide +kernel
theorem dX12_findCases_36 : decode cX12_findCases 36 = .ok (.istore_n 2, 1) := by decide +kernel
theorem dX12_findCases_37 : decode cX12_findCases 37 = .ok (.aload_n 0, 1) := by decide +kernel
theorem dX12_findCases_38 : decode cX12_findCases 38 = .ok (.bipush 100, 2) := by decide +kernel
theorem dX12_findCases_40 : decode cX12_findCases 40 = .ok (.iload_n 3, 1) := by decide +kernel
theorem dX12_findCases_41 : decode cX12_findCases 41 = .ok (.iadd, 1) := by decide +kernel
theorem dX12_findCases_42 : decode cX12_findCases 42 = .ok (.invokevirtual 80, 3) := by decide +kernel
theorem dX12_findCases_45 : decode cX12_findCases 45 = .ok (.istore 4, 2) := by decide +kernel
theorem dX12_findCases_47 : decode cX12_findCases 47 = .ok (.iconst 0, 1) := by decide +kernel
theorem dX12_findCases_48 : decode cX12_findCases 48 = .ok (.istore 5, 2) := by decide +kernel
theorem dX12_findCases_50 : decode cX12_findCases 50 = .ok (.iload 5, 2) := by decide +kernel
theorem dX12_findCases_52 : decode cX12_findCases 52 = .ok (.aload_n 0, 1) := by decide +kernel
theorem dX12_findCases_53 : decode cX12_findCases 53 = .ok (.getfield 70, 3) := by decide +kernel
theorem dX12_findCases_56 : decode cX12_findCases 56 = .ok (.if_icmp .ge 45, 3) := by decide +kernel
theorem dX12_findCases_101 : decode cX12_findCases 101 = .ok (.iinc 3 1, 3) := by decide +kernel
theorem dX12_findCases_104 : decode cX12_findCases 104 = .ok (.goto (-90), 3) := by decide +kernel
theorem dX12_findCases_59 : decode cX12_findCases 59 = .ok (.aload_n 0, 1) := by decide +kernel
theorem dX12_findCases_60 : decode cX12_findCases 60 = .ok (.getfield 67, 3) := by decide +kernel
theorem dX12_findCases_63 : decode cX12_findCases 63 = .ok (.iload 5, 2) := by decide +kernel
theorem dX12_findCases_65 : decode cX12_findCases 65 = .ok (.iaload, 1) := by decide +kernel
theorem dX12_findCases_66 : decode cX12_findCases 66 = .ok (.bipush 100, 2) := by decide +kernel
theorem dX12_findCases_68 : decode cX12_findCases 68 = .ok (.iload_n 3, 1) := by decide +kernel
theorem dX12_findCases_69 : decode cX12_findCases 69 = .ok (.iadd, 1) := by decide +kernel
theorem dX12_findCases_70 : decode cX12_findCases 70 = .ok (.if_icmp .ne 25, 3) := by decide +kernel
theorem dX12_findCases_95 : decode cX12_findCases 95 = .ok (.iinc 5 1, 3) := by decide +kernel
theorem dX12_findCases_98 : decode cX12_findCases 98 = .ok (.goto (-48), 3) := by decide +kernel
theorem dX12_findCases_73 : decode cX12_findCases 73 = .ok (.iload 5, 2) := by decide +kernel
theorem dX12_findCases_75 : decode cX12_findCases 75 = .ok (.iload 4, 2) := by decide +kernel
theorem dX12_findCases_77 : decode cX12_findCases 77 = .ok (.if_icmp .eq 18, 3) := by decide +kernel
theorem dX12_findCases_80 : decode cX12_findCases 80 = .ok (.aload_n 0, 1) := by decide +kernel
theorem dX12_findCases_81 : decode cX12_findCases 81 = .ok (.iload_n 1, 1) := by decide +kernel
theorem dX12_findCases_82 : decode cX12_findCases 82 = .ok (.aload_n 0, 1) := by decide +kernel
theorem dX12_findCases_83 : decode cX12_findCases 83 = .ok (.getfield 138, 3) := by decide +kernel
theorem dX12_findCases_86 : decode cX12_findCases 86 = .ok (.iload_n 3, 1) := by decide +kernel
theorem dX12_findCases_87 : decode cX12_findCases 87 = .ok (.iaload, 1) := by decide +kernel
theorem dX12_findCases_88 : decode cX12_findCases 88 = .ok (.iload 4, 2) := by decide +kernel
theorem dX12_findCases_90 : decode cX12_findCases 90 = .ok (.iload 5, 2) := by decide +kernel
theorem dX12_findCases_92 : decode cX12_findCases 92 = .ok (.invokevirtual 210, 3) := by decide +kernel
theorem dX12_findCases_32 : decode cX12_findCases 32 = .ok (.goto 69, 3) := by decide +kernel
theorem gw_X12_addCase : wsX12_addCase.all goodWord = true := by decide +kernel
theorem gX12_findCases_X12_addCase : GoodIn wsX12_findCases (wsV RX12 210 RX12 yX12_addCase wsX12_addCase) := goodIn_app (goodIn_sub (List.forall_mem_cons.mpr ⟨(List.mem_cons_of_mem _ (List.mem_append_left _ (List.mem_append_left _ lm14))), List.forall_mem_cons.mpr ⟨(List.mem_cons_of_mem _ (List.mem_append_left _ (List.mem_append_left _ lm15))), List.forall_mem_cons.mpr ⟨(List.mem_cons_of_mem _ (List.mem_append_left _ (List.mem_append_left _ lm16))), List.forall_mem_cons.mpr ⟨(List.mem_cons_of_mem _ (List.mem_append_left _ (List.mem_append_left _ lm9))), (fun _ h => absurd h List.not_mem_nil)⟩⟩⟩⟩) (by decide +kernel)) (goodIn_sub (by unfold wsX12_addCase; exact List.forall_mem_cons.mpr ⟨(List.mem_cons_of_mem _ (List.mem_append_left _ (List.mem_append_left _ lm17))), List.forall_mem_append.mpr ⟨List.forall_mem_cons.mpr ⟨(List.mem_cons_of_mem _ (List.mem_append_left _ (List.mem_append_left _ lm18))), List.forall_mem_cons.mpr ⟨(List.mem_cons_of_mem _ (List.mem_append_left _ (List.mem_append_left _ lm19))), List.forall_mem_cons.mpr ⟨(List.mem_cons_of_mem _ (List.mem_append_left _ (List.mem_append_left _ lm20))), List.forall_mem_cons.mpr ⟨(List.mem_cons_of_mem _ (List.mem_append_left _ (List.mem_append_left _ lm21))), List.forall_mem_cons.mpr ⟨(List.mem_cons_of_mem _ (List.mem_append_left _ (List.mem_append_left _ lm22))), List.forall_mem_cons.mpr ⟨(List.mem_cons_of_mem _ (List.mem_append_left _ (List.mem_append_left _ lm23))), List.forall_mem_cons.mpr ⟨(List.mem_cons_of_mem _ (List.mem_append_left _ (List.mem_append_right _ lm0))), List.forall_mem_cons.mpr ⟨(List.mem_cons_of_mem _ (List.mem_append_left _ (List.mem_append_right _ lm1))), List.forall_mem_cons.mpr ⟨(List.mem_cons_of_mem _ (List.mem_append_left _ (List.mem_append_right _ lm2))), (fun _ h => absurd h List.not_mem_nil)⟩⟩⟩⟩⟩⟩⟩⟩⟩, (fun _ h => (List.mem_cons_of_mem _ (List.mem_append_right _ h)))⟩⟩) gw_X12_addCase)
theorem gX12_findCases_X12_firstRow : GoodIn wsX12_findCases (wsV RX12 80 RX12 yX12_firstRow wsX12_firstRow) := goodIn_app (goodIn_sub (List.forall_mem_cons.mpr ⟨(List.mem_cons_of_mem _ (List.mem_append_left _ (List.mem_append_left _ lm6))), List.forall_mem_cons.mpr ⟨(List.mem_cons_of_mem _ (List.mem_append_left _ (List.mem_append_left _ lm7))), List.forall_mem_cons.mpr ⟨(List.mem_cons_of_mem _ (List.mem_append_left _ (List.mem_append_left _ lm8))), List.forall_mem_cons.mpr ⟨(List.mem_cons_of_mem _ (List.mem_append_left _ (List.mem_append_left _ lm9))), (fun _ h => absurd h List.not_mem_nil)⟩⟩⟩⟩) (by decide +kernel)) (goodIn_sub (by unfold wsX12_firstRow; exact List.forall_mem_cons.mpr ⟨(List.mem_cons_of_mem _ (List.mem_append_left _ (List.mem_append_left _ lm10))), List.forall_mem_append.mpr ⟨List.forall_mem_cons.mpr ⟨(List.mem_cons_of_mem _ (List.mem_append_left _ (List.mem_append_left _ lm4))), List.forall_mem_cons.mpr ⟨(List.mem_cons_of_mem _ (List.mem_append_left _ (List.mem_append_left _ lm3))), List.forall_mem_cons.mpr ⟨(List.mem_cons_of_mem _ (List.mem_append_left _ (List.mem_append_left _ lm11))), List.forall_mem_cons.mpr ⟨(List.mem_cons_of_mem _ (List.mem_append_left _ (List.mem_append_left _ lm12))), List.forall_mem_cons.mpr ⟨(List.mem_cons_of_mem _ (List.mem_append_left _ (List.mem_append_left _ lm9))), List.forall_mem_cons.mpr ⟨(List.mem_cons_of_mem _ (List.mem_append_left _ (List.mem_append_left _ lm13))), (fun _ h => absurd h List.not_mem_nil)⟩⟩⟩⟩⟩⟩, (fun _ h => (List.mem_cons_of_mem _ (List.mem_append_right _ h)))⟩⟩) gw_X12_firstRow)
set_option maxHeartbeats 2000000 in
set_option maxRecDepth 100000 in
theorem m_forget (l : Launch) (D : va_G) (g : Nat → Nat) (ka : Nat → ClassId) (ad : Nat → Nat) (i : Nat → Nat → Int32) (r : Nat → Nat → Nat) (L : Nat → Nat → Int64) (d : Nat → Nat → UInt64)  (hO : OkI i) (hR : RS r) (sz : Nat)  : Met l yX12_forget wsX12_forget ({ frames := 0, cells := 0, slots := 0, locals := 0 }) (va_Pc [.ref (g 36)] (sj_B D (hwc g ka i r L d) (hT ka) sz (gx ad (va_A (hwc g ka i r L d) sz)))) (sj_Qv (S := (Nat → Nat → Int32)) D (fun u => OkI u ∧ (∀ a b, ¬ ((a = 36 ∧ (b = 6 ∨ b = 8 ∨ b = 9 ∨ b = 10 ∨ b = 11 ∨ b = 13 ∨ b = 17 ∨ b = 23 ∨ b = 26 ∨ b = 33))) → u a b = i a b) ∧ ((u 36 6).toInt = 0 ∧ (u 36 8).toInt = 0 ∧ (u 36 9).toInt = 0 ∧ (u 36 10).toInt = 0 ∧ (u 36 11).toInt = 0 ∧ (u 36 13).toInt = 0 ∧ (u 36 17).toInt = 0 ∧ (u 36 23).toInt = 0 ∧ (u 36 26).toInt = 0 ∧ (u 36 33).toInt = 0)) (fun u => hwc g ka u r L d) (fun _ => []) (va_A (hwc g ka i r L d) sz)) 0 0 (va_A (hwc g ka i r L d) sz) := by
  refine x_met (Ex := gx ad) (cc := cX12_forget) (maxL := 1) (ret := none) (by decide) rfl (Nat.le_of_ble_eq_true rfl) ?_
  intro p e s m below meth c A ls hx hb hr hml hts hown hlocks hA hS hH hK hE hl
  have hown : s.vm.findClass RX12 = some m.cls := hown
  have in12 : ∀ w ∈ wsX120, w ∈ wsX12_forget := (fun _ h => (List.mem_cons_of_mem _ (List.mem_append_right _ h)))
  have wd0 := hts (.fieldLink RX12 57 "StoryDeskModel" "wrongs" "I") (List.mem_cons_of_mem _ (List.mem_append_left _ lm0))
  have wd1 := hts (.fieldLink RX12 50 "StoryDeskModel" "state" "I") (List.mem_cons_of_mem _ (List.mem_append_left _ lm1))
  have wd2 := hts (.fieldLink RX12 64 "StoryDeskModel" "pending" "I") (List.mem_cons_of_mem _ (List.mem_append_left _ lm2))
  have wd3 := hts (.fieldLink RX12 46 "StoryDeskModel" "tagged" "Z") (List.mem_cons_of_mem _ (List.mem_append_left _ lm3))
  have wd4 := hts (.fieldLink RX12 117 "StoryDeskModel" "groups" "I") (List.mem_cons_of_mem _ (List.mem_append_left _ lm4))
  have wd5 := hts (.fieldLink RX12 120 "StoryDeskModel" "scenarios" "I") (List.mem_cons_of_mem _ (List.mem_append_left _ lm5))
  have wd6 := hts (.fieldLink RX12 99 "StoryDeskModel" "steps" "I") (List.mem_cons_of_mem _ (List.mem_append_left _ lm6))
  have wd7 := hts (.fieldLink RX12 123 "StoryDeskModel" "examples" "I") (List.mem_cons_of_mem _ (List.mem_append_left _ lm7))
  have wd8 := hts (.fieldLink RX12 70 "StoryDeskModel" "rows" "I") (List.mem_cons_of_mem _ (List.mem_append_left _ lm8))
  have wd9 := hts (.fieldLink RX12 165 "StoryDeskModel" "cases" "I") (List.mem_cons_of_mem _ (List.mem_append_left _ lm9))
  have hl : lv_has ls 1 [(0, .ref (g 36))] := hl
  have hK : va_K D vwCl (hT ka) s := hK
  refine lv_aload_n hx hb dX12_forget_0 rfl (lv_at hl 0 rfl) ?_
  refine lv_iconst (v := 0) hx hb dX12_forget_1 (by decide) ?_
  have hO_1 := okp hO (n := 36) (k := 6) (v := 0) (show (0 : Int) ≤ (0 : Int32).toInt ∧ (0 : Int32).toInt ≤ 20 from ⟨by decide, by decide⟩)
  refine h_puti (ty := .int) (ci := 12) (C := RX12) (F := TX12) (N := 86) hx hb hts in12 tyX12 tyX12_ok nmX12 hown hK hH hS (by decide) (rfl : kd 36 = 12) (by decide) rfl 6 (by decide) wd0 (fun _ h9 => h9) rfl (by decide +kernel) rfl rfl (by decide) rfl dX12_forget_2 (fun H locs hH hS => ?_)
  refine lv_aload_n hx hb dX12_forget_5 rfl (lv_at hl 0 rfl) ?_
  refine lv_iconst (v := 0) hx hb dX12_forget_6 (by decide) ?_
  have hO_2 := okp hO_1 (n := 36) (k := 8) (v := 0) (show (0 : Int) ≤ (0 : Int32).toInt ∧ (0 : Int32).toInt ≤ 8 from ⟨by decide, by decide⟩)
  refine h_puti (ty := .int) (ci := 12) (C := RX12) (F := TX12) (N := 86) hx hb hts in12 tyX12 tyX12_ok nmX12 hown hK hH hS (by decide) (rfl : kd 36 = 12) (by decide) rfl 8 (by decide) wd1 (fun _ h9 => h9) rfl (by decide +kernel) rfl rfl (by decide) rfl dX12_forget_7 (fun H locs hH hS => ?_)
  refine lv_aload_n hx hb dX12_forget_10 rfl (lv_at hl 0 rfl) ?_
  refine lv_iconst (v := 0) hx hb dX12_forget_11 (by decide) ?_
  have hO_3 := okp hO_2 (n := 36) (k := 9) (v := 0) (show (0 : Int) ≤ (0 : Int32).toInt ∧ (0 : Int32).toInt ≤ 65535 from ⟨by decide, by decide⟩)
  refine h_puti (ty := .int) (ci := 12) (C := RX12) (F := TX12) (N := 86) hx hb hts in12 tyX12 tyX12_ok nmX12 hown hK hH hS (by decide) (rfl : kd 36 = 12) (by decide) rfl 9 (by decide) wd2 (fun _ h9 => h9) rfl (by decide +kernel) rfl rfl (by decide) rfl dX12_forget_12 (fun H locs hH hS => ?_)
  refine lv_aload_n hx hb dX12_forget_15 rfl (lv_at hl 0 rfl) ?_
  refine lv_iconst (v := 0) hx hb dX12_forget_16 (by decide) ?_
  have hO_4 := okp hO_3 (n := 36) (k := 10) (v := 0) (show (0 : Int) ≤ (0 : Int32).toInt ∧ (0 : Int32).toInt ≤ 1 from ⟨by decide, by decide⟩)
  refine h_puti (ty := .boolean) (ci := 12) (C := RX12) (F := TX12) (N := 86) hx hb hts in12 tyX12 tyX12_ok nmX12 hown hK hH hS (by decide) (rfl : kd 36 = 12) (by decide) rfl 10 (by decide) wd3 (fun _ h9 => h9) rfl (by decide +kernel) (by decide +kernel) (by decide +kernel) (by decide) rfl dX12_forget_17 (fun H locs hH hS => ?_)
  refine lv_aload_n hx hb dX12_forget_20 rfl (lv_at hl 0 rfl) ?_
  refine lv_iconst (v := 0) hx hb dX12_forget_21 (by decide) ?_
  have hO_5 := okp hO_4 (n := 36) (k := 11) (v := 0) (show (0 : Int) ≤ (0 : Int32).toInt ∧ (0 : Int32).toInt ≤ 5 from ⟨by decide, by decide⟩)
  refine h_puti (ty := .int) (ci := 12) (C := RX12) (F := TX12) (N := 86) hx hb hts in12 tyX12 tyX12_ok nmX12 hown hK hH hS (by decide) (rfl : kd 36 = 12) (by decide) rfl 11 (by decide) wd4 (fun _ h9 => h9) rfl (by decide +kernel) rfl rfl (by decide) rfl dX12_forget_22 (fun H locs hH hS => ?_)
  refine lv_aload_n hx hb dX12_forget_25 rfl (lv_at hl 0 rfl) ?_
  refine lv_iconst (v := 0) hx hb dX12_forget_26 (by decide) ?_
  have hO_6 := okp hO_5 (n := 36) (k := 13) (v := 0) (show (0 : Int) ≤ (0 : Int32).toInt ∧ (0 : Int32).toInt ≤ 12 from ⟨by decide, by decide⟩)
  refine h_puti (ty := .int) (ci := 12) (C := RX12) (F := TX12) (N := 86) hx hb hts in12 tyX12 tyX12_ok nmX12 hown hK hH hS (by decide) (rfl : kd 36 = 12) (by decide) rfl 13 (by decide) wd5 (fun _ h9 => h9) rfl (by decide +kernel) rfl rfl (by decide) rfl dX12_forget_27 (fun H locs hH hS => ?_)
  refine lv_aload_n hx hb dX12_forget_30 rfl (lv_at hl 0 rfl) ?_
  refine lv_iconst (v := 0) hx hb dX12_forget_31 (by decide) ?_
  have hO_7 := okp hO_6 (n := 36) (k := 17) (v := 0) (show (0 : Int) ≤ (0 : Int32).toInt ∧ (0 : Int32).toInt ≤ 30 from ⟨by decide, by decide⟩)
  refine h_puti (ty := .int) (ci := 12) (C := RX12) (F := TX12) (N := 86) hx hb hts in12 tyX12 tyX12_ok nmX12 hown hK hH hS (by decide) (rfl : kd 36 = 12) (by decide) rfl 17 (by decide) wd6 (fun _ h9 => h9) rfl (by decide +kernel) rfl rfl (by decide) rfl dX12_forget_32 (fun H locs hH hS => ?_)
  refine lv_aload_n hx hb dX12_forget_35 rfl (lv_at hl 0 rfl) ?_
  refine lv_iconst (v := 0) hx hb dX12_forget_36 (by decide) ?_
  have hO_8 := okp hO_7 (n := 36) (k := 23) (v := 0) (show (0 : Int) ≤ (0 : Int32).toInt ∧ (0 : Int32).toInt ≤ 12 from ⟨by decide, by decide⟩)
  refine h_puti (ty := .int) (ci := 12) (C := RX12) (F := TX12) (N := 86) hx hb hts in12 tyX12 tyX12_ok nmX12 hown hK hH hS (by decide) (rfl : kd 36 = 12) (by decide) rfl 23 (by decide) wd7 (fun _ h9 => h9) rfl (by decide +kernel) rfl rfl (by decide) rfl dX12_forget_37 (fun H locs hH hS => ?_)
  refine lv_aload_n hx hb dX12_forget_40 rfl (lv_at hl 0 rfl) ?_
  refine lv_iconst (v := 0) hx hb dX12_forget_41 (by decide) ?_
  have hO_9 := okp hO_8 (n := 36) (k := 26) (v := 0) (show (0 : Int) ≤ (0 : Int32).toInt ∧ (0 : Int32).toInt ≤ 40 from ⟨by decide, by decide⟩)
  refine h_puti (ty := .int) (ci := 12) (C := RX12) (F := TX12) (N := 86) hx hb hts in12 tyX12 tyX12_ok nmX12 hown hK hH hS (by decide) (rfl : kd 36 = 12) (by decide) rfl 26 (by decide) wd8 (fun _ h9 => h9) rfl (by decide +kernel) rfl rfl (by decide) rfl dX12_forget_42 (fun H locs hH hS => ?_)
  refine lv_aload_n hx hb dX12_forget_45 rfl (lv_at hl 0 rfl) ?_
  refine lv_iconst (v := 0) hx hb dX12_forget_46 (by decide) ?_
  have hO_10 := okp hO_9 (n := 36) (k := 33) (v := 0) (show (0 : Int) ≤ (0 : Int32).toInt ∧ (0 : Int32).toInt ≤ 24 from ⟨by decide, by decide⟩)
  refine h_puti (ty := .int) (ci := 12) (C := RX12) (F := TX12) (N := 86) hx hb hts in12 tyX12 tyX12_ok nmX12 hown hK hH hS (by decide) (rfl : kd 36 = 12) (by decide) rfl 33 (by decide) wd9 (fun _ h9 => h9) rfl (by decide +kernel) rfl rfl (by decide) rfl dX12_forget_47 (fun H locs hH hS => ?_)
  have hp_11 : ((up2 (up2 (up2 (up2 (up2 (up2 (up2 (up2 (up2 (up2 i 36 6 0) 36 8 0) 36 9 0) 36 10 0) 36 11 0) 36 13 0) 36 17 0) 36 23 0) 36 26 0) 36 33 0) 36 6).toInt = (0 : Int32).toInt := congrArg Int32.toInt (((up2_k _ _ (by decide)).trans ((up2_k _ _ (by decide)).trans ((up2_k _ _ (by decide)).trans ((up2_k _ _ (by decide)).trans ((up2_k _ _ (by decide)).trans ((up2_k _ _ (by decide)).trans ((up2_k _ _ (by decide)).trans ((up2_k _ _ (by decide)).trans ((up2_k _ _ (by decide)).trans (up2_at _ _ _ _)))))))))))
  have hl_12 : (0 : Int32).toInt = 0 := rfl
  have hp_13 : ((up2 (up2 (up2 (up2 (up2 (up2 (up2 (up2 (up2 (up2 i 36 6 0) 36 8 0) 36 9 0) 36 10 0) 36 11 0) 36 13 0) 36 17 0) 36 23 0) 36 26 0) 36 33 0) 36 8).toInt = (0 : Int32).toInt := congrArg Int32.toInt (((up2_k _ _ (by decide)).trans ((up2_k _ _ (by decide)).trans ((up2_k _ _ (by decide)).trans ((up2_k _ _ (by decide)).trans ((up2_k _ _ (by decide)).trans ((up2_k _ _ (by decide)).trans ((up2_k _ _ (by decide)).trans ((up2_k _ _ (by decide)).trans (up2_at _ _ _ _))))))))))
  have hl_14 : (0 : Int32).toInt = 0 := rfl
  have hp_15 : ((up2 (up2 (up2 (up2 (up2 (up2 (up2 (up2 (up2 (up2 i 36 6 0) 36 8 0) 36 9 0) 36 10 0) 36 11 0) 36 13 0) 36 17 0) 36 23 0) 36 26 0) 36 33 0) 36 9).toInt = (0 : Int32).toInt := congrArg Int32.toInt (((up2_k _ _ (by decide)).trans ((up2_k _ _ (by decide)).trans ((up2_k _ _ (by decide)).trans ((up2_k _ _ (by decide)).trans ((up2_k _ _ (by decide)).trans ((up2_k _ _ (by decide)).trans ((up2_k _ _ (by decide)).trans (up2_at _ _ _ _)))))))))
  have hl_16 : (0 : Int32).toInt = 0 := rfl
  have hp_17 : ((up2 (up2 (up2 (up2 (up2 (up2 (up2 (up2 (up2 (up2 i 36 6 0) 36 8 0) 36 9 0) 36 10 0) 36 11 0) 36 13 0) 36 17 0) 36 23 0) 36 26 0) 36 33 0) 36 10).toInt = (0 : Int32).toInt := congrArg Int32.toInt (((up2_k _ _ (by decide)).trans ((up2_k _ _ (by decide)).trans ((up2_k _ _ (by decide)).trans ((up2_k _ _ (by decide)).trans ((up2_k _ _ (by decide)).trans ((up2_k _ _ (by decide)).trans (up2_at _ _ _ _))))))))
  have hl_18 : (0 : Int32).toInt = 0 := rfl
  have hp_19 : ((up2 (up2 (up2 (up2 (up2 (up2 (up2 (up2 (up2 (up2 i 36 6 0) 36 8 0) 36 9 0) 36 10 0) 36 11 0) 36 13 0) 36 17 0) 36 23 0) 36 26 0) 36 33 0) 36 11).toInt = (0 : Int32).toInt := congrArg Int32.toInt (((up2_k _ _ (by decide)).trans ((up2_k _ _ (by decide)).trans ((up2_k _ _ (by decide)).trans ((up2_k _ _ (by decide)).trans ((up2_k _ _ (by decide)).trans (up2_at _ _ _ _)))))))
  have hl_20 : (0 : Int32).toInt = 0 := rfl
  have hp_21 : ((up2 (up2 (up2 (up2 (up2 (up2 (up2 (up2 (up2 (up2 i 36 6 0) 36 8 0) 36 9 0) 36 10 0) 36 11 0) 36 13 0) 36 17 0) 36 23 0) 36 26 0) 36 33 0) 36 13).toInt = (0 : Int32).toInt := congrArg Int32.toInt (((up2_k _ _ (by decide)).trans ((up2_k _ _ (by decide)).trans ((up2_k _ _ (by decide)).trans ((up2_k _ _ (by decide)).trans (up2_at _ _ _ _))))))
  have hl_22 : (0 : Int32).toInt = 0 := rfl
  have hp_23 : ((up2 (up2 (up2 (up2 (up2 (up2 (up2 (up2 (up2 (up2 i 36 6 0) 36 8 0) 36 9 0) 36 10 0) 36 11 0) 36 13 0) 36 17 0) 36 23 0) 36 26 0) 36 33 0) 36 17).toInt = (0 : Int32).toInt := congrArg Int32.toInt (((up2_k _ _ (by decide)).trans ((up2_k _ _ (by decide)).trans ((up2_k _ _ (by decide)).trans (up2_at _ _ _ _)))))
  have hl_24 : (0 : Int32).toInt = 0 := rfl
  have hp_25 : ((up2 (up2 (up2 (up2 (up2 (up2 (up2 (up2 (up2 (up2 i 36 6 0) 36 8 0) 36 9 0) 36 10 0) 36 11 0) 36 13 0) 36 17 0) 36 23 0) 36 26 0) 36 33 0) 36 23).toInt = (0 : Int32).toInt := congrArg Int32.toInt (((up2_k _ _ (by decide)).trans ((up2_k _ _ (by decide)).trans (up2_at _ _ _ _))))
  have hl_26 : (0 : Int32).toInt = 0 := rfl
  have hp_27 : ((up2 (up2 (up2 (up2 (up2 (up2 (up2 (up2 (up2 (up2 i 36 6 0) 36 8 0) 36 9 0) 36 10 0) 36 11 0) 36 13 0) 36 17 0) 36 23 0) 36 26 0) 36 33 0) 36 26).toInt = (0 : Int32).toInt := congrArg Int32.toInt (((up2_k _ _ (by decide)).trans (up2_at _ _ _ _)))
  have hl_28 : (0 : Int32).toInt = 0 := rfl
  have hp_29 : ((up2 (up2 (up2 (up2 (up2 (up2 (up2 (up2 (up2 (up2 i 36 6 0) 36 8 0) 36 9 0) 36 10 0) 36 11 0) 36 13 0) 36 17 0) 36 23 0) 36 26 0) 36 33 0) 36 33).toInt = (0 : Int32).toInt := congrArg Int32.toInt ((up2_at _ _ _ _))
  have hl_30 : (0 : Int32).toInt = 0 := rfl
  have hV_31 : ((up2 (up2 (up2 (up2 (up2 (up2 (up2 (up2 (up2 (up2 i 36 6 0) 36 8 0) 36 9 0) 36 10 0) 36 11 0) 36 13 0) 36 17 0) 36 23 0) 36 26 0) 36 33 0) 36 6).toInt = 0 ∧ ((up2 (up2 (up2 (up2 (up2 (up2 (up2 (up2 (up2 (up2 i 36 6 0) 36 8 0) 36 9 0) 36 10 0) 36 11 0) 36 13 0) 36 17 0) 36 23 0) 36 26 0) 36 33 0) 36 8).toInt = 0 ∧ ((up2 (up2 (up2 (up2 (up2 (up2 (up2 (up2 (up2 (up2 i 36 6 0) 36 8 0) 36 9 0) 36 10 0) 36 11 0) 36 13 0) 36 17 0) 36 23 0) 36 26 0) 36 33 0) 36 9).toInt = 0 ∧ ((up2 (up2 (up2 (up2 (up2 (up2 (up2 (up2 (up2 (up2 i 36 6 0) 36 8 0) 36 9 0) 36 10 0) 36 11 0) 36 13 0) 36 17 0) 36 23 0) 36 26 0) 36 33 0) 36 10).toInt = 0 ∧ ((up2 (up2 (up2 (up2 (up2 (up2 (up2 (up2 (up2 (up2 i 36 6 0) 36 8 0) 36 9 0) 36 10 0) 36 11 0) 36 13 0) 36 17 0) 36 23 0) 36 26 0) 36 33 0) 36 11).toInt = 0 ∧ ((up2 (up2 (up2 (up2 (up2 (up2 (up2 (up2 (up2 (up2 i 36 6 0) 36 8 0) 36 9 0) 36 10 0) 36 11 0) 36 13 0) 36 17 0) 36 23 0) 36 26 0) 36 33 0) 36 13).toInt = 0 ∧ ((up2 (up2 (up2 (up2 (up2 (up2 (up2 (up2 (up2 (up2 i 36 6 0) 36 8 0) 36 9 0) 36 10 0) 36 11 0) 36 13 0) 36 17 0) 36 23 0) 36 26 0) 36 33 0) 36 17).toInt = 0 ∧ ((up2 (up2 (up2 (up2 (up2 (up2 (up2 (up2 (up2 (up2 i 36 6 0) 36 8 0) 36 9 0) 36 10 0) 36 11 0) 36 13 0) 36 17 0) 36 23 0) 36 26 0) 36 33 0) 36 23).toInt = 0 ∧ ((up2 (up2 (up2 (up2 (up2 (up2 (up2 (up2 (up2 (up2 i 36 6 0) 36 8 0) 36 9 0) 36 10 0) 36 11 0) 36 13 0) 36 17 0) 36 23 0) 36 26 0) 36 33 0) 36 26).toInt = 0 ∧ ((up2 (up2 (up2 (up2 (up2 (up2 (up2 (up2 (up2 (up2 i 36 6 0) 36 8 0) 36 9 0) 36 10 0) 36 11 0) 36 13 0) 36 17 0) 36 23 0) 36 26 0) 36 33 0) 36 33).toInt = 0 := ⟨by omega, by omega, by omega, by omega, by omega, by omega, by omega, by omega, by omega, by omega⟩
  exact sj_vret hx hb hr hlocks hS (up2 (up2 (up2 (up2 (up2 (up2 (up2 (up2 (up2 (up2 i 36 6 0) 36 8 0) 36 9 0) 36 10 0) 36 11 0) 36 13 0) 36 17 0) 36 23 0) 36 26 0) 36 33 0) ⟨hO_10, (fun a b ha => ((up2_o _ _ (by omega)).trans ((up2_o _ _ (by omega)).trans ((up2_o _ _ (by omega)).trans ((up2_o _ _ (by omega)).trans ((up2_o _ _ (by omega)).trans ((up2_o _ _ (by omega)).trans ((up2_o _ _ (by omega)).trans ((up2_o _ _ (by omega)).trans ((up2_o _ _ (by omega)).trans (up2_o _ _ (by omega)))))))))))), hV_31⟩ hH (sj_Knil hK) (Nat.le_of_ble_eq_true rfl) (Nat.le_of_ble_eq_true rfl) dX12_forget_50
set_option maxHeartbeats 2000000 in
set_option maxRecDepth 100000 in
theorem m_addCase (l : Launch) (D : va_G) (g : Nat → Nat) (ka : Nat → ClassId) (ad : Nat → Nat) (i : Nat → Nat → Int32) (r : Nat → Nat → Nat) (L : Nat → Nat → Int64) (d : Nat → Nat → UInt64) (x : Int32) (y : Int32) (z : Int32) (v4 : Int32) (hO : OkI i) (hR : RS r) (sz : Nat) (hx0 : 0 ≤ x.toInt) (hx1 : x.toInt ≤ 11) (hy0 : 0 ≤ y.toInt) (hy1 : y.toInt ≤ 65535) (hz0 : -1 ≤ z.toInt) (hz1 : z.toInt ≤ 39) (hv0 : -1 ≤ v4.toInt) (hv1 : v4.toInt ≤ 39) (hnr : NR i) (hzv : z.toInt < 0 ∨ 0 ≤ v4.toInt) : Met l yX12_addCase wsX12_addCase ({ frames := 0, cells := 0, slots := 0, locals := 0 }) (va_Pc [.ref (g 36), .int x, .int y, .int z, .int v4] (sj_B D (hwc g ka i r L d) (hT ka) sz (gx ad (va_A (hwc g ka i r L d) sz)))) (sj_Qv (S := (Nat → Nat → Int32)) D (fun u => OkI u ∧ (∀ a b, ¬ ((a = 36 ∧ (b = 33)) ∨ a = 397 ∨ a = 398 ∨ a = 399 ∨ a = 400 ∨ a = 401) → u a b = i a b) ∧ (((i 36 33).toInt = 24 ∧ u = i) ∨ ((i 36 33).toInt < 24 ∧ (u 36 33).toInt = (i 36 33).toInt + 1 ∧ (u 397 (i 36 33).toInt.toNat).toInt = x.toInt ∧ u 400 (i 36 33).toInt.toNat = y ||| i 383 x.toInt.toNat ||| i 382 (i 385 x.toInt.toNat).toInt.toNat ||| i 382 0 ∧ ∀ k : Nat, k ≠ (i 36 33).toInt.toNat → u 397 k = i 397 k ∧ u 400 k = i 400 k)) ∧ (NR u)) (fun u => hwc g ka u r L d) (fun _ => []) (va_A (hwc g ka i r L d) sz)) 0 0 (va_A (hwc g ka i r L d) sz) := by
  refine x_met (Ex := gx ad) (cc := cX12_addCase) (maxL := 6) (ret := none) (by decide) rfl (Nat.le_of_ble_eq_true rfl) ?_
  intro p e s m below meth c A ls hx hb hr hml hts hown hlocks hA hS hH hK hE hl
  have hown : s.vm.findClass RX12 = some m.cls := hown
  have in12 : ∀ w ∈ wsX120, w ∈ wsX12_addCase := (fun _ h => (List.mem_cons_of_mem _ (List.mem_append_right _ h)))
  have wd0 := hts (.fieldLink RX12 165 "StoryDeskModel" "cases" "I") (List.mem_cons_of_mem _ (List.mem_append_left _ lm0))
  have wd1 := hts (.fieldLink RX12 135 "StoryDeskModel" "scenarioGroup" "[I") (List.mem_cons_of_mem _ (List.mem_append_left _ lm1))
  have wd2 := hts (.fieldLink RX12 195 "StoryDeskModel" "caseScenario" "[I") (List.mem_cons_of_mem _ (List.mem_append_left _ lm2))
  have wd3 := hts (.fieldLink RX12 198 "StoryDeskModel" "caseNames" "[I") (List.mem_cons_of_mem _ (List.mem_append_left _ lm3))
  have wd4 := hts (.fieldLink RX12 201 "StoryDeskModel" "caseRow" "[I") (List.mem_cons_of_mem _ (List.mem_append_left _ lm4))
  have wd5 := hts (.fieldLink RX12 204 "StoryDeskModel" "caseTags" "[I") (List.mem_cons_of_mem _ (List.mem_append_left _ lm5))
  have wd6 := hts (.fieldLink RX12 129 "StoryDeskModel" "scenarioTags" "[I") (List.mem_cons_of_mem _ (List.mem_append_left _ lm6))
  have wd7 := hts (.fieldLink RX12 126 "StoryDeskModel" "groupTags" "[I") (List.mem_cons_of_mem _ (List.mem_append_left _ lm7))
  have wd8 := hts (.fieldLink RX12 207 "StoryDeskModel" "caseStatus" "[I") (List.mem_cons_of_mem _ (List.mem_append_left _ lm8))
  have hl : lv_has ls 6 [(0, .ref (g 36)), (1, .int x), (2, .int y), (3, .int z), (4, .int v4)] := hl
  have hK : va_K D vwCl (hT ka) s := hK
  have hb33 : (0 : Int) ≤ (i 36 33).toInt ∧ (i 36 33).toInt ≤ 24 := hO 36 33
  refine lv_aload_n hx hb dX12_addCase_0 rfl (lv_at hl 0 rfl) ?_
  have bx_1 : (0 : Int) ≤ (i 36 33).toInt ∧ (i 36 33).toInt ≤ 24 := hO 36 33
  refine h_geti (ci := 12) (C := RX12) (F := TX12) (N := 86) hx hb hts in12 hown hK hH (by decide) (rfl : kd 36 = 12) (by decide) rfl 33 (by decide) wd0 (fun _ h9 => h9) (by decide) rfl dX12_addCase_1 ?_
  refine lv_bipush (v := 24) hx hb dX12_addCase_4 (by decide) ?_
  refine lv_icmp_ne (tgt := 10) hx hb dX12_addCase_6 (by decide) (fun c_2 => ?_) (fun c_2 => ?_)
  · skip
    have h_3 := s_ne (rfl : (i 36 33).toInt = _) (show (24 : Int32).toInt = 24 from rfl) c_2
    refine lv_aload_n hx hb dX12_addCase_10 rfl (lv_at hl 0 rfl) ?_
    refine h_getr (ci := 12) (C := RX12) (F := TX12) (N := 86) hx hb hts in12 hown hK hH (by decide) (rfl : kd 36 = 12) (by decide) rfl 16 (by decide) wd1 (fun _ h9 => h9) (by decide) rfl (t := 385) (hR 36 16 rfl) (by decide) dX12_addCase_11 ?_
    refine lv_iload_n hx hb dX12_addCase_14 rfl (lv_at hl 1 rfl) ?_
    have bx_4 : (0 : Int) ≤ (i 385 (x.toInt).toNat).toInt ∧ (i 385 (x.toInt).toNat).toInt ≤ 4 := hO 385 (x.toInt).toNat
    refine h_iald hx hb hK hH (by decide) (rfl : kd 385 = 13) (s_vin (N := 12) (rfl : x.toInt = _) (rfl : ln 385 = 12) (by omega) (by omega)) dX12_addCase_15 ?_
    have ek_5 : x.toNatClampNeg = (x.toInt).toNat := (s_cl (show x.toInt = x.toInt by omega))
    refine sj_i (y := (i 385 (x.toInt).toNat)) (by rw [ek_5]) ?_
    refine lv_istore (lv' := [(5, .int (i 385 (x.toInt).toNat)), (0, .ref (g 36)), (1, .int x), (2, .int y), (3, .int z), (4, .int v4)]) hx hb dX12_addCase_16 hl (by decide) rfl (fun ls hl => ?_)
    refine lv_aload_n hx hb dX12_addCase_18 rfl (lv_at hl 1 rfl) ?_
    refine h_getr (ci := 12) (C := RX12) (F := TX12) (N := 86) hx hb hts in12 hown hK hH (by decide) (rfl : kd 36 = 12) (by decide) rfl 34 (by decide) wd2 (fun _ h9 => h9) (by decide) rfl (t := 397) (hR 36 34 rfl) (by decide) dX12_addCase_19 ?_
    refine lv_aload_n hx hb dX12_addCase_22 rfl (lv_at hl 1 rfl) ?_
    refine h_geti (ci := 12) (C := RX12) (F := TX12) (N := 86) hx hb hts in12 hown hK hH (by decide) (rfl : kd 36 = 12) (by decide) rfl 33 (by decide) wd0 (fun _ h9 => h9) (by decide) rfl dX12_addCase_23 ?_
    refine lv_iload_n hx hb dX12_addCase_26 rfl (lv_at hl 2 rfl) ?_
    have hO_6 := okp hO (n := 397) (k := ((i 36 33).toInt).toNat) (v := x) (show (0 : Int) ≤ (x : Int32).toInt ∧ (x : Int32).toInt ≤ 11 from ⟨by omega, by omega⟩)
    refine h_iast hx hb hK hH hS (by decide) (rfl : kd 397 = 13) (s_vin (N := 24) (rfl : (i 36 33).toInt = _) (rfl : ln 397 = 24) (by omega) (by omega)) dX12_addCase_27 (fun H locs hH hS => ?_)
    rw [s_cl (show (i 36 33).toInt = (i 36 33).toInt by omega)] at hH
    refine lv_aload_n hx hb dX12_addCase_28 rfl (lv_at hl 1 rfl) ?_
    refine h_getr (ci := 12) (C := RX12) (F := TX12) (N := 86) hx hb hts in12 hown hK hH (by decide) (rfl : kd 36 = 12) (by decide) rfl 36 (by decide) wd3 (fun _ h9 => h9) (by decide) rfl (t := 399) (hR 36 36 rfl) (by decide) dX12_addCase_29 ?_
    refine lv_aload_n hx hb dX12_addCase_32 rfl (lv_at hl 1 rfl) ?_
    refine h_geti (ci := 12) (C := RX12) (F := TX12) (N := 86) hx hb hts in12 hown hK hH (by decide) (rfl : kd 36 = 12) (by decide) rfl 33 (by decide) wd0 (fun _ h9 => h9) (by decide) rfl dX12_addCase_33 ?_
    refine sj_i (y := (i 36 33)) (congrFun (up2_n _ _ (by decide)) _) ?_
    refine lv_iload_n hx hb dX12_addCase_36 rfl (lv_at hl 4 rfl) ?_
    have hO_7 := okp hO_6 (n := 399) (k := ((i 36 33).toInt).toNat) (v := z) (show (-1 : Int) ≤ (z : Int32).toInt ∧ (z : Int32).toInt ≤ 39 from ⟨by omega, by omega⟩)
    refine h_iast hx hb hK hH hS (by decide) (rfl : kd 399 = 13) (s_vin (N := 24) (rfl : (i 36 33).toInt = _) (rfl : ln 399 = 24) (by omega) (by omega)) dX12_addCase_37 (fun H locs hH hS => ?_)
    rw [s_cl (show (i 36 33).toInt = (i 36 33).toInt by omega)] at hH
    refine lv_aload_n hx hb dX12_addCase_38 rfl (lv_at hl 1 rfl) ?_
    refine h_getr (ci := 12) (C := RX12) (F := TX12) (N := 86) hx hb hts in12 hown hK hH (by decide) (rfl : kd 36 = 12) (by decide) rfl 35 (by decide) wd4 (fun _ h9 => h9) (by decide) rfl (t := 398) (hR 36 35 rfl) (by decide) dX12_addCase_39 ?_
    refine lv_aload_n hx hb dX12_addCase_42 rfl (lv_at hl 1 rfl) ?_
    refine h_geti (ci := 12) (C := RX12) (F := TX12) (N := 86) hx hb hts in12 hown hK hH (by decide) (rfl : kd 36 = 12) (by decide) rfl 33 (by decide) wd0 (fun _ h9 => h9) (by decide) rfl dX12_addCase_43 ?_
    refine sj_i (y := (i 36 33)) ((congrFun (up2_n _ _ (by decide)) _).trans (congrFun (up2_n _ _ (by decide)) _)) ?_
    refine lv_iload hx hb dX12_addCase_46 (lv_at hl 5 rfl) ?_
    have hO_8 := okp hO_7 (n := 398) (k := ((i 36 33).toInt).toNat) (v := v4) (show (-1 : Int) ≤ (v4 : Int32).toInt ∧ (v4 : Int32).toInt ≤ 39 from ⟨by omega, by omega⟩)
    refine h_iast hx hb hK hH hS (by decide) (rfl : kd 398 = 13) (s_vin (N := 24) (rfl : (i 36 33).toInt = _) (rfl : ln 398 = 24) (by omega) (by omega)) dX12_addCase_48 (fun H locs hH hS => ?_)
    rw [s_cl (show (i 36 33).toInt = (i 36 33).toInt by omega)] at hH
    refine lv_aload_n hx hb dX12_addCase_49 rfl (lv_at hl 1 rfl) ?_
    refine h_getr (ci := 12) (C := RX12) (F := TX12) (N := 86) hx hb hts in12 hown hK hH (by decide) (rfl : kd 36 = 12) (by decide) rfl 37 (by decide) wd5 (fun _ h9 => h9) (by decide) rfl (t := 400) (hR 36 37 rfl) (by decide) dX12_addCase_50 ?_
    refine lv_aload_n hx hb dX12_addCase_53 rfl (lv_at hl 1 rfl) ?_
    refine h_geti (ci := 12) (C := RX12) (F := TX12) (N := 86) hx hb hts in12 hown hK hH (by decide) (rfl : kd 36 = 12) (by decide) rfl 33 (by decide) wd0 (fun _ h9 => h9) (by decide) rfl dX12_addCase_54 ?_
    refine sj_i (y := (i 36 33)) ((congrFun (up2_n _ _ (by decide)) _).trans ((congrFun (up2_n _ _ (by decide)) _).trans (congrFun (up2_n _ _ (by decide)) _))) ?_
    refine lv_iload_n hx hb dX12_addCase_57 rfl (lv_at hl 3 rfl) ?_
    refine lv_aload_n hx hb dX12_addCase_58 rfl (lv_at hl 1 rfl) ?_
    refine h_getr (ci := 12) (C := RX12) (F := TX12) (N := 86) hx hb hts in12 hown hK hH (by decide) (rfl : kd 36 = 12) (by decide) rfl 14 (by decide) wd6 (fun _ h9 => h9) (by decide) rfl (t := 383) (hR 36 14 rfl) (by decide) dX12_addCase_59 ?_
    refine lv_iload_n hx hb dX12_addCase_62 rfl (lv_at hl 2 rfl) ?_
    have bx_9 : (0 : Int) ≤ (i 383 (x.toInt).toNat).toInt ∧ (i 383 (x.toInt).toNat).toInt ≤ 65535 := hO 383 (x.toInt).toNat
    refine h_iald hx hb hK hH (by decide) (rfl : kd 383 = 13) (s_vin (N := 12) (rfl : x.toInt = _) (rfl : ln 383 = 12) (by omega) (by omega)) dX12_addCase_63 ?_
    have ek_10 : x.toNatClampNeg = (x.toInt).toNat := (s_cl (show x.toInt = x.toInt by omega))
    refine sj_i (y := (i 383 (x.toInt).toNat)) (by rw [ek_10]; exact ((congrFun (up2_n _ _ (by decide)) _).trans ((congrFun (up2_n _ _ (by decide)) _).trans (congrFun (up2_n _ _ (by decide)) _)))) ?_
    refine lv_ior hx hb dX12_addCase_64 ?_
    refine lv_topi (fun z_11 ez_11 => ?_)
    have hz_11 := s_or ez_11 ⟨by omega, by omega⟩ ⟨by omega, by omega⟩
    refine lv_aload_n hx hb dX12_addCase_65 rfl (lv_at hl 1 rfl) ?_
    refine h_getr (ci := 12) (C := RX12) (F := TX12) (N := 86) hx hb hts in12 hown hK hH (by decide) (rfl : kd 36 = 12) (by decide) rfl 12 (by decide) wd7 (fun _ h9 => h9) (by decide) rfl (t := 382) (hR 36 12 rfl) (by decide) dX12_addCase_66 ?_
    refine lv_iload hx hb dX12_addCase_69 (lv_at hl 0 rfl) ?_
    have bx_12 : (0 : Int) ≤ (i 382 ((i 385 (x.toInt).toNat).toInt).toNat).toInt ∧ (i 382 ((i 385 (x.toInt).toNat).toInt).toNat).toInt ≤ 65535 := hO 382 ((i 385 (x.toInt).toNat).toInt).toNat
    refine h_iald hx hb hK hH (by decide) (rfl : kd 382 = 13) (s_vin (N := 5) (rfl : (i 385 (x.toInt).toNat).toInt = _) (rfl : ln 382 = 5) (by omega) (by omega)) dX12_addCase_71 ?_
    have ek_13 : (i 385 (x.toInt).toNat).toNatClampNeg = ((i 385 (x.toInt).toNat).toInt).toNat := (s_cl (show (i 385 (x.toInt).toNat).toInt = (i 385 (x.toInt).toNat).toInt by omega))
    refine sj_i (y := (i 382 ((i 385 (x.toInt).toNat).toInt).toNat)) (by rw [ek_13]; exact ((congrFun (up2_n _ _ (by decide)) _).trans ((congrFun (up2_n _ _ (by decide)) _).trans (congrFun (up2_n _ _ (by decide)) _)))) ?_
    refine lv_ior hx hb dX12_addCase_72 ?_
    refine lv_topi (fun z_14 ez_14 => ?_)
    have hz_14 := s_or ez_14 ⟨by omega, by omega⟩ ⟨by omega, by omega⟩
    refine lv_aload_n hx hb dX12_addCase_73 rfl (lv_at hl 1 rfl) ?_
    refine h_getr (ci := 12) (C := RX12) (F := TX12) (N := 86) hx hb hts in12 hown hK hH (by decide) (rfl : kd 36 = 12) (by decide) rfl 12 (by decide) wd7 (fun _ h9 => h9) (by decide) rfl (t := 382) (hR 36 12 rfl) (by decide) dX12_addCase_74 ?_
    refine lv_iconst (v := 0) hx hb dX12_addCase_77 (by decide) ?_
    have bx_15 : (0 : Int) ≤ (i 382 0).toInt ∧ (i 382 0).toInt ≤ 65535 := hO 382 0
    refine h_iald hx hb hK hH (by decide) (rfl : kd 382 = 13) (s_vin (N := 5) (show (0 : Int32).toInt = 0 from rfl) (rfl : ln 382 = 5) (by omega) (by omega)) dX12_addCase_78 ?_
    refine sj_i (y := (i 382 0)) ((congrFun (up2_n _ _ (by decide)) _).trans ((congrFun (up2_n _ _ (by decide)) _).trans (congrFun (up2_n _ _ (by decide)) _))) ?_
    refine lv_ior hx hb dX12_addCase_79 ?_
    refine lv_topi (fun z_16 ez_16 => ?_)
    have hz_16 := s_or ez_16 ⟨by omega, by omega⟩ ⟨by omega, by omega⟩
    have hO_17 := okp hO_8 (n := 400) (k := ((i 36 33).toInt).toNat) (v := z_16) (show (0 : Int) ≤ (z_16 : Int32).toInt ∧ (z_16 : Int32).toInt ≤ 65535 from ⟨by omega, by omega⟩)
    refine h_iast hx hb hK hH hS (by decide) (rfl : kd 400 = 13) (s_vin (N := 24) (rfl : (i 36 33).toInt = _) (rfl : ln 400 = 24) (by omega) (by omega)) dX12_addCase_80 (fun H locs hH hS => ?_)
    rw [s_cl (show (i 36 33).toInt = (i 36 33).toInt by omega)] at hH
    refine lv_aload_n hx hb dX12_addCase_81 rfl (lv_at hl 1 rfl) ?_
    refine h_getr (ci := 12) (C := RX12) (F := TX12) (N := 86) hx hb hts in12 hown hK hH (by decide) (rfl : kd 36 = 12) (by decide) rfl 38 (by decide) wd8 (fun _ h9 => h9) (by decide) rfl (t := 401) (hR 36 38 rfl) (by decide) dX12_addCase_82 ?_
    refine lv_aload_n hx hb dX12_addCase_85 rfl (lv_at hl 1 rfl) ?_
    refine h_geti (ci := 12) (C := RX12) (F := TX12) (N := 86) hx hb hts in12 hown hK hH (by decide) (rfl : kd 36 = 12) (by decide) rfl 33 (by decide) wd0 (fun _ h9 => h9) (by decide) rfl dX12_addCase_86 ?_
    refine sj_i (y := (i 36 33)) ((congrFun (up2_n _ _ (by decide)) _).trans ((congrFun (up2_n _ _ (by decide)) _).trans ((congrFun (up2_n _ _ (by decide)) _).trans (congrFun (up2_n _ _ (by decide)) _)))) ?_
    refine lv_iconst (v := (-1)) hx hb dX12_addCase_89 (by decide) ?_
    have hO_18 := okp hO_17 (n := 401) (k := ((i 36 33).toInt).toNat) (v := (-1)) (show (-1 : Int) ≤ ((-1) : Int32).toInt ∧ ((-1) : Int32).toInt ≤ 5 from ⟨by decide, by decide⟩)
    refine h_iast hx hb hK hH hS (by decide) (rfl : kd 401 = 13) (s_vin (N := 24) (rfl : (i 36 33).toInt = _) (rfl : ln 401 = 24) (by omega) (by omega)) dX12_addCase_90 (fun H locs hH hS => ?_)
    rw [s_cl (show (i 36 33).toInt = (i 36 33).toInt by omega)] at hH
    refine lv_aload_n hx hb dX12_addCase_91 rfl (lv_at hl 1 rfl) ?_
    refine lv_dup hx hb dX12_addCase_92 rfl ?_
    refine h_geti (ci := 12) (C := RX12) (F := TX12) (N := 86) hx hb hts in12 hown hK hH (by decide) (rfl : kd 36 = 12) (by decide) rfl 33 (by decide) wd0 (fun _ h9 => h9) (by decide) rfl dX12_addCase_93 ?_
    refine sj_i (y := (i 36 33)) ((congrFun (up2_n _ _ (by decide)) _).trans ((congrFun (up2_n _ _ (by decide)) _).trans ((congrFun (up2_n _ _ (by decide)) _).trans ((congrFun (up2_n _ _ (by decide)) _).trans (congrFun (up2_n _ _ (by decide)) _))))) ?_
    refine lv_iconst (v := 1) hx hb dX12_addCase_96 (by decide) ?_
    refine lv_iadd hx hb dX12_addCase_97 ?_
    obtain ⟨z_19, ez_19, hz_19⟩ := s_add (rfl : (i 36 33).toInt = _) (show (1 : Int32).toInt = 1 from rfl) (by omega) (by omega)
    refine sj_i ez_19 ?_
    have hO_20 := okp hO_18 (n := 36) (k := 33) (v := z_19) (show (0 : Int) ≤ (z_19 : Int32).toInt ∧ (z_19 : Int32).toInt ≤ 24 from ⟨by omega, by omega⟩)
    refine h_puti (ty := .int) (ci := 12) (C := RX12) (F := TX12) (N := 86) hx hb hts in12 tyX12 tyX12_ok nmX12 hown hK hH hS (by decide) (rfl : kd 36 = 12) (by decide) rfl 33 (by decide) wd0 (fun _ h9 => h9) rfl (by decide +kernel) rfl rfl (by decide) rfl dX12_addCase_98 (fun H locs hH hS => ?_)
    have hp_21 : ((up2 (up2 (up2 (up2 (up2 (up2 i 397 ((i 36 33).toInt).toNat x) 399 ((i 36 33).toInt).toNat z) 398 ((i 36 33).toInt).toNat v4) 400 ((i 36 33).toInt).toNat z_16) 401 ((i 36 33).toInt).toNat (-1)) 36 33 z_19) 36 33).toInt = (z_19 : Int32).toInt := congrArg Int32.toInt ((up2_at _ _ _ _))
    have hV_22 : ((i 36 33).toInt = 24 ∧ (up2 (up2 (up2 (up2 (up2 (up2 i 397 ((i 36 33).toInt).toNat x) 399 ((i 36 33).toInt).toNat z) 398 ((i 36 33).toInt).toNat v4) 400 ((i 36 33).toInt).toNat z_16) 401 ((i 36 33).toInt).toNat (-1)) 36 33 z_19) = i) ∨ ((i 36 33).toInt < 24 ∧ ((up2 (up2 (up2 (up2 (up2 (up2 i 397 ((i 36 33).toInt).toNat x) 399 ((i 36 33).toInt).toNat z) 398 ((i 36 33).toInt).toNat v4) 400 ((i 36 33).toInt).toNat z_16) 401 ((i 36 33).toInt).toNat (-1)) 36 33 z_19) 36 33).toInt = (i 36 33).toInt + 1 ∧ ((up2 (up2 (up2 (up2 (up2 (up2 i 397 ((i 36 33).toInt).toNat x) 399 ((i 36 33).toInt).toNat z) 398 ((i 36 33).toInt).toNat v4) 400 ((i 36 33).toInt).toNat z_16) 401 ((i 36 33).toInt).toNat (-1)) 36 33 z_19) 397 (i 36 33).toInt.toNat).toInt = x.toInt ∧ (up2 (up2 (up2 (up2 (up2 (up2 i 397 ((i 36 33).toInt).toNat x) 399 ((i 36 33).toInt).toNat z) 398 ((i 36 33).toInt).toNat v4) 400 ((i 36 33).toInt).toNat z_16) 401 ((i 36 33).toInt).toNat (-1)) 36 33 z_19) 400 (i 36 33).toInt.toNat = y ||| i 383 x.toInt.toNat ||| i 382 (i 385 x.toInt.toNat).toInt.toNat ||| i 382 0 ∧ ∀ k : Nat, k ≠ (i 36 33).toInt.toNat → (up2 (up2 (up2 (up2 (up2 (up2 i 397 ((i 36 33).toInt).toNat x) 399 ((i 36 33).toInt).toNat z) 398 ((i 36 33).toInt).toNat v4) 400 ((i 36 33).toInt).toNat z_16) 401 ((i 36 33).toInt).toNat (-1)) 36 33 z_19) 397 k = i 397 k ∧ (up2 (up2 (up2 (up2 (up2 (up2 i 397 ((i 36 33).toInt).toNat x) 399 ((i 36 33).toInt).toNat z) 398 ((i 36 33).toInt).toNat v4) 400 ((i 36 33).toInt).toNat z_16) 401 ((i 36 33).toInt).toNat (-1)) 36 33 z_19) 400 k = i 400 k) := (Or.inr ⟨by omega, by omega, (show ((up2 (up2 (up2 (up2 (up2 (up2 i 397 ((i 36 33).toInt).toNat x) 399 ((i 36 33).toInt).toNat z) 398 ((i 36 33).toInt).toNat v4) 400 ((i 36 33).toInt).toNat z_16) 401 ((i 36 33).toInt).toNat (-1)) 36 33 z_19) 397 (i 36 33).toInt.toNat).toInt = _ from congrArg Int32.toInt (((congrFun (up2_n _ _ (by decide)) _).trans ((congrFun (up2_n _ _ (by decide)) _).trans ((congrFun (up2_n _ _ (by decide)) _).trans ((congrFun (up2_n _ _ (by decide)) _).trans ((congrFun (up2_n _ _ (by decide)) _).trans (up2_at _ _ _ _)))))))), (show (up2 (up2 (up2 (up2 (up2 (up2 i 397 ((i 36 33).toInt).toNat x) 399 ((i 36 33).toInt).toNat z) 398 ((i 36 33).toInt).toNat v4) 400 ((i 36 33).toInt).toNat z_16) 401 ((i 36 33).toInt).toNat (-1)) 36 33 z_19) 400 (i 36 33).toInt.toNat = _ from ((congrFun (up2_n _ _ (by decide)) _).trans ((congrFun (up2_n _ _ (by decide)) _).trans (up2_at _ _ _ _))).trans (by rw [ez_16, ez_14, ez_11])), (fun k hk => ⟨((up2_o _ _ (by omega)).trans ((up2_o _ _ (by omega)).trans ((up2_o _ _ (by omega)).trans ((up2_o _ _ (by omega)).trans ((up2_o _ _ (by omega)).trans (up2_o _ _ (by omega))))))), ((up2_o _ _ (by omega)).trans ((up2_o _ _ (by omega)).trans ((up2_o _ _ (by omega)).trans ((up2_o _ _ (by omega)).trans ((up2_o _ _ (by omega)).trans (up2_o _ _ (by omega)))))))⟩)⟩)
    have hV_23 : NR (up2 (up2 (up2 (up2 (up2 (up2 i 397 ((i 36 33).toInt).toNat x) 399 ((i 36 33).toInt).toNat z) 398 ((i 36 33).toInt).toNat v4) 400 ((i 36 33).toInt).toNat z_16) 401 ((i 36 33).toInt).toNat (-1)) 36 33 z_19) := (fun k => by
          by_cases hk : k = ((i 36 33).toInt).toNat
          · rw [hk]
            have g8 : ((up2 (up2 (up2 (up2 (up2 (up2 i 397 ((i 36 33).toInt).toNat x) 399 ((i 36 33).toInt).toNat z) 398 ((i 36 33).toInt).toNat v4) 400 ((i 36 33).toInt).toNat z_16) 401 ((i 36 33).toInt).toNat (-1)) 36 33 z_19) 398 ((i 36 33).toInt).toNat).toInt = (v4 : Int32).toInt := congrArg Int32.toInt (((congrFun (up2_n _ _ (by decide)) _).trans ((congrFun (up2_n _ _ (by decide)) _).trans ((congrFun (up2_n _ _ (by decide)) _).trans (up2_at _ _ _ _)))))
            have g9 : ((up2 (up2 (up2 (up2 (up2 (up2 i 397 ((i 36 33).toInt).toNat x) 399 ((i 36 33).toInt).toNat z) 398 ((i 36 33).toInt).toNat v4) 400 ((i 36 33).toInt).toNat z_16) 401 ((i 36 33).toInt).toNat (-1)) 36 33 z_19) 399 ((i 36 33).toInt).toNat).toInt = (z : Int32).toInt := congrArg Int32.toInt (((congrFun (up2_n _ _ (by decide)) _).trans ((congrFun (up2_n _ _ (by decide)) _).trans ((congrFun (up2_n _ _ (by decide)) _).trans ((congrFun (up2_n _ _ (by decide)) _).trans (up2_at _ _ _ _))))))
            omega
          · rw [show (up2 (up2 (up2 (up2 (up2 (up2 i 397 ((i 36 33).toInt).toNat x) 399 ((i 36 33).toInt).toNat z) 398 ((i 36 33).toInt).toNat v4) 400 ((i 36 33).toInt).toNat z_16) 401 ((i 36 33).toInt).toNat (-1)) 36 33 z_19) 399 k = i 399 k from ((up2_o _ _ (by omega)).trans ((up2_o _ _ (by omega)).trans ((up2_o _ _ (by omega)).trans ((up2_o _ _ (by omega)).trans ((up2_o _ _ (by omega)).trans (up2_o _ _ (by omega))))))), show (up2 (up2 (up2 (up2 (up2 (up2 i 397 ((i 36 33).toInt).toNat x) 399 ((i 36 33).toInt).toNat z) 398 ((i 36 33).toInt).toNat v4) 400 ((i 36 33).toInt).toNat z_16) 401 ((i 36 33).toInt).toNat (-1)) 36 33 z_19) 398 k = i 398 k from ((up2_o _ _ (by omega)).trans ((up2_o _ _ (by omega)).trans ((up2_o _ _ (by omega)).trans ((up2_o _ _ (by omega)).trans ((up2_o _ _ (by omega)).trans (up2_o _ _ (by omega)))))))]; exact hnr k)
    exact sj_vret hx hb hr hlocks hS (up2 (up2 (up2 (up2 (up2 (up2 i 397 ((i 36 33).toInt).toNat x) 399 ((i 36 33).toInt).toNat z) 398 ((i 36 33).toInt).toNat v4) 400 ((i 36 33).toInt).toNat z_16) 401 ((i 36 33).toInt).toNat (-1)) 36 33 z_19) ⟨hO_20, (fun a b ha => ((up2_o _ _ (by omega)).trans ((up2_o _ _ (by omega)).trans ((up2_o _ _ (by omega)).trans ((up2_o _ _ (by omega)).trans ((up2_o _ _ (by omega)).trans (up2_o _ _ (by omega)))))))), hV_22, hV_23⟩ hH (sj_Knil hK) (Nat.le_of_ble_eq_true rfl) (Nat.le_of_ble_eq_true rfl) dX12_addCase_101
  · skip
    have h_24 := s_eq (rfl : (i 36 33).toInt = _) (show (24 : Int32).toInt = 24 from rfl) c_2
    have hV_25 : ((i 36 33).toInt = 24 ∧ i = i) ∨ ((i 36 33).toInt < 24 ∧ (i 36 33).toInt = (i 36 33).toInt + 1 ∧ (i 397 (i 36 33).toInt.toNat).toInt = x.toInt ∧ i 400 (i 36 33).toInt.toNat = y ||| i 383 x.toInt.toNat ||| i 382 (i 385 x.toInt.toNat).toInt.toNat ||| i 382 0 ∧ ∀ k : Nat, k ≠ (i 36 33).toInt.toNat → i 397 k = i 397 k ∧ i 400 k = i 400 k) := (Or.inl ⟨by omega, rfl⟩)
    have hV_26 : NR i := hnr
    exact sj_vret hx hb hr hlocks hS i ⟨hO, (fun a b ha => rfl), hV_25, hV_26⟩ hH (sj_Knil hK) (Nat.le_of_ble_eq_true rfl) (Nat.le_of_ble_eq_true rfl) dX12_addCase_9
set_option maxHeartbeats 2000000 in
set_option maxRecDepth 100000 in
theorem m_findCases (l : Launch) (D : va_G) (g : Nat → Nat) (ka : Nat → ClassId) (ad : Nat → Nat) (i : Nat → Nat → Int32) (r : Nat → Nat → Nat) (L : Nat → Nat → Int64) (d : Nat → Nat → UInt64) (c1 : Nat → Nat → Int32) (o1 : Nat) (t1 : Nat) (hO : OkI i) (hR : RS r) (sz : Nat) (hOc : OkI c1) (hM : MRQ i c1 t1) (hz0 : (i 36 33).toInt = 0) (hnr : NR i) : Met l yX12_findCases wsX12_findCases ({ frames := 2, cells := 0, slots := 0, locals := 46 }) (va_Pc [.ref (g 36)] (sj_B D (hwc g ka i r L d) (hT ka) sz (gx ad (va_A (hwc g ka i r L d) sz)))) (sj_Qv (S := (Nat → Nat → Int32)) D (fun u => OkI u ∧ (∀ a b, ¬ ((a = 36 ∧ (b = 33)) ∨ a = 397 ∨ a = 398 ∨ a = 399 ∨ a = 400 ∨ a = 401) → u a b = i a b) ∧ (mcP u ((csA c1 (c1 3 8).toInt.toNat).take 24)) ∧ (NR u)) (fun u => hwc g ka u r L d) (fun _ => []) (va_A (hwc g ka i r L d) sz)) 0 0 (va_A (hwc g ka i r L d) sz) := by
  refine x_met (Ex := gx ad) (cc := cX12_findCases) (maxL := 6) (ret := none) (by decide) rfl (Nat.le_of_ble_eq_true rfl) ?_
  intro p e s m below meth c A ls hx hb hr hml hts hown hlocks hA hS hH hK hE hl
  have hown : s.vm.findClass RX12 = some m.cls := hown
  have in12 : ∀ w ∈ wsX120, w ∈ wsX12_findCases := (fun _ h => (List.mem_cons_of_mem _ (List.mem_append_right _ h)))
  have wd0 := hts (.fieldLink RX12 120 "StoryDeskModel" "scenarios" "I") (List.mem_cons_of_mem _ (List.mem_append_left _ (List.mem_append_left _ lm0)))
  have wd1 := hts (.fieldLink RX12 123 "StoryDeskModel" "examples" "I") (List.mem_cons_of_mem _ (List.mem_append_left _ (List.mem_append_left _ lm1)))
  have wd2 := hts (.fieldLink RX12 141 "StoryDeskModel" "exampleOwner" "[I") (List.mem_cons_of_mem _ (List.mem_append_left _ (List.mem_append_left _ lm2)))
  have wd3 := hts (.fieldLink RX12 70 "StoryDeskModel" "rows" "I") (List.mem_cons_of_mem _ (List.mem_append_left _ (List.mem_append_left _ lm3)))
  have wd4 := hts (.fieldLink RX12 67 "StoryDeskModel" "rowOwner" "[I") (List.mem_cons_of_mem _ (List.mem_append_left _ (List.mem_append_left _ lm4)))
  have wd5 := hts (.fieldLink RX12 138 "StoryDeskModel" "exampleTags" "[I") (List.mem_cons_of_mem _ (List.mem_append_left _ (List.mem_append_left _ lm5)))
  have hl : lv_has ls 6 [(0, .ref (g 36))] := hl
  have hK : va_K D vwCl (hT ka) s := hK
  obtain ⟨⟨hs1, hs2, hs3, hs4, hs5, hs6, hs7⟩, _, _, _, _, hmG, hmC, _, hmE, hmF, _, _, _⟩ := hM
  have hb13 : (0 : Int) ≤ (i 36 13).toInt ∧ (i 36 13).toInt ≤ 12 := hO 36 13
  have hb23 : (0 : Int) ≤ (i 36 23).toInt ∧ (i 36 23).toInt ≤ 12 := hO 36 23
  have hb26 : (0 : Int) ≤ (i 36 26).toInt ∧ (i 36 26).toInt ≤ 40 := hO 36 26
  have hb42 : ∀ s : Nat, s < 12 → 0 ≤ (c1 (42 + 1 * s) 7).toInt ∧ 0 ≤ (c1 (42 + 1 * s) 8).toInt := fun s hs => by
    have hb7 := hOc (42 + 1 * s) 7
    have hb8 := hOc (42 + 1 * s) 8
    rw [bx_part (by omega) (by omega) 7] at hb7
    rw [bx_part (by omega) (by omega) 8] at hb8
    exact ⟨hb7.1, hb8.1⟩
  have hb84a : ∀ s : Nat, s < 12 → 0 ≤ (c1 (84 + 1 * s) 2).toInt ∧ 0 ≤ (c1 (84 + 1 * s) 3).toInt := fun s hs => by
    have hb7 := hOc (84 + 1 * s) 2
    have hb8 := hOc (84 + 1 * s) 3
    rw [bx_part (by omega) (by omega) 2] at hb7
    rw [bx_part (by omega) (by omega) 3] at hb8
    exact ⟨hb7.1, hb8.1⟩
  refine lv_iconst (v := 0) hx hb dX12_findCases_0 (by decide) ?_
  refine lv_istore_n (lv' := [(1, .int 0), (0, .ref (g 36))]) hx hb dX12_findCases_1 rfl hl (by decide) rfl (fun ls hl => ?_)
  -- loop at 2
  have lp_1 : ∀ (fuel_lp_1 : Nat) (u : Int32) (j1 : Nat → Nat → Int32) (H : Heap) (locs : List Loc) (ls : Array Slot), (12 - u.toInt).toNat < fuel_lp_1 → (0 : Int) ≤ u.toInt ∧ u.toInt ≤ 12 → u.toInt ≤ (i 36 13).toInt → mcP j1 ((csA c1 u.toInt.toNat).take 24) → NR j1 → OkI j1 → (∀ a b, ¬ ((a = 36 ∧ (b = 33)) ∨ a = 397 ∨ a = 398 ∨ a = 399 ∨ a = 400 ∨ a = 401) → j1 a b = i a b) → lv_has ls 6 [(1, .int u), (0, .ref (g 36))] → sj_H D A (hwc g ka j1 r L d) H → va_S A s.heap H locs → W p l e (headSpec wsX12_findCases ({ frames := 2, cells := 0, slots := 0, locals := 46 })).room s m ([.ref (g 36)] : List Value).toArray below meth c H locs 0 0 (MQ below (sj_Qv (S := (Nat → Nat → Int32)) D (fun u => OkI u ∧ (∀ a b, ¬ ((a = 36 ∧ (b = 33)) ∨ a = 397 ∨ a = 398 ∨ a = 399 ∨ a = 400 ∨ a = 401) → u a b = i a b) ∧ (mcP u ((csA c1 (c1 3 8).toInt.toNat).take 24)) ∧ (NR u)) (fun u => hwc g ka u r L d) (fun _ => []) A) ([.ref (g 36)] : List Value).toArray s 0 0 A) (F0 m 2 ls []) := by
    intro fuel_lp_1
    induction fuel_lp_1 with
    | zero => intros; omega
    | succ fuel_lp_1 ih_lp_1 =>
      intro u j1 H locs ls hm hr_u hi_lp_1_0 hi_lp_1_1 hi_lp_1_2 hO_j1 hfr_j1 hl hH hS
      refine lv_iload_n hx hb dX12_findCases_2 rfl (lv_at hl 0 rfl) ?_
      refine lv_aload_n hx hb dX12_findCases_3 rfl (lv_at hl 1 rfl) ?_
      have bx_2 : (0 : Int) ≤ (i 36 13).toInt ∧ (i 36 13).toInt ≤ 12 := hO 36 13
      refine h_geti (ci := 12) (C := RX12) (F := TX12) (N := 86) hx hb hts in12 hown hK hH (by decide) (rfl : kd 36 = 12) (by decide) rfl 13 (by decide) wd0 (fun _ h9 => h9) (by decide) rfl dX12_findCases_4 ?_
      refine sj_i (y := (i 36 13)) (hfr_j1 36 13 (by omega)) ?_
      refine lv_icmp_ge (tgt := 125) hx hb dX12_findCases_7 (by decide) (fun c_3 => ?_) (fun c_3 => ?_)
      · skip
        have h_4 := s_le (rfl : (i 36 13).toInt = _) (rfl : u.toInt = _) c_3
        have hV_5 : mcP j1 ((csA c1 (c1 3 8).toInt.toNat).take 24) := (by rw [show (c1 3 8).toInt.toNat = u.toInt.toNat by omega]; exact hi_lp_1_1)
        have hV_6 : NR j1 := hi_lp_1_2
        exact sj_vret hx hb hr hlocks hS j1 ⟨hO_j1, (fun a b ha => (hfr_j1 a b (by omega))), hV_5, hV_6⟩ hH (sj_Knil hK) (Nat.le_of_ble_eq_true rfl) (Nat.le_of_ble_eq_true rfl) dX12_findCases_125
      · skip
        have h_7 := s_nle (rfl : (i 36 13).toInt = _) (rfl : u.toInt = _) c_3
        refine lv_iconst (v := 1) hx hb dX12_findCases_10 (by decide) ?_
        refine lv_istore_n (lv' := [(2, .int 1), (1, .int u), (0, .ref (g 36))]) hx hb dX12_findCases_11 rfl hl (by decide) rfl (fun ls hl => ?_)
        refine lv_iconst (v := 0) hx hb dX12_findCases_12 (by decide) ?_
        refine lv_istore_n (lv' := [(3, .int 0), (2, .int 1), (1, .int u), (0, .ref (g 36))]) hx hb dX12_findCases_13 rfl hl (by decide) rfl (fun ls hl => ?_)
        -- loop at 14
        have lp_8 : ∀ (fuel_lp_8 : Nat) (t : Int32) (e9 : Int32) (j2 : Nat → Nat → Int32) (H : Heap) (locs : List Loc) (ls : Array Slot), (12 - e9.toInt).toNat < fuel_lp_8 → (0 : Int) ≤ t.toInt ∧ t.toInt ≤ 1 → (0 : Int) ≤ e9.toInt ∧ e9.toInt ≤ 12 → e9.toInt ≤ (i 36 23).toInt → (t.toInt = 1 ∧ clp (e9.toInt - (c1 (42 + 1 * u.toInt.toNat) 7).toInt) (c1 (42 + 1 * u.toInt.toNat) 8).toInt = 0) ∨ (t.toInt = 0 ∧ 0 < clp (e9.toInt - (c1 (42 + 1 * u.toInt.toNat) 7).toInt) (c1 (42 + 1 * u.toInt.toNat) 8).toInt) → mcP j2 ((csM c1 u.toInt.toNat e9.toInt).take 24) → NR j2 → OkI j2 → (∀ a b, ¬ ((a = 36 ∧ (b = 33)) ∨ a = 397 ∨ a = 398 ∨ a = 399 ∨ a = 400 ∨ a = 401) → j2 a b = j1 a b) → lv_has ls 6 [(3, .int e9), (2, .int t), (1, .int u), (0, .ref (g 36))] → sj_H D A (hwc g ka j2 r L d) H → va_S A s.heap H locs → W p l e (headSpec wsX12_findCases ({ frames := 2, cells := 0, slots := 0, locals := 46 })).room s m ([.ref (g 36)] : List Value).toArray below meth c H locs 0 0 (MQ below (sj_Qv (S := (Nat → Nat → Int32)) D (fun u => OkI u ∧ (∀ a b, ¬ ((a = 36 ∧ (b = 33)) ∨ a = 397 ∨ a = 398 ∨ a = 399 ∨ a = 400 ∨ a = 401) → u a b = i a b) ∧ (mcP u ((csA c1 (c1 3 8).toInt.toNat).take 24)) ∧ (NR u)) (fun u => hwc g ka u r L d) (fun _ => []) A) ([.ref (g 36)] : List Value).toArray s 0 0 A) (F0 m 14 ls []) := by
          intro fuel_lp_8
          induction fuel_lp_8 with
          | zero => intros; omega
          | succ fuel_lp_8 ih_lp_8 =>
            intro t e9 j2 H locs ls hm hr_t hr_e9 hi_lp_8_0 hi_lp_8_1 hi_lp_8_2 hi_lp_8_3 hO_j2 hfr_j2 hl hH hS
            have hcs := clp_s (e9.toInt - (c1 (42 + 1 * u.toInt.toNat) 7).toInt) (c1 (42 + 1 * u.toInt.toNat) 8).toInt
            refine lv_iload_n hx hb dX12_findCases_14 rfl (lv_at hl 0 rfl) ?_
            refine lv_aload_n hx hb dX12_findCases_15 rfl (lv_at hl 3 rfl) ?_
            have bx_9 : (0 : Int) ≤ (i 36 23).toInt ∧ (i 36 23).toInt ≤ 12 := hO 36 23
            refine h_geti (ci := 12) (C := RX12) (F := TX12) (N := 86) hx hb hts in12 hown hK hH (by decide) (rfl : kd 36 = 12) (by decide) rfl 23 (by decide) wd1 (fun _ h9 => h9) (by decide) rfl dX12_findCases_16 ?_
            refine sj_i (y := (i 36 23)) ((hfr_j2 36 23 (by omega)).trans (hfr_j1 36 23 (by omega))) ?_
            refine lv_icmp_ge (tgt := 107) hx hb dX12_findCases_19 (by decide) (fun c_10 => ?_) (fun c_10 => ?_)
            · skip
              have h_11 := s_le (rfl : (i 36 23).toInt = _) (rfl : e9.toInt = _) c_10
              have hCw := (hmC u.toInt.toNat (by omega)).2.2.2.2
              have hb429 := hb42 u.toInt.toNat (by omega)
              rw [show 42 + u.toInt.toNat = 42 + 1 * u.toInt.toNat by omega] at hCw
              have hcb := clp_b (a := e9.toInt - (c1 (42 + 1 * u.toInt.toNat) 7).toInt) (b := (c1 (42 + 1 * u.toInt.toNat) 8).toInt) (by omega) (by omega)
              refine lv_iload_n hx hb dX12_findCases_107 rfl (lv_at hl 1 rfl) ?_
              refine lv_if_eq (tgt := 119) hx hb dX12_findCases_108 (by decide) (fun c_12 => ?_) (fun c_12 => ?_)
              · skip
                have h_13 := s_eq (rfl : t.toInt = _) (show (0 : Int32).toInt = 0 from rfl) c_12
                obtain ⟨z_14, ez_14, hz_14⟩ := s_add (rfl : u.toInt = _) (show (1 : Int32).toInt = 1 from rfl) (by omega) (by omega)
                refine lv_iinc (v := z_14) (lv' := [(1, .int z_14), (3, .int e9), (2, .int t), (0, .ref (g 36))]) hx hb dX12_findCases_119 hl (k := 2) rfl ez_14 (by decide) rfl (fun ls hl => ?_)
                refine lv_goto (tgt := 2) hx hb dX12_findCases_122 (by decide) ?_
                have hex : (c1 3 12).toInt ≤ e9.toInt := by omega
                have hCv := (hmC u.toInt.toNat (by omega)).2.2.2.2
                have hb428 := hb42 u.toInt.toNat (by omega)
                rw [show 42 + u.toInt.toNat = 42 + 1 * u.toInt.toNat by omega] at hCv
                have hAy := csA_y (c := c1) (s := u.toInt.toNat) (n := e9.toInt) (by omega) (by omega)
                rw [if_neg (show ¬ (c1 (42 + 1 * u.toInt.toNat) 8).toInt = 0 by omega)] at hAy
                exact ih_lp_1 z_14 _ _ _ ls (by omega) (by omega) (by omega) (by
                          rw [show (z_14).toInt.toNat = u.toInt.toNat + 1 by omega, hAy]
                          exact hi_lp_8_2) hi_lp_8_3 hO_j2 (fun a b ha => ((hfr_j2 a b (by omega)).trans (hfr_j1 a b (by omega)))) (lv_sub hl [0, 3] rfl) hH hS
              · skip
                have h_15 := s_ne (rfl : t.toInt = _) (show (0 : Int32).toInt = 0 from rfl) c_12
                refine lv_aload_n hx hb dX12_findCases_111 rfl (lv_at hl 3 rfl) ?_
                refine lv_iload_n hx hb dX12_findCases_112 rfl (lv_at hl 2 rfl) ?_
                refine lv_iconst (v := 0) hx hb dX12_findCases_113 (by decide) ?_
                refine lv_iconst (v := (-1)) hx hb dX12_findCases_114 (by decide) ?_
                refine lv_iconst (v := (-1)) hx hb dX12_findCases_115 (by decide) ?_
                have hl_16 : (0 : Int32).toInt = 0 := rfl
                have hl_17 : ((-1) : Int32).toInt = -1 := rfl
                have hl_18 : ((-1) : Int32).toInt = -1 := rfl
                refine x_callv (va_runV (As := [.int u, .int 0, .int (-1), .int (-1)]) (rest := []) ⟨hx, hb, hml, hown, hts⟩ (m_addCase l D g ka ad j2 r L d u 0 (-1) (-1) hO_j2 hR H.size (by first | omega | decide) (by first | omega | decide) (by first | omega | decide) (by first | omega | decide) (by first | omega | decide) (by first | omega | decide) (by first | omega | decide) (by first | omega | decide) hi_lp_8_3 (by first | omega | decide)) (cwV 4 hts gX12_findCases_X12_addCase rfl rfl rfl (by decide +kernel) ⟨(Nat.le_of_ble_eq_true rfl), (Nat.le_of_ble_eq_true rfl)⟩) (x_preV (q := (RX12, TX12, 86)) hH hK (q_obj (by decide) (rfl : kd 36 = 12) (by decide)) rfl gxb (gxw hE hS (x_F hH hS hA))) rfl rfl hl.1 rfl (lv_room (Nat.le_of_ble_eq_true rfl)) dX12_findCases_116 ⟨(Nat.le_of_ble_eq_true rfl), (Nat.le_of_ble_eq_true rfl)⟩) hH hS hA rfl rfl (fun im_21 H locs hw_20 hH hS => ?_)
                have hH : sj_H D A (hwc g ka im_21 r L d) H := hH
                obtain ⟨hO_23, hfr_22, hx2_24, hx2_25⟩ := hw_20
                obtain ⟨z_26, ez_26, hz_26⟩ := s_add (rfl : u.toInt = _) (show (1 : Int32).toInt = 1 from rfl) (by omega) (by omega)
                refine lv_iinc (v := z_26) (lv' := [(1, .int z_26), (3, .int e9), (2, .int t), (0, .ref (g 36))]) hx hb dX12_findCases_119 hl (k := 2) rfl ez_26 (by decide) rfl (fun ls hl => ?_)
                refine lv_goto (tgt := 2) hx hb dX12_findCases_122 (by decide) ?_
                have hex : (c1 3 12).toInt ≤ e9.toInt := by omega
                have hCv := (hmC u.toInt.toNat (by omega)).2.2.2.2
                have hb428 := hb42 u.toInt.toNat (by omega)
                rw [show 42 + u.toInt.toNat = 42 + 1 * u.toInt.toNat by omega] at hCv
                have hAy := csA_y (c := c1) (s := u.toInt.toNat) (n := e9.toInt) (by omega) (by omega)
                rw [if_pos (show (c1 (42 + 1 * u.toInt.toNat) 8).toInt = 0 by omega)] at hAy
                have hac := hx2_24
                have hCu := hmC u.toInt.toNat (by omega)
                have hCu1 := hCu.1
                have hCu2 := hCu.2.1
                have hCu3 := hCu.2.2.2.1
                have h385 : (0 : Int) ≤ (i 385 u.toInt.toNat).toInt := (hO 385 u.toInt.toNat).1
                have hGg := hmG (i 385 u.toInt.toNat).toInt.toNat (by omega)
                have hG0 := hmG 0 (by omega)
                have hGg1 := hGg.1
                have hG01 := hG0.1
                have hot : 0 ||| j2 383 u.toInt.toNat ||| j2 382 (j2 385 u.toInt.toNat).toInt.toNat ||| j2 382 0 = ortags c1 (42 + 1 * u.toInt.toNat) 0 := by
                    rw [show j2 383 u.toInt.toNat = c1 (42 + 1 * u.toInt.toNat) 1 from (((hfr_j2 383 u.toInt.toNat (by omega)).trans (hfr_j1 383 u.toInt.toNat (by omega)))).trans (Int32.toInt_inj.mp (hCu1.trans (by rw [show 42 + u.toInt.toNat = 42 + 1 * u.toInt.toNat by omega])))]
                    rw [show j2 385 u.toInt.toNat = i 385 u.toInt.toNat from ((hfr_j2 385 u.toInt.toNat (by omega)).trans (hfr_j1 385 u.toInt.toNat (by omega)))]
                    rw [show j2 382 (i 385 u.toInt.toNat).toInt.toNat = c1 (37 + 1 * (c1 (42 + 1 * u.toInt.toNat) 6).toInt.toNat) 1 from (((hfr_j2 382 (i 385 u.toInt.toNat).toInt.toNat (by omega)).trans (hfr_j1 382 (i 385 u.toInt.toNat).toInt.toNat (by omega)))).trans (Int32.toInt_inj.mp (hGg1.trans (by rw [hCu2, show 42 + u.toInt.toNat = 42 + 1 * u.toInt.toNat by omega, show ∀ X9 : Nat, 37 + 1 * X9 = 37 + X9 from fun X9 => by omega])))]
                    rw [show j2 382 0 = c1 37 1 from (((hfr_j2 382 0 (by omega)).trans (hfr_j1 382 0 (by omega)))).trans (Int32.toInt_inj.mp hG01)]
                    exact or4 _ _ _ _
                rw [hot] at hac
                exact ih_lp_1 z_26 _ _ _ ls (by omega) (by omega) (by omega) (by
                          rw [show (z_26).toInt.toNat = u.toInt.toNat + 1 by omega, hAy, ← take_app]
                          exact (mcP_add hi_lp_8_2 (mcP_len hO_j2 hi_lp_8_2) (hac.elim (fun q9 => Or.inl q9) (fun q9 => Or.inr ⟨q9.1, q9.2.1, by have := q9.2.2.1; omega, q9.2.2.2.1, q9.2.2.2.2⟩)))) hx2_25 hO_23 (fun a b ha => ((hfr_22 a b (by omega)).trans ((hfr_j2 a b (by omega)).trans (hfr_j1 a b (by omega))))) (lv_sub hl [0, 3] rfl) hH hS
            · skip
              have h_27 := s_nle (rfl : (i 36 23).toInt = _) (rfl : e9.toInt = _) c_10
              refine lv_aload_n hx hb dX12_findCases_22 rfl (lv_at hl 3 rfl) ?_
              refine h_getr (ci := 12) (C := RX12) (F := TX12) (N := 86) hx hb hts in12 hown hK hH (by decide) (rfl : kd 36 = 12) (by decide) rfl 24 (by decide) wd2 (fun _ h9 => h9) (by decide) rfl (t := 390) (hR 36 24 rfl) (by decide) dX12_findCases_23 ?_
              refine lv_iload_n hx hb dX12_findCases_26 rfl (lv_at hl 0 rfl) ?_
              have hE9 := hmE e9.toInt.toNat (by omega)
              have hE7 := hE9.2.2 u.toInt.toNat (by omega)
              have hE6 := hE9.2.1
              have hE91 := hE9.1
              refine h_iald hx hb hK hH (by decide) (rfl : kd 390 = 13) (s_vin (N := 12) (rfl : e9.toInt = _) (rfl : ln 390 = 12) (by omega) (by omega)) dX12_findCases_27 ?_
              have ek_28 : e9.toNatClampNeg = (e9.toInt).toNat := (s_cl (show e9.toInt = e9.toInt by omega))
              refine sj_i (y := (i 390 (e9.toInt).toNat)) (by rw [ek_28]; exact ((hfr_j2 390 (e9.toInt).toNat (by omega)).trans (hfr_j1 390 (e9.toInt).toNat (by omega)))) ?_
              refine lv_iload_n hx hb dX12_findCases_28 rfl (lv_at hl 2 rfl) ?_
              refine lv_icmp_eq (tgt := 35) hx hb dX12_findCases_29 (by decide) (fun c_29 => ?_) (fun c_29 => ?_)
              · skip
                have h_30 := s_eq (rfl : (i 390 (e9.toInt).toNat).toInt = _) (rfl : u.toInt = _) c_29
                have hin : (c1 (42 + 1 * u.toInt.toNat) 7).toInt ≤ ((e9.toInt.toNat : Nat) : Int) ∧ ((e9.toInt.toNat : Nat) : Int) < (c1 (42 + 1 * u.toInt.toNat) 7).toInt + (c1 (42 + 1 * u.toInt.toNat) 8).toInt := by rw [show 42 + 1 * u.toInt.toNat = 42 + u.toInt.toNat by omega]; exact hE7.mp (by omega)
                have hF9 := hmF e9.toInt.toNat (by omega)
                have hb84 := hb84a e9.toInt.toNat (by omega)
                have hF91 := hF9.1
                rw [show 84 + e9.toInt.toNat = 84 + 1 * e9.toInt.toNat by omega] at hF9 hF91
                have h842 : 0 ≤ (c1 (84 + e9.toInt.toNat) 2).toInt := by rw [show 84 + e9.toInt.toNat = 84 + 1 * e9.toInt.toNat by omega]; exact hb84.1
                refine lv_iconst (v := 0) hx hb dX12_findCases_35 (by decide) ?_
                refine lv_istore_n (lv' := [(2, .int 0), (3, .int e9), (1, .int u), (0, .ref (g 36))]) hx hb dX12_findCases_36 rfl hl (by decide) rfl (fun ls hl => ?_)
                refine lv_aload_n hx hb dX12_findCases_37 rfl (lv_at hl 3 rfl) ?_
                refine lv_bipush (v := 100) hx hb dX12_findCases_38 (by decide) ?_
                refine lv_iload_n hx hb dX12_findCases_40 rfl (lv_at hl 1 rfl) ?_
                refine lv_iadd hx hb dX12_findCases_41 ?_
                obtain ⟨z_31, ez_31, hz_31⟩ := s_add (show (100 : Int32).toInt = 100 from rfl) (rfl : e9.toInt = _) (by omega) (by omega)
                refine sj_i ez_31 ?_
                refine x_calli (va_runV (As := [.int z_31]) (rest := []) ⟨hx, hb, hml, hown, hts⟩ (m_firstRow l D g ka ad j2 r L d z_31 hO_j2 hR H.size ) (cwV 1 hts gX12_findCases_X12_firstRow rfl rfl rfl (by decide +kernel) ⟨(Nat.le_of_ble_eq_true rfl), (Nat.le_of_ble_eq_true rfl)⟩) (x_preV (q := (RX12, TX12, 86)) hH hK (q_obj (by decide) (rfl : kd 36 = 12) (by decide)) rfl gxb (gxw hE hS (x_F hH hS hA))) rfl rfl hl.1 rfl (lv_room (Nat.le_of_ble_eq_true rfl)) dX12_findCases_42 ⟨(Nat.le_of_ble_eq_true rfl), (Nat.le_of_ble_eq_true rfl)⟩) hH hS hA rfl rfl (fun r_32 _ H locs hw_33 hH hS => ?_)
                obtain ⟨hr_35, he_36⟩ := hw_33
                have hr_35 : (-1 : Int) ≤ r_32.toInt ∧ r_32.toInt ≤ 39 := hr_35
                have hfm := fst_mq (m := i) (c := c1) (e := e9.toInt.toNat) (v := r_32.toInt) hmF hs7 (by omega) (by omega) (by
                  have h9 := he_36
                  rw [show j2 392 = i 392 from funext fun b9 => ((hfr_j2 392 b9 (by omega)).trans (hfr_j1 392 b9 (by omega))), show j2 36 26 = i 36 26 from ((hfr_j2 36 26 (by omega)).trans (hfr_j1 36 26 (by omega))), show z_31.toInt = 100 + ((e9.toInt.toNat : Nat) : Int) by omega] at h9
                  exact h9)
                rw [show 84 + e9.toInt.toNat = 84 + 1 * e9.toInt.toNat by omega] at hfm
                refine lv_istore (lv' := [(4, .int r_32), (2, .int 0), (3, .int e9), (1, .int u), (0, .ref (g 36))]) hx hb dX12_findCases_45 hl (by decide) rfl (fun ls hl => ?_)
                refine lv_iconst (v := 0) hx hb dX12_findCases_47 (by decide) ?_
                refine lv_istore (lv' := [(5, .int 0), (4, .int r_32), (2, .int 0), (3, .int e9), (1, .int u), (0, .ref (g 36))]) hx hb dX12_findCases_48 hl (by decide) rfl (fun ls hl => ?_)
                -- loop at 50
                have lp_37 : ∀ (fuel_lp_37 : Nat) (f : Int32) (j3 : Nat → Nat → Int32) (H : Heap) (locs : List Loc) (ls : Array Slot), (40 - f.toInt).toNat < fuel_lp_37 → (0 : Int) ≤ f.toInt ∧ f.toInt ≤ 40 → f.toInt ≤ (i 36 26).toInt → mcP j3 ((csR c1 u.toInt.toNat e9.toInt.toNat f.toInt).take 24) → NR j3 → OkI j3 → (∀ a b, ¬ ((a = 36 ∧ (b = 33)) ∨ a = 397 ∨ a = 398 ∨ a = 399 ∨ a = 400 ∨ a = 401) → j3 a b = j2 a b) → lv_has ls 6 [(5, .int f), (4, .int r_32), (2, .int 0), (3, .int e9), (1, .int u), (0, .ref (g 36))] → sj_H D A (hwc g ka j3 r L d) H → va_S A s.heap H locs → W p l e (headSpec wsX12_findCases ({ frames := 2, cells := 0, slots := 0, locals := 46 })).room s m ([.ref (g 36)] : List Value).toArray below meth c H locs 0 0 (MQ below (sj_Qv (S := (Nat → Nat → Int32)) D (fun u => OkI u ∧ (∀ a b, ¬ ((a = 36 ∧ (b = 33)) ∨ a = 397 ∨ a = 398 ∨ a = 399 ∨ a = 400 ∨ a = 401) → u a b = i a b) ∧ (mcP u ((csA c1 (c1 3 8).toInt.toNat).take 24)) ∧ (NR u)) (fun u => hwc g ka u r L d) (fun _ => []) A) ([.ref (g 36)] : List Value).toArray s 0 0 A) (F0 m 50 ls []) := by
                  intro fuel_lp_37
                  induction fuel_lp_37 with
                  | zero => intros; omega
                  | succ fuel_lp_37 ih_lp_37 =>
                    intro f j3 H locs ls hm hr_f hi_lp_37_0 hi_lp_37_1 hi_lp_37_2 hO_j3 hfr_j3 hl hH hS
                    refine lv_iload hx hb dX12_findCases_50 (lv_at hl 0 rfl) ?_
                    refine lv_aload_n hx hb dX12_findCases_52 rfl (lv_at hl 5 rfl) ?_
                    have bx_38 : (0 : Int) ≤ (i 36 26).toInt ∧ (i 36 26).toInt ≤ 40 := hO 36 26
                    refine h_geti (ci := 12) (C := RX12) (F := TX12) (N := 86) hx hb hts in12 hown hK hH (by decide) (rfl : kd 36 = 12) (by decide) rfl 26 (by decide) wd3 (fun _ h9 => h9) (by decide) rfl dX12_findCases_53 ?_
                    refine sj_i (y := (i 36 26)) ((hfr_j3 36 26 (by omega)).trans ((hfr_j2 36 26 (by omega)).trans (hfr_j1 36 26 (by omega)))) ?_
                    refine lv_icmp_ge (tgt := 101) hx hb dX12_findCases_56 (by decide) (fun c_39 => ?_) (fun c_39 => ?_)
                    · skip
                      have h_40 := s_le (rfl : (i 36 26).toInt = _) (rfl : f.toInt = _) c_39
                      obtain ⟨z_41, ez_41, hz_41⟩ := s_add (rfl : e9.toInt = _) (show (1 : Int32).toInt = 1 from rfl) (by omega) (by omega)
                      refine lv_iinc (v := z_41) (lv' := [(3, .int z_41), (5, .int f), (4, .int r_32), (2, .int 0), (1, .int u), (0, .ref (g 36))]) hx hb dX12_findCases_101 hl (k := 3) rfl ez_41 (by decide) rfl (fun ls hl => ?_)
                      refine lv_goto (tgt := 14) hx hb dX12_findCases_104 (by decide) ?_
                      have hl_42 : (0 : Int32).toInt = 0 := rfl
                      exact ih_lp_8 0 z_41 _ _ _ ls (by omega) (by omega) (by omega) (by omega) (by rw [show (z_41).toInt - (c1 (42 + 1 * u.toInt.toNat) 7).toInt = e9.toInt - (c1 (42 + 1 * u.toInt.toNat) 7).toInt + 1 by omega]; omega) (by
                                rw [show (z_41).toInt = ((e9.toInt.toNat : Nat) : Int) + 1 by omega, csM_y (n := f.toInt) hin (by omega) (by omega) (by omega)]
                                exact hi_lp_37_1) hi_lp_37_2 hO_j3 (fun a b ha => ((hfr_j3 a b (by omega)).trans (hfr_j2 a b (by omega)))) (lv_sub hl [0, 3, 4, 5] rfl) hH hS
                    · skip
                      have h_43 := s_nle (rfl : (i 36 26).toInt = _) (rfl : f.toInt = _) c_39
                      refine lv_aload_n hx hb dX12_findCases_59 rfl (lv_at hl 5 rfl) ?_
                      refine h_getr (ci := 12) (C := RX12) (F := TX12) (N := 86) hx hb hts in12 hown hK hH (by decide) (rfl : kd 36 = 12) (by decide) rfl 28 (by decide) wd4 (fun _ h9 => h9) (by decide) rfl (t := 392) (hR 36 28 rfl) (by decide) dX12_findCases_60 ?_
                      refine lv_iload hx hb dX12_findCases_63 (lv_at hl 0 rfl) ?_
                      have hF8 := hF9.2 f.toInt.toNat (by omega)
                      refine h_iald hx hb hK hH (by decide) (rfl : kd 392 = 13) (s_vin (N := 40) (rfl : f.toInt = _) (rfl : ln 392 = 40) (by omega) (by omega)) dX12_findCases_65 ?_
                      have ek_44 : f.toNatClampNeg = (f.toInt).toNat := (s_cl (show f.toInt = f.toInt by omega))
                      refine sj_i (y := (i 392 (f.toInt).toNat)) (by rw [ek_44]; exact ((hfr_j3 392 (f.toInt).toNat (by omega)).trans ((hfr_j2 392 (f.toInt).toNat (by omega)).trans (hfr_j1 392 (f.toInt).toNat (by omega))))) ?_
                      refine lv_bipush (v := 100) hx hb dX12_findCases_66 (by decide) ?_
                      refine lv_iload_n hx hb dX12_findCases_68 rfl (lv_at hl 3 rfl) ?_
                      refine lv_iadd hx hb dX12_findCases_69 ?_
                      obtain ⟨z_45, ez_45, hz_45⟩ := s_add (show (100 : Int32).toInt = 100 from rfl) (rfl : e9.toInt = _) (by omega) (by omega)
                      refine sj_i ez_45 ?_
                      refine lv_icmp_ne (tgt := 95) hx hb dX12_findCases_70 (by decide) (fun c_46 => ?_) (fun c_46 => ?_)
                      · skip
                        have h_47 := s_ne (rfl : (i 392 (f.toInt).toNat).toInt = _) (rfl : z_45.toInt = _) c_46
                        have hrg : ¬ ((c1 (84 + 1 * e9.toInt.toNat) 2).toInt ≤ ((f.toInt.toNat : Nat) : Int) ∧ ((f.toInt.toNat : Nat) : Int) < (c1 (84 + 1 * e9.toInt.toNat) 2).toInt + (c1 (84 + 1 * e9.toInt.toNat) 3).toInt) := fun h9 => absurd (hF8.mpr h9) (by omega)
                        obtain ⟨z_48, ez_48, hz_48⟩ := s_add (rfl : f.toInt = _) (show (1 : Int32).toInt = 1 from rfl) (by omega) (by omega)
                        refine lv_iinc (v := z_48) (lv' := [(5, .int z_48), (4, .int r_32), (2, .int 0), (3, .int e9), (1, .int u), (0, .ref (g 36))]) hx hb dX12_findCases_95 hl (k := 0) rfl ez_48 (by decide) rfl (fun ls hl => ?_)
                        refine lv_goto (tgt := 50) hx hb dX12_findCases_98 (by decide) ?_
                        exact ih_lp_37 z_48 _ _ _ ls (by omega) (by omega) (by omega) (by
                                  rw [show (z_48).toInt = ((f.toInt.toNat : Nat) : Int) + 1 by omega, csR_n (by omega), show ((f.toInt.toNat : Nat) : Int) = f.toInt by omega]
                                  exact hi_lp_37_1) hi_lp_37_2 hO_j3 (fun a b ha => (hfr_j3 a b (by omega))) (lv_sub hl [0, 1, 2, 3, 4, 5] rfl) hH hS
                      · skip
                        have h_49 := s_eq (rfl : (i 392 (f.toInt).toNat).toInt = _) (rfl : z_45.toInt = _) c_46
                        have hrg : ((c1 (84 + 1 * e9.toInt.toNat) 2).toInt ≤ ((f.toInt.toNat : Nat) : Int) ∧ ((f.toInt.toNat : Nat) : Int) < (c1 (84 + 1 * e9.toInt.toNat) 2).toInt + (c1 (84 + 1 * e9.toInt.toNat) 3).toInt) := hF8.mp (by omega)
                        refine lv_iload hx hb dX12_findCases_73 (lv_at hl 0 rfl) ?_
                        refine lv_iload hx hb dX12_findCases_75 (lv_at hl 1 rfl) ?_
                        refine lv_icmp_eq (tgt := 95) hx hb dX12_findCases_77 (by decide) (fun c_50 => ?_) (fun c_50 => ?_)
                        · skip
                          have h_51 := s_eq (rfl : f.toInt = _) (rfl : r_32.toInt = _) c_50
                          obtain ⟨z_52, ez_52, hz_52⟩ := s_add (rfl : f.toInt = _) (show (1 : Int32).toInt = 1 from rfl) (by omega) (by omega)
                          refine lv_iinc (v := z_52) (lv' := [(5, .int z_52), (4, .int r_32), (2, .int 0), (3, .int e9), (1, .int u), (0, .ref (g 36))]) hx hb dX12_findCases_95 hl (k := 0) rfl ez_52 (by decide) rfl (fun ls hl => ?_)
                          refine lv_goto (tgt := 50) hx hb dX12_findCases_98 (by decide) ?_
                          exact ih_lp_37 z_52 _ _ _ ls (by omega) (by omega) (by omega) (by
                                    rw [show (z_52).toInt = ((f.toInt.toNat : Nat) : Int) + 1 by omega, csR_n (by omega), show ((f.toInt.toNat : Nat) : Int) = f.toInt by omega]
                                    exact hi_lp_37_1) hi_lp_37_2 hO_j3 (fun a b ha => (hfr_j3 a b (by omega))) (lv_sub hl [0, 1, 2, 3, 4, 5] rfl) hH hS
                        · skip
                          have h_53 := s_ne (rfl : f.toInt = _) (rfl : r_32.toInt = _) c_50
                          refine lv_aload_n hx hb dX12_findCases_80 rfl (lv_at hl 5 rfl) ?_
                          refine lv_iload_n hx hb dX12_findCases_81 rfl (lv_at hl 4 rfl) ?_
                          refine lv_aload_n hx hb dX12_findCases_82 rfl (lv_at hl 5 rfl) ?_
                          refine h_getr (ci := 12) (C := RX12) (F := TX12) (N := 86) hx hb hts in12 hown hK hH (by decide) (rfl : kd 36 = 12) (by decide) rfl 25 (by decide) wd5 (fun _ h9 => h9) (by decide) rfl (t := 391) (hR 36 25 rfl) (by decide) dX12_findCases_83 ?_
                          refine lv_iload_n hx hb dX12_findCases_86 rfl (lv_at hl 3 rfl) ?_
                          have bx_54 : (0 : Int) ≤ (i 391 (e9.toInt).toNat).toInt ∧ (i 391 (e9.toInt).toNat).toInt ≤ 65535 := hO 391 (e9.toInt).toNat
                          refine h_iald hx hb hK hH (by decide) (rfl : kd 391 = 13) (s_vin (N := 12) (rfl : e9.toInt = _) (rfl : ln 391 = 12) (by omega) (by omega)) dX12_findCases_87 ?_
                          have ek_55 : e9.toNatClampNeg = (e9.toInt).toNat := (s_cl (show e9.toInt = e9.toInt by omega))
                          refine sj_i (y := (i 391 (e9.toInt).toNat)) (by rw [ek_55]; exact ((hfr_j3 391 (e9.toInt).toNat (by omega)).trans ((hfr_j2 391 (e9.toInt).toNat (by omega)).trans (hfr_j1 391 (e9.toInt).toNat (by omega))))) ?_
                          refine lv_iload hx hb dX12_findCases_88 (lv_at hl 1 rfl) ?_
                          refine lv_iload hx hb dX12_findCases_90 (lv_at hl 0 rfl) ?_
                          have hyt : ((i 391 (e9.toInt).toNat) : Int32).toInt = (c1 (84 + e9.toInt.toNat) 1).toInt := hE91
                          refine x_callv (va_runV (As := [.int u, .int (i 391 (e9.toInt).toNat), .int r_32, .int f]) (rest := []) ⟨hx, hb, hml, hown, hts⟩ (m_addCase l D g ka ad j3 r L d u (i 391 (e9.toInt).toNat) r_32 f hO_j3 hR H.size (by first | omega | decide) (by first | omega | decide) (by first | omega | decide) (by first | omega | decide) (by first | omega | decide) (by first | omega | decide) (by first | omega | decide) (by first | omega | decide) hi_lp_37_2 (by first | omega | decide)) (cwV 4 hts gX12_findCases_X12_addCase rfl rfl rfl (by decide +kernel) ⟨(Nat.le_of_ble_eq_true rfl), (Nat.le_of_ble_eq_true rfl)⟩) (x_preV (q := (RX12, TX12, 86)) hH hK (q_obj (by decide) (rfl : kd 36 = 12) (by decide)) rfl gxb (gxw hE hS (x_F hH hS hA))) rfl rfl hl.1 rfl (lv_room (Nat.le_of_ble_eq_true rfl)) dX12_findCases_92 ⟨(Nat.le_of_ble_eq_true rfl), (Nat.le_of_ble_eq_true rfl)⟩) hH hS hA rfl rfl (fun im_58 H locs hw_57 hH hS => ?_)
                          have hH : sj_H D A (hwc g ka im_58 r L d) H := hH
                          obtain ⟨hO_60, hfr_59, hx2_61, hx2_62⟩ := hw_57
                          obtain ⟨z_63, ez_63, hz_63⟩ := s_add (rfl : f.toInt = _) (show (1 : Int32).toInt = 1 from rfl) (by omega) (by omega)
                          refine lv_iinc (v := z_63) (lv' := [(5, .int z_63), (4, .int r_32), (2, .int 0), (3, .int e9), (1, .int u), (0, .ref (g 36))]) hx hb dX12_findCases_95 hl (k := 0) rfl ez_63 (by decide) rfl (fun ls hl => ?_)
                          refine lv_goto (tgt := 50) hx hb dX12_findCases_98 (by decide) ?_
                          have hac := hx2_61
                          have hCu := hmC u.toInt.toNat (by omega)
                          have hCu1 := hCu.1
                          have hCu2 := hCu.2.1
                          have hCu3 := hCu.2.2.2.1
                          have h385 : (0 : Int) ≤ (i 385 u.toInt.toNat).toInt := (hO 385 u.toInt.toNat).1
                          have hGg := hmG (i 385 u.toInt.toNat).toInt.toNat (by omega)
                          have hG0 := hmG 0 (by omega)
                          have hGg1 := hGg.1
                          have hG01 := hG0.1
                          have hot : (i 391 (e9.toInt).toNat) ||| j3 383 u.toInt.toNat ||| j3 382 (j3 385 u.toInt.toNat).toInt.toNat ||| j3 382 0 = ortags c1 (42 + 1 * u.toInt.toNat) (c1 (84 + 1 * e9.toInt.toNat) 1) := by
                              rw [show j3 383 u.toInt.toNat = c1 (42 + 1 * u.toInt.toNat) 1 from (((hfr_j3 383 u.toInt.toNat (by omega)).trans ((hfr_j2 383 u.toInt.toNat (by omega)).trans (hfr_j1 383 u.toInt.toNat (by omega))))).trans (Int32.toInt_inj.mp (hCu1.trans (by rw [show 42 + u.toInt.toNat = 42 + 1 * u.toInt.toNat by omega])))]
                              rw [show j3 385 u.toInt.toNat = i 385 u.toInt.toNat from ((hfr_j3 385 u.toInt.toNat (by omega)).trans ((hfr_j2 385 u.toInt.toNat (by omega)).trans (hfr_j1 385 u.toInt.toNat (by omega))))]
                              rw [show j3 382 (i 385 u.toInt.toNat).toInt.toNat = c1 (37 + 1 * (c1 (42 + 1 * u.toInt.toNat) 6).toInt.toNat) 1 from (((hfr_j3 382 (i 385 u.toInt.toNat).toInt.toNat (by omega)).trans ((hfr_j2 382 (i 385 u.toInt.toNat).toInt.toNat (by omega)).trans (hfr_j1 382 (i 385 u.toInt.toNat).toInt.toNat (by omega))))).trans (Int32.toInt_inj.mp (hGg1.trans (by rw [hCu2, show 42 + u.toInt.toNat = 42 + 1 * u.toInt.toNat by omega, show ∀ X9 : Nat, 37 + 1 * X9 = 37 + X9 from fun X9 => by omega])))]
                              rw [show j3 382 0 = c1 37 1 from (((hfr_j3 382 0 (by omega)).trans ((hfr_j2 382 0 (by omega)).trans (hfr_j1 382 0 (by omega))))).trans (Int32.toInt_inj.mp hG01)]
                              rw [show (i 391 (e9.toInt).toNat) = c1 (84 + 1 * e9.toInt.toNat) 1 from Int32.toInt_inj.mp (hyt.trans (by rw [show 84 + e9.toInt.toNat = 84 + 1 * e9.toInt.toNat by omega]))]; exact or4 _ _ _ _
                          rw [hot] at hac
                          exact ih_lp_37 z_63 _ _ _ ls (by omega) (by omega) (by omega) (by
                                    rw [show (z_63).toInt = ((f.toInt.toNat : Nat) : Int) + 1 by omega, csR_y (by omega), ← take_app, show ((f.toInt.toNat : Nat) : Int) = f.toInt by omega]
                                    exact (mcP_add hi_lp_37_1 (mcP_len hO_j3 hi_lp_37_1) (hac.elim (fun q9 => Or.inl q9) (fun q9 => Or.inr ⟨q9.1, q9.2.1, by have := q9.2.2.1; omega, q9.2.2.2.1, q9.2.2.2.2⟩)))) hx2_62 hO_60 (fun a b ha => ((hfr_59 a b (by omega)).trans (hfr_j3 a b (by omega)))) (lv_sub hl [0, 1, 2, 3, 4, 5] rfl) hH hS
                have hl_64 : (0 : Int32).toInt = 0 := rfl
                exact lp_37 _ 0 _ _ _ ls (Nat.lt_succ_self _) (by omega) (by omega) (by rw [show (0 : Int32).toInt = 0 from rfl, csR_0 (by omega), show ((e9.toInt.toNat : Nat) : Int) = e9.toInt by omega]; exact hi_lp_8_2) hi_lp_8_3 hO_j2 (fun a b ha => rfl) (lv_sub hl [0, 1, 2, 3, 4, 5] rfl) hH hS
              · skip
                have h_65 := s_ne (rfl : (i 390 (e9.toInt).toNat).toInt = _) (rfl : u.toInt = _) c_29
                have hnin : ¬ ((c1 (42 + 1 * u.toInt.toNat) 7).toInt ≤ ((e9.toInt.toNat : Nat) : Int) ∧ ((e9.toInt.toNat : Nat) : Int) < (c1 (42 + 1 * u.toInt.toNat) 7).toInt + (c1 (42 + 1 * u.toInt.toNat) 8).toInt) := by rw [show 42 + 1 * u.toInt.toNat = 42 + u.toInt.toNat by omega]; exact fun h9 => absurd (hE7.mpr h9) (by omega)
                refine lv_goto (tgt := 101) hx hb dX12_findCases_32 (by decide) ?_
                obtain ⟨z_66, ez_66, hz_66⟩ := s_add (rfl : e9.toInt = _) (show (1 : Int32).toInt = 1 from rfl) (by omega) (by omega)
                refine lv_iinc (v := z_66) (lv' := [(3, .int z_66), (2, .int t), (1, .int u), (0, .ref (g 36))]) hx hb dX12_findCases_101 hl (k := 0) rfl ez_66 (by decide) rfl (fun ls hl => ?_)
                refine lv_goto (tgt := 14) hx hb dX12_findCases_104 (by decide) ?_
                exact ih_lp_8 t z_66 _ _ _ ls (by omega) (by omega) (by omega) (by omega) (by rw [show (z_66).toInt - (c1 (42 + 1 * u.toInt.toNat) 7).toInt = e9.toInt - (c1 (42 + 1 * u.toInt.toNat) 7).toInt + 1 by omega]; omega) (by
                          rw [show (z_66).toInt = ((e9.toInt.toNat : Nat) : Int) + 1 by omega, csM_n hnin, show ((e9.toInt.toNat : Nat) : Int) = e9.toInt by omega]
                          exact hi_lp_8_2) hi_lp_8_3 hO_j2 (fun a b ha => (hfr_j2 a b (by omega))) (lv_sub hl [0, 1, 2, 3] rfl) hH hS
        have hl_67 : (1 : Int32).toInt = 1 := rfl
        have hl_68 : (0 : Int32).toInt = 0 := rfl
        exact lp_8 _ 1 0 _ _ _ ls (Nat.lt_succ_self _) (by omega) (by omega) (by omega) (Or.inl ⟨rfl, clp_0 (by rw [show (0 : Int32).toInt = 0 from rfl]; have := hb42 u.toInt.toNat (by omega); omega)⟩) (by rw [show (0 : Int32).toInt = 0 from rfl, csM_0 (by have := hb42 u.toInt.toNat (by omega); omega)]; exact hi_lp_1_1) hi_lp_1_2 hO_j1 (fun a b ha => rfl) (lv_sub hl [0, 1, 2, 3] rfl) hH hS
  have hl_69 : (0 : Int32).toInt = 0 := rfl
  exact lp_1 _ 0 _ _ _ ls (Nat.lt_succ_self _) (by omega) (by omega) (by rw [show (0 : Int32).toInt.toNat = 0 from rfl]; exact ⟨by rw [hz0]; rfl, fun c s t h => by simp [csA] at h⟩) hnr hO (fun a b ha => rfl) (lv_sub hl [0, 1] rfl) hH hS
