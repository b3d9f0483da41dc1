theorem dX5_enterStep_0 : decode cX5_enterStep 0 = .ok (.aload_n 0, 1) := by decide +kernel
theorem dX5_enterStep_1 : decode cX5_enterStep 1 = .ok (.aload_n 0, 1) := by decide +kernel
theorem dX5_enterStep_2 : decode cX5_enterStep 2 = .ok (.getfield 37, 3) := by decide +kernel
theorem dX5_enterStep_5 : decode cX5_enterStep 5 = .ok (.aload_n 0, 1) := by decide +kernel
theorem dX5_enterStep_6 : decode cX5_enterStep 6 = .ok (.getfield 100, 3) := by decide +kernel
theorem dX5_enterStep_9 : decode cX5_enterStep 9 = .ok (.aaload, 1) := by decide +kernel
theorem dX5_enterStep_10 : decode cX5_enterStep 10 = .ok (.putfield 54, 3) := by decide +kernel
theorem dX5_enterStep_13 : decode cX5_enterStep 13 = .ok (.aload_n 0, 1) := by decide +kernel
theorem dX5_enterStep_14 : decode cX5_enterStep 14 = .ok (.dup, 1) := by decide +kernel
theorem dX5_enterStep_15 : decode cX5_enterStep 15 = .ok (.getfield 100, 3) := by decide +kernel
theorem dX5_enterStep_18 : decode cX5_enterStep 18 = .ok (.iconst 1, 1) := by decide +kernel
theorem dX5_enterStep_19 : decode cX5_enterStep 19 = .ok (.iadd, 1) := by decide +kernel
theorem dX5_enterStep_20 : decode cX5_enterStep 20 = .ok (.putfield 100, 3) := by decide +kernel
theorem dX5_enterStep_23 : decode cX5_enterStep 23 = .ok (.aload_n 0, 1) := by decide +kernel
theorem dX5_enterStep_24 : decode cX5_enterStep 24 = .ok (.getfield 54, 3) := by decide +kernel
theorem dX5_enterStep_27 : decode cX5_enterStep 27 = .ok (.iload_n 1, 1) := by decide +kernel
theorem dX5_enterStep_28 : decode cX5_enterStep 28 = .ok (.iconst 0, 1) := by decide +kernel
theorem dX5_enterStep_29 : decode cX5_enterStep 29 = .ok (.aload_n 0, 1) := by decide +kernel
theorem dX5_enterStep_30 : decode cX5_enterStep 30 = .ok (.getfield 106, 3) := by decide +kernel
theorem dX5_enterStep_33 : decode cX5_enterStep 33 = .ok (.invokevirtual 171, 3) := by decide +kernel
theorem dX5_enterStep_36 : decode cX5_enterStep 36 = .ok (.aload_n 0, 1) := by decide +kernel
theorem dX5_enterStep_37 : decode cX5_enterStep 37 = .ok (.getfield 54, 3) := by decide +kernel
theorem dX5_enterStep_40 : decode cX5_enterStep 40 = .ok (.iload_n 2, 1) := by decide +kernel
theorem dX5_enterStep_41 : decode cX5_enterStep 41 = .ok (.putfield 182, 3) := by decide +kernel
theorem dX5_enterStep_44 : decode cX5_enterStep 44 = .ok (.aload_n 0, 1) := by decide +kernel
theorem dX5_enterStep_45 : decode cX5_enterStep 45 = .ok (.getfield 54, 3) := by decide +kernel
theorem dX5_enterStep_48 : decode cX5_enterStep 48 = .ok (.iload_n 3, 1) := by decide +kernel
theorem dX5_enterStep_49 : decode cX5_enterStep 49 = .ok (.iload_n 2, 1) := by decide +kernel
theorem dX5_enterStep_50 : decode cX5_enterStep 50 = .ok (.isub, 1) := by decide +kernel
theorem dX5_enterStep_51 : decode cX5_enterStep 51 = .ok (.bipush 60, 2) := by decide +kernel
theorem dX5_enterStep_53 : decode cX5_enterStep 53 = .ok (.invokestatic 185, 3) := by decide +kernel
theorem dX5_enterStep_56 : decode cX5_enterStep 56 = .ok (.putfield 190, 3) := by decide +kernel
theorem dX5_enterStep_59 : decode cX5_enterStep 59 = .ok (.aload_n 0, 1) := by decide +kernel
theorem dX5_enterStep_60 : decode cX5_enterStep 60 = .ok (.getfield 50, 3) := by decide +kernel
theorem dX5_enterStep_63 : decode cX5_enterStep 63 = .ok (.dup, 1) := by decide +kernel
theorem dX5_enterStep_64 : decode cX5_enterStep 64 = .ok (.getfield 158, 3) := by decide +kernel
theorem dX5_enterStep_67 : decode cX5_enterStep 67 = .ok (.iconst 1, 1) := by decide +kernel
theorem dX5_enterStep_68 : decode cX5_enterStep 68 = .ok (.iadd, 1) := by decide +kernel
theorem dX5_enterStep_69 : decode cX5_enterStep 69 = .ok (.putfield 158, 3) := by decide +kernel
theorem dX5_enterStep_72 : decode cX5_enterStep 72 = .ok (.aload_n 0, 1) := by decide +kernel
theorem dX5_enterStep_73 : decode cX5_enterStep 73 = .ok (.aload_n 0, 1) := by decide +kernel
theorem dX5_enterStep_74 : decode cX5_enterStep 74 = .ok (.getfield 78, 3) := by decide +kernel
theorem dX5_enterStep_77 : decode cX5_enterStep 77 = .ok (.iconst 3, 1) := by decide +kernel
theorem dX5_enterStep_78 : decode cX5_enterStep 78 = .ok (.if_icmp .gt 7, 3) := by decide +kernel
theorem dX5_enterStep_85 : decode cX5_enterStep 85 = .ok (.iconst 5, 1) := by decide +kernel
theorem dX5_enterStep_86 : decode cX5_enterStep 86 = .ok (.putfield 78, 3) := by decide +kernel
theorem dX5_enterStep_89 : decode cX5_enterStep 89 = .ok (.return_, 1) := by decide +kernel
theorem dX5_enterStep_81 : decode cX5_enterStep 81 = .ok (.iconst 3, 1) := by decide +kernel
theorem dX5_enterStep_82 : decode cX5_enterStep 82 = .ok (.goto 4, 3) := by decide +kernel
theorem dX5_enterRow_0 : decode cX5_enterRow 0 = .ok (.aload_n 0, 1) := by decide +kernel
theorem dX5_enterRow_1 : decode cX5_enterRow 1 = .ok (.getfield 45, 3) := by decide +kernel
theorem dX5_enterRow_4 : decode cX5_enterRow 4 = .ok (.aload_n 0, 1) := by decide +kernel
theorem dX5_enterRow_5 : decode cX5_enterRow 5 = .ok (.getfield 106, 3) := by decide +kernel
theorem dX5_enterRow_8 : decode cX5_enterRow 8 = .ok (.aaload, 1) := by decide +kernel
theorem dX5_enterRow_9 : decode cX5_enterRow 9 = .ok (.astore 4, 2) := by decide +kernel
theorem dX5_enterRow_11 : decode cX5_enterRow 11 = .ok (.aload_n 0, 1) := by decide +kernel
theorem dX5_enterRow_12 : decode cX5_enterRow 12 = .ok (.dup, 1) := by decide +kernel
theorem dX5_enterRow_13 : decode cX5_enterRow 13 = .ok (.getfield 106, 3) := by decide +kernel
theorem dX5_enterRow_16 : decode cX5_enterRow 16 = .ok (.iconst 1, 1) := by decide +kernel
theorem dX5_enterRow_17 : decode cX5_enterRow 17 = .ok (.iadd, 1) := by decide +kernel
theorem dX5_enterRow_18 : decode cX5_enterRow 18 = .ok (.putfield 106, 3) := by decide +kernel
theorem dX5_enterRow_21 : decode cX5_enterRow 21 = .ok (.aload_n 0, 1) := by decide +kernel
theorem dX5_enterRow_22 : decode cX5_enterRow 22 = .ok (.getfield 54, 3) := by decide +kernel
theorem dX5_enterRow_25 : decode cX5_enterRow 25 = .ok (.dup, 1) := by decide +kernel
theorem dX5_enterRow_26 : decode cX5_enterRow 26 = .ok (.getfield 158, 3) := by decide +kernel
theorem dX5_enterRow_29 : decode cX5_enterRow 29 = .ok (.iconst 1, 1) := by decide +kernel
theorem dX5_enterRow_30 : decode cX5_enterRow 30 = .ok (.iadd, 1) := by decide +kernel
theorem dX5_enterRow_31 : decode cX5_enterRow 31 = .ok (.putfield 158, 3) := by decide +kernel
theorem dX5_enterRow_34 : decode cX5_enterRow 34 = .ok (.aload 4, 2) := by decide +kernel
theorem dX5_enterRow_36 : decode cX5_enterRow 36 = .ok (.iload_n 1, 1) := by decide +kernel
theorem dX5_enterRow_37 : decode cX5_enterRow 37 = .ok (.putfield 191, 3) := by decide +kernel
theorem dX5_enterRow_40 : decode cX5_enterRow 40 = .ok (.aload 4, 2) := by decide +kernel
theorem dX5_enterRow_42 : decode cX5_enterRow 42 = .ok (.iconst 0, 1) := by decide +kernel
theorem dX5_enterRow_43 : decode cX5_enterRow 43 = .ok (.putfield 164, 3) := by decide +kernel
theorem dX5_enterRow_46 : decode cX5_enterRow 46 = .ok (.iload_n 2, 1) := by decide +kernel
theorem dX5_enterRow_47 : decode cX5_enterRow 47 = .ok (.iconst 1, 1) := by decide +kernel
theorem dX5_enterRow_48 : decode cX5_enterRow 48 = .ok (.iadd, 1) := by decide +kernel
theorem dX5_enterRow_49 : decode cX5_enterRow 49 = .ok (.istore 5, 2) := by decide +kernel
theorem dX5_enterRow_51 : decode cX5_enterRow 51 = .ok (.iload_n 2, 1) := by decide +kernel
theorem dX5_enterRow_52 : decode cX5_enterRow 52 = .ok (.iconst 1, 1) := by decide +kernel
theorem dX5_enterRow_53 : decode cX5_enterRow 53 = .ok (.iadd, 1) := by decide +kernel
theorem dX5_enterRow_54 : decode cX5_enterRow 54 = .ok (.istore 6, 2) := by decide +kernel
theorem dX5_enterRow_56 : decode cX5_enterRow 56 = .ok (.iload 6, 2) := by decide +kernel
theorem dX5_enterRow_58 : decode cX5_enterRow 58 = .ok (.iload_n 3, 1) := by decide +kernel
theorem dX5_enterRow_59 : decode cX5_enterRow 59 = .ok (.if_icmp .ge 99, 3) := by decide +kernel
theorem dX5_enterRow_158 : decode cX5_enterRow 158 = .ok (.aload_n 0, 1) := by decide +kernel
theorem dX5_enterRow_159 : decode cX5_enterRow 159 = .ok (.aload_n 0, 1) := by decide +kernel
theorem dX5_enterRow_160 : decode cX5_enterRow 160 = .ok (.getfield 78, 3) := by decide +kernel
theorem dX5_enterRow_163 : decode cX5_enterRow 163 = .ok (.bipush 6, 2) := by decide +kernel
theorem dX5_enterRow_165 : decode cX5_enterRow 165 = .ok (.if_icmp .lt 8, 3) := by decide +kernel
theorem dX5_enterRow_173 : decode cX5_enterRow 173 = .ok (.aload_n 0, 1) := by decide +kernel
theorem dX5_enterRow_174 : decode cX5_enterRow 174 = .ok (.getfield 78, 3) := by decide +kernel
theorem dX5_enterRow_177 : decode cX5_enterRow 177 = .ok (.putfield 78, 3) := by decide +kernel
theorem dX5_enterRow_180 : decode cX5_enterRow 180 = .ok (.return_, 1) := by decide +kernel
theorem dX5_enterRow_168 : decode cX5_enterRow 168 = .ok (.bipush 7, 2) := by decide +kernel
theorem dX5_enterRow_170 : decode cX5_enterRow 170 = .ok (.goto 7, 3) := by decide +kernel
theorem dX5_enterRow_62 : decode cX5_enterRow 62 = .ok (.aload_n 0, 1) := by decide +kernel
theorem dX5_enterRow_63 : decode cX5_enterRow 63 = .ok (.getfield 16, 3) := by decide +kernel
theorem dX5_enterRow_66 : decode cX5_enterRow 66 = .ok (.iload 6, 2) := by decide +kernel
theorem dX5_enterRow_68 : decode cX5_enterRow 68 = .ok (.invokevirtual 116, 3) := by decide +kernel
theorem dX5_enterRow_71 : decode cX5_enterRow 71 = .ok (.bipush 124, 2) := by decide +kernel
theorem dX5_enterRow_73 : decode cX5_enterRow 73 = .ok (.if_icmp .ne 79, 3) := by decide +kernel
theorem dX5_enterRow_152 : decode cX5_enterRow 152 = .ok (.iinc 6 1, 3) := by decide +kernel
theorem dX5_enterRow_155 : decode cX5_enterRow 155 = .ok (.goto (-99), 3) := by decide +kernel
theorem dX5_enterRow_76 : decode cX5_enterRow 76 = .ok (.aload 4, 2) := by decide +kernel
theorem dX5_enterRow_78 : decode cX5_enterRow 78 = .ok (.getfield 164, 3) := by decide +kernel
theorem dX5_enterRow_81 : decode cX5_enterRow 81 = .ok (.iconst 4, 1) := by decide +kernel
theorem dX5_enterRow_82 : decode cX5_enterRow 82 = .ok (.if_icmp .ge 70, 3) := by decide +kernel
theorem dX5_enterRow_85 : decode cX5_enterRow 85 = .ok (.aload_n 0, 1) := by decide +kernel
theorem dX5_enterRow_86 : decode cX5_enterRow 86 = .ok (.iload 5, 2) := by decide +kernel
theorem dX5_enterRow_88 : decode cX5_enterRow 88 = .ok (.iload 6, 2) := by decide +kernel
theorem dX5_enterRow_90 : decode cX5_enterRow 90 = .ok (.invokevirtual 109, 3) := by decide +kernel
theorem dX5_enterRow_93 : decode cX5_enterRow 93 = .ok (.istore 7, 2) := by decide +kernel
theorem dX5_enterRow_95 : decode cX5_enterRow 95 = .ok (.aload 4, 2) := by decide +kernel
theorem dX5_enterRow_97 : decode cX5_enterRow 97 = .ok (.getfield 194, 3) := by decide +kernel
theorem dX5_enterRow_100 : decode cX5_enterRow 100 = .ok (.aload 4, 2) := by decide +kernel
theorem dX5_enterRow_102 : decode cX5_enterRow 102 = .ok (.getfield 164, 3) := by decide +kernel
theorem dX5_enterRow_105 : decode cX5_enterRow 105 = .ok (.iload 7, 2) := by decide +kernel
theorem dX5_enterRow_107 : decode cX5_enterRow 107 = .ok (.iastore, 1) := by decide +kernel
theorem dX5_enterRow_108 : decode cX5_enterRow 108 = .ok (.aload 4, 2) := by decide +kernel
theorem dX5_enterRow_110 : decode cX5_enterRow 110 = .ok (.getfield 197, 3) := by decide +kernel
theorem dX5_enterRow_113 : decode cX5_enterRow 113 = .ok (.aload 4, 2) := by decide +kernel
theorem dX5_enterRow_115 : decode cX5_enterRow 115 = .ok (.getfield 164, 3) := by decide +kernel
theorem dX5_enterRow_118 : decode cX5_enterRow 118 = .ok (.aload_n 0, 1) := by decide +kernel
theorem dX5_enterRow_119 : decode cX5_enterRow 119 = .ok (.iload 7, 2) := by decide +kernel
theorem dX5_enterRow_121 : decode cX5_enterRow 121 = .ok (.iload 6, 2) := by decide +kernel
theorem dX5_enterRow_123 : decode cX5_enterRow 123 = .ok (.invokevirtual 113, 3) := by decide +kernel
theorem dX5_enterRow_126 : decode cX5_enterRow 126 = .ok (.iload 7, 2) := by decide +kernel
theorem dX5_enterRow_128 : decode cX5_enterRow 128 = .ok (.isub, 1) := by decide +kernel
theorem dX5_enterRow_129 : decode cX5_enterRow 129 = .ok (.bipush 60, 2) := by decide +kernel
theorem dX5_enterRow_131 : decode cX5_enterRow 131 = .ok (.invokestatic 185, 3) := by decide +kernel
theorem dX5_enterRow_134 : decode cX5_enterRow 134 = .ok (.iastore, 1) := by decide +kernel
theorem dX5_enterRow_135 : decode cX5_enterRow 135 = .ok (.aload 4, 2) := by decide +kernel
theorem dX5_enterRow_137 : decode cX5_enterRow 137 = .ok (.dup, 1) := by decide +kernel
theorem dX5_enterRow_138 : decode cX5_enterRow 138 = .ok (.getfield 164, 3) := by decide +kernel
theorem dX5_enterRow_141 : decode cX5_enterRow 141 = .ok (.iconst 1, 1) := by decide +kernel
theorem dX5_enterRow_142 : decode cX5_enterRow 142 = .ok (.iadd, 1) := by decide +kernel
theorem dX5_enterRow_143 : decode cX5_enterRow 143 = .ok (.putfield 164, 3) := by decide +kernel
theorem dX5_enterRow_146 : decode cX5_enterRow 146 = .ok (.iload 6, 2) := by decide +kernel
theorem dX5_enterRow_148 : decode cX5_enterRow 148 = .ok (.iconst 1, 1) := by decide +kernel
theorem dX5_enterRow_149 : decode cX5_enterRow 149 = .ok (.iadd, 1) := by decide +kernel
theorem dX5_enterRow_150 : decode cX5_enterRow 150 = .ok (.istore 5, 2) := by decide +kernel
theorem gX5_enterStep_X4_begin : GoodIn wsX5_enterStep (wsV RX5 171 RX4 yX4_begin wsX4_begin) := goodIn_app (goodIn_sub (List.forall_mem_cons.mpr ⟨(List.mem_cons_of_mem _ (List.mem_append_left _ (List.mem_append_left _ lm13))), List.forall_mem_cons.mpr ⟨(List.mem_cons_of_mem _ (List.mem_append_left _ (List.mem_append_left _ lm14))), List.forall_mem_cons.mpr ⟨(List.mem_cons_of_mem _ (List.mem_append_left _ (List.mem_append_left _ lm15))), List.forall_mem_cons.mpr ⟨(List.mem_cons_of_mem _ (List.mem_append_left _ (List.mem_append_left _ lm16))), (fun _ h => absurd h List.not_mem_nil)⟩⟩⟩⟩) (by decide +kernel)) (goodIn_sub (by unfold wsX4_begin; exact List.forall_mem_cons.mpr ⟨(List.mem_cons_of_mem _ (List.mem_append_left _ (List.mem_append_left _ lm17))), List.forall_mem_append.mpr ⟨List.forall_mem_cons.mpr ⟨(List.mem_cons_of_mem _ (List.mem_append_left _ (List.mem_append_left _ lm18))), List.forall_mem_cons.mpr ⟨(List.mem_cons_of_mem _ (List.mem_append_left _ (List.mem_append_left _ lm19))), List.forall_mem_cons.mpr ⟨(List.mem_cons_of_mem _ (List.mem_append_left _ (List.mem_append_left _ lm20))), List.forall_mem_cons.mpr ⟨(List.mem_cons_of_mem _ (List.mem_append_left _ (List.mem_append_left _ lm21))), List.forall_mem_cons.mpr ⟨(List.mem_cons_of_mem _ (List.mem_append_left _ (List.mem_append_left _ lm22))), (fun _ h => absurd h List.not_mem_nil)⟩⟩⟩⟩⟩, (fun _ h => (List.mem_cons_of_mem _ (List.mem_append_right _ h)))⟩⟩) gw_X4_begin)
theorem gX5_enterRow_X3_at : GoodIn wsX5_enterRow (wsV RX5 116 RX3 yX3_at wsX3_at) := goodIn_app (goodIn_sub (List.forall_mem_cons.mpr ⟨(List.mem_cons_of_mem _ (List.mem_append_left _ (List.mem_append_left _ (List.mem_append_left _ (List.mem_append_left _ (List.mem_append_left _ lm14)))))), List.forall_mem_cons.mpr ⟨(List.mem_cons_of_mem _ (List.mem_append_left _ (List.mem_append_left _ (List.mem_append_left _ (List.mem_append_left _ (List.mem_append_left _ lm15)))))), List.forall_mem_cons.mpr ⟨(List.mem_cons_of_mem _ (List.mem_append_left _ (List.mem_append_left _ (List.mem_append_left _ (List.mem_append_left _ (List.mem_append_left _ lm16)))))), List.forall_mem_cons.mpr ⟨(List.mem_cons_of_mem _ (List.mem_append_left _ (List.mem_append_left _ (List.mem_append_left _ (List.mem_append_left _ (List.mem_append_left _ lm17)))))), (fun _ h => absurd h List.not_mem_nil)⟩⟩⟩⟩) (by decide +kernel)) (goodIn_sub (by unfold wsX3_at; exact List.forall_mem_cons.mpr ⟨(List.mem_cons_of_mem _ (List.mem_append_left _ (List.mem_append_left _ (List.mem_append_left _ (List.mem_append_left _ (List.mem_append_left _ lm18)))))), List.forall_mem_append.mpr ⟨List.forall_mem_cons.mpr ⟨(List.mem_cons_of_mem _ (List.mem_append_left _ (List.mem_append_left _ (List.mem_append_left _ (List.mem_append_left _ (List.mem_append_left _ lm19)))))), List.forall_mem_cons.mpr ⟨(List.mem_cons_of_mem _ (List.mem_append_left _ (List.mem_append_left _ (List.mem_append_left _ (List.mem_append_left _ (List.mem_append_left _ lm20)))))), (fun _ h => absurd h List.not_mem_nil)⟩⟩, (fun _ h => (List.mem_cons_of_mem _ (List.mem_append_right _ h)))⟩⟩) gw_X3_at)
theorem gw_X5_skipBlanks : wsX5_skipBlanks.all goodWord = true := by decide +kernel
theorem gX5_enterRow_X5_skipBlanks : GoodIn wsX5_enterRow (wsV RX5 109 RX5 yX5_skipBlanks wsX5_skipBlanks) := goodIn_app (goodIn_sub (List.forall_mem_cons.mpr ⟨(List.mem_cons_of_mem _ (List.mem_append_left _ (List.mem_append_left _ (List.mem_append_left _ (List.mem_append_left _ (List.mem_append_left _ lm21)))))), List.forall_mem_cons.mpr ⟨(List.mem_cons_of_mem _ (List.mem_append_left _ (List.mem_append_left _ (List.mem_append_left _ (List.mem_append_left _ (List.mem_append_left _ lm22)))))), List.forall_mem_cons.mpr ⟨(List.mem_cons_of_mem _ (List.mem_append_left _ (List.mem_append_left _ (List.mem_append_left _ (List.mem_append_left _ (List.mem_append_left _ lm23)))))), List.forall_mem_cons.mpr ⟨(List.mem_cons_of_mem _ (List.mem_append_left _ (List.mem_append_left _ (List.mem_append_left _ (List.mem_append_left _ (List.mem_append_right _ lm0)))))), (fun _ h => absurd h List.not_mem_nil)⟩⟩⟩⟩) (by decide +kernel)) (goodIn_sub (by unfold wsX5_skipBlanks; exact List.forall_mem_cons.mpr ⟨(List.mem_cons_of_mem _ (List.mem_append_left _ (List.mem_append_left _ (List.mem_append_left _ (List.mem_append_left _ (List.mem_append_right _ lm1)))))), List.forall_mem_append.mpr ⟨List.forall_mem_append.mpr ⟨List.forall_mem_cons.mpr ⟨(List.mem_cons_of_mem _ (List.mem_append_left _ (List.mem_append_left _ (List.mem_append_left _ (List.mem_append_left _ (List.mem_append_left _ lm6)))))), List.forall_mem_cons.mpr ⟨(List.mem_cons_of_mem _ (List.mem_append_left _ (List.mem_append_left _ (List.mem_append_left _ (List.mem_append_left _ (List.mem_append_left _ lm14)))))), List.forall_mem_cons.mpr ⟨(List.mem_cons_of_mem _ (List.mem_append_left _ (List.mem_append_left _ (List.mem_append_left _ (List.mem_append_left _ (List.mem_append_left _ lm15)))))), List.forall_mem_cons.mpr ⟨(List.mem_cons_of_mem _ (List.mem_append_left _ (List.mem_append_left _ (List.mem_append_left _ (List.mem_append_left _ (List.mem_append_left _ lm16)))))), List.forall_mem_cons.mpr ⟨(List.mem_cons_of_mem _ (List.mem_append_left _ (List.mem_append_left _ (List.mem_append_left _ (List.mem_append_left _ (List.mem_append_left _ lm17)))))), List.forall_mem_cons.mpr ⟨(List.mem_cons_of_mem _ (List.mem_append_left _ (List.mem_append_left _ (List.mem_append_left _ (List.mem_append_left _ (List.mem_append_left _ lm18)))))), List.forall_mem_cons.mpr ⟨(List.mem_cons_of_mem _ (List.mem_append_left _ (List.mem_append_left _ (List.mem_append_left _ (List.mem_append_left _ (List.mem_append_left _ lm19)))))), List.forall_mem_cons.mpr ⟨(List.mem_cons_of_mem _ (List.mem_append_left _ (List.mem_append_left _ (List.mem_append_left _ (List.mem_append_left _ (List.mem_append_left _ lm20)))))), (fun _ h => absurd h List.not_mem_nil)⟩⟩⟩⟩⟩⟩⟩⟩, (fun _ h => (List.mem_cons_of_mem _ (List.mem_append_left _ (List.mem_append_left _ (List.mem_append_left _ (List.mem_append_right _ h))))))⟩, (fun _ h => (List.mem_cons_of_mem _ (List.mem_append_right _ h)))⟩⟩) gw_X5_skipBlanks)
theorem gw_X5_dropBlanks : wsX5_dropBlanks.all goodWord = true := by decide +kernel
theorem gX5_enterRow_X5_dropBlanks : GoodIn wsX5_enterRow (wsV RX5 113 RX5 yX5_dropBlanks wsX5_dropBlanks) := goodIn_app (goodIn_sub (List.forall_mem_cons.mpr ⟨(List.mem_cons_of_mem _ (List.mem_append_left _ (List.mem_append_left _ (List.mem_append_left _ (List.mem_append_left _ (List.mem_append_right _ lm2)))))), List.forall_mem_cons.mpr ⟨(List.mem_cons_of_mem _ (List.mem_append_left _ (List.mem_append_left _ (List.mem_append_left _ (List.mem_append_left _ (List.mem_append_right _ lm3)))))), List.forall_mem_cons.mpr ⟨(List.mem_cons_of_mem _ (List.mem_append_left _ (List.mem_append_left _ (List.mem_append_left _ (List.mem_append_left _ (List.mem_append_right _ lm4)))))), List.forall_mem_cons.mpr ⟨(List.mem_cons_of_mem _ (List.mem_append_left _ (List.mem_append_left _ (List.mem_append_left _ (List.mem_append_left _ (List.mem_append_right _ lm0)))))), (fun _ h => absurd h List.not_mem_nil)⟩⟩⟩⟩) (by decide +kernel)) (goodIn_sub (by unfold wsX5_dropBlanks; exact List.forall_mem_cons.mpr ⟨(List.mem_cons_of_mem _ (List.mem_append_left _ (List.mem_append_left _ (List.mem_append_left _ (List.mem_append_left _ (List.mem_append_right _ lm5)))))), List.forall_mem_append.mpr ⟨List.forall_mem_append.mpr ⟨List.forall_mem_cons.mpr ⟨(List.mem_cons_of_mem _ (List.mem_append_left _ (List.mem_append_left _ (List.mem_append_left _ (List.mem_append_left _ (List.mem_append_left _ lm6)))))), List.forall_mem_cons.mpr ⟨(List.mem_cons_of_mem _ (List.mem_append_left _ (List.mem_append_left _ (List.mem_append_left _ (List.mem_append_left _ (List.mem_append_left _ lm14)))))), List.forall_mem_cons.mpr ⟨(List.mem_cons_of_mem _ (List.mem_append_left _ (List.mem_append_left _ (List.mem_append_left _ (List.mem_append_left _ (List.mem_append_left _ lm15)))))), List.forall_mem_cons.mpr ⟨(List.mem_cons_of_mem _ (List.mem_append_left _ (List.mem_append_left _ (List.mem_append_left _ (List.mem_append_left _ (List.mem_append_left _ lm16)))))), List.forall_mem_cons.mpr ⟨(List.mem_cons_of_mem _ (List.mem_append_left _ (List.mem_append_left _ (List.mem_append_left _ (List.mem_append_left _ (List.mem_append_left _ lm17)))))), List.forall_mem_cons.mpr ⟨(List.mem_cons_of_mem _ (List.mem_append_left _ (List.mem_append_left _ (List.mem_append_left _ (List.mem_append_left _ (List.mem_append_left _ lm18)))))), List.forall_mem_cons.mpr ⟨(List.mem_cons_of_mem _ (List.mem_append_left _ (List.mem_append_left _ (List.mem_append_left _ (List.mem_append_left _ (List.mem_append_left _ lm19)))))), List.forall_mem_cons.mpr ⟨(List.mem_cons_of_mem _ (List.mem_append_left _ (List.mem_append_left _ (List.mem_append_left _ (List.mem_append_left _ (List.mem_append_left _ lm20)))))), (fun _ h => absurd h List.not_mem_nil)⟩⟩⟩⟩⟩⟩⟩⟩, (fun _ h => (List.mem_cons_of_mem _ (List.mem_append_left _ (List.mem_append_left _ (List.mem_append_left _ (List.mem_append_right _ h))))))⟩, (fun _ h => (List.mem_cons_of_mem _ (List.mem_append_right _ h)))⟩⟩) gw_X5_dropBlanks)
set_option maxHeartbeats 2000000 in
set_option maxRecDepth 100000 in
theorem k_enterStep (l : Launch) (D : va_G) (g : Nat → Nat) (ka : Nat → ClassId) (ad : Nat → Nat) (i : Nat → Nat → Int32) (r : Nat → Nat → Nat) (L : Nat → Nat → Int64) (d : Nat → Nat → UInt64) (x : Int32) (y : Int32) (z : Int32) (hO : OkI i) (hR : RS r) (sz : Nat) (hy0 : 0 ≤ y.toInt) (hyz : y.toInt ≤ z.toInt) (hz1 : z.toInt ≤ 480) (hst : (i 3 10).toInt < 30) (hQ0 : 37 ≤ r 3 17 ∧ r 3 17 < 54 ∧ 54 ≤ r 3 18 ∧ r 3 18 < 96) (hPO : PO i) : Met l yX5_enterStep wsX5_enterStep ({ frames := 1, cells := 0, slots := 0, locals := 30 }) (va_Pc [.ref (g 3), .int x, .int y, .int z] (sj_B D (hwc g ka i r L d) (hT ka) sz (gx ad (va_A (hwc g ka i r L d) sz)))) (sj_Qv (S := (Nat → Nat → Int32) × (Nat → Nat → Nat)) D (fun u => OkI u.1 ∧ (∀ a, ¬ (a = 3 ∨ (37 ≤ a ∧ a < 96)) → u.1 a = i a) ∧ RS u.2 ∧ (∀ a b, ¬ ((a = 3 ∧ (b = 17 ∨ b = 18))) → u.2 a b = r a b) ∧ (stQ i (r 3 17) u.1 (u.2 3 17) (u.2 3 18) x.toInt)) (fun u => hwc g ka u.1 u.2 L d) (fun _ => []) (va_A (hwc g ka i r L d) sz)) 0 0 (va_A (hwc g ka i r L d) sz) := by
  refine x_met (Ex := gx ad) (cc := cX5_enterStep) (maxL := 4) (ret := none) (by decide) rfl (Nat.le_of_ble_eq_true rfl) ?_
  intro p e s m below meth c A ls hx hb hr hml hts hown hlocks hA hS hH hK hE hl
  have hown : s.vm.findClass RX5 = some m.cls := hown
  have in4 : ∀ w ∈ wsX40, w ∈ wsX5_enterStep := (fun _ h => (List.mem_cons_of_mem _ (List.mem_append_right _ h)))
  have in5 : ∀ w ∈ wsX50, w ∈ wsX5_enterStep := (fun _ h => (List.mem_cons_of_mem _ (List.mem_append_left _ (List.mem_append_right _ h))))
  have wd0 := hts (.fieldLink RX5 37 "StoryDesk$Reading" "steps" "[LStoryDesk$Part;") (List.mem_cons_of_mem _ (List.mem_append_left _ (List.mem_append_left _ lm0)))
  have wd1 := hts (.fieldLink RX5 100 "StoryDesk$Reading" "stepCount" "I") (List.mem_cons_of_mem _ (List.mem_append_left _ (List.mem_append_left _ lm1)))
  have wd2 := hts (.fieldLink RX5 54 "StoryDesk$Reading" "table" "LStoryDesk$Part;") (List.mem_cons_of_mem _ (List.mem_append_left _ (List.mem_append_left _ lm2)))
  have wd3 := hts (.fieldLink RX5 106 "StoryDesk$Reading" "rowCount" "I") (List.mem_cons_of_mem _ (List.mem_append_left _ (List.mem_append_left _ lm3)))
  have wd4 := hts (.fieldLink RX5 182 "StoryDesk$Part" "start" "I") (List.mem_cons_of_mem _ (List.mem_append_left _ (List.mem_append_left _ lm4)))
  have wd5 := hts (.methodLink RX5 185 Lib.Math.min.name) (List.mem_cons_of_mem _ (List.mem_append_left _ (List.mem_append_left _ lm5)))
  have wd6 := hts (.static Lib.Math.min.name) (List.mem_cons_of_mem _ (List.mem_append_left _ (List.mem_append_left _ lm6)))
  have wd7 := hts (.initialized "java/lang/Math") (List.mem_cons_of_mem _ (List.mem_append_left _ (List.mem_append_left _ lm7)))
  have wd8 := hts (.code Lib.Math.min.name Lib.Math.min.code 2 (some .int)) (List.mem_cons_of_mem _ (List.mem_append_left _ (List.mem_append_left _ lm8)))
  have wd9 := hts (.fieldLink RX5 190 "StoryDesk$Part" "length" "I") (List.mem_cons_of_mem _ (List.mem_append_left _ (List.mem_append_left _ lm9)))
  have wd10 := hts (.fieldLink RX5 50 "StoryDesk$Reading" "owner" "LStoryDesk$Part;") (List.mem_cons_of_mem _ (List.mem_append_left _ (List.mem_append_left _ lm10)))
  have wd11 := hts (.fieldLink RX5 158 "StoryDesk$Part" "count" "I") (List.mem_cons_of_mem _ (List.mem_append_left _ (List.mem_append_left _ lm11)))
  have wd12 := hts (.fieldLink RX5 78 "StoryDesk$Reading" "state" "I") (List.mem_cons_of_mem _ (List.mem_append_left _ (List.mem_append_left _ lm12)))
  have hl : lv_has ls 4 [(0, .ref (g 3)), (1, .int x), (2, .int y), (3, .int z)] := hl
  have hK : va_K D vwCl (hT ka) s := hK
  have hg_1 := s_rng x
  have hb6 : (0 : Int) ≤ (i 3 6).toInt ∧ (i 3 6).toInt ≤ 4 := hO 3 6
  have hb8 : (0 : Int) ≤ (i 3 8).toInt ∧ (i 3 8).toInt ≤ 12 := hO 3 8
  have hb10 : (0 : Int) ≤ (i 3 10).toInt ∧ (i 3 10).toInt ≤ 30 := hO 3 10
  have hb12 : (0 : Int) ≤ (i 3 12).toInt ∧ (i 3 12).toInt ≤ 12 := hO 3 12
  have hb14 : (0 : Int) ≤ (i 3 14).toInt ∧ (i 3 14).toInt ≤ 40 := hO 3 14
  have hb15 : (0 : Int) ≤ (i 3 15).toInt ∧ (i 3 15).toInt ≤ 8 := hO 3 15
  have hb16 : (0 : Int) ≤ (i 3 16).toInt ∧ (i 3 16).toInt ≤ 65535 := hO 3 16
  refine lv_aload_n hx hb dX5_enterStep_0 rfl (lv_at hl 0 rfl) ?_
  refine lv_aload_n hx hb dX5_enterStep_1 rfl (lv_at hl 0 rfl) ?_
  refine h_getr (ci := 5) (C := RX5) (F := TX5) (N := 19) hx hb hts in5 hown hK hH (by decide) (rfl : kd 3 = 5) (by decide) rfl 9 (by decide) wd0 (fun _ h9 => h9) (by decide) rfl (t := 10) (hR 3 9 rfl) (by decide) dX5_enterStep_2 ?_
  refine lv_aload_n hx hb dX5_enterStep_5 rfl (lv_at hl 0 rfl) ?_
  have bx_2 : (0 : Int) ≤ (i 3 10).toInt ∧ (i 3 10).toInt ≤ 30 := hO 3 10
  refine h_geti (ci := 5) (C := RX5) (F := TX5) (N := 19) hx hb hts in5 hown hK hH (by decide) (rfl : kd 3 = 5) (by decide) rfl 10 (by decide) wd1 (fun _ h9 => h9) (by decide) rfl dX5_enterStep_6 ?_
  obtain ⟨j_3, ej_3, hj_3⟩ : ∃ j : Nat, ((i 3 10)).toNatClampNeg = j ∧ (j : Int) = (i 3 10).toInt := ⟨_, rfl, by rw [s_cl (rfl : (i 3 10).toInt = _)]; omega⟩
  have lj_3 : j_3 < 30 := by omega
  refine h_qald hx hb hK hH (by decide) (rfl : kd 10 = 22) (by decide) rfl (s_vin (N := 30) (rfl : (i 3 10).toInt = _) (rfl : ln 10 = 30) (by omega) (by omega)) (t := (54 + 1 * j_3)) (by rw [ej_3]; exact (hR 10 j_3 rfl)) (lt_nK (by omega)) dX5_enterStep_9 ?_
  have pb_4 := bxp hO (p := (54 + 1 * j_3)) (by omega) (by omega)
  have po_5 := hPO (54 + 1 * j_3) (by omega) (by omega)
  refine h_putr (t := (54 + 1 * j_3)) (v := .ref (g (54 + 1 * j_3))) (ty := (.object "StoryDesk$Part")) (ci := 5) (C := RX5) (F := TX5) (N := 19) hx hb hts in5 tyX5 tyX5_ok nmX5 hown hK hH hS (by decide) (rfl : kd 3 = 5) (by decide) rfl 18 (by decide) wd2 (fun _ h9 => h9) rfl (rq_some (lt_nK (by omega))) (by decide +kernel) rfl rfl (by decide) rfl dX5_enterStep_10 (fun H locs hH hS => ?_)
  refine lv_aload_n hx hb dX5_enterStep_13 rfl (lv_at hl 0 rfl) ?_
  refine lv_dup hx hb dX5_enterStep_14 rfl ?_
  refine h_geti (ci := 5) (C := RX5) (F := TX5) (N := 19) hx hb hts in5 hown hK hH (by decide) (rfl : kd 3 = 5) (by decide) rfl 10 (by decide) wd1 (fun _ h9 => h9) (by decide) rfl dX5_enterStep_15 ?_
  refine lv_iconst (v := 1) hx hb dX5_enterStep_18 (by decide) ?_
  refine lv_iadd hx hb dX5_enterStep_19 ?_
  obtain ⟨z_6, ez_6, hz_6⟩ := s_add (rfl : (i 3 10).toInt = _) (show (1 : Int32).toInt = 1 from rfl) (by omega) (by omega)
  refine sj_i ez_6 ?_
  have hO_7 := okp hO (n := 3) (k := 10) (v := z_6) (show (0 : Int) ≤ (z_6 : Int32).toInt ∧ (z_6 : Int32).toInt ≤ 30 from ⟨by omega, by omega⟩)
  refine h_puti (ty := .int) (ci := 5) (C := RX5) (F := TX5) (N := 19) hx hb hts in5 tyX5 tyX5_ok nmX5 hown hK hH hS (by decide) (rfl : kd 3 = 5) (by decide) rfl 10 (by decide) wd1 (fun _ h9 => h9) rfl (by decide +kernel) rfl rfl (by decide) rfl dX5_enterStep_20 (fun H locs hH hS => ?_)
  refine lv_aload_n hx hb dX5_enterStep_23 rfl (lv_at hl 0 rfl) ?_
  refine h_getr (ci := 5) (C := RX5) (F := TX5) (N := 19) hx hb hts in5 hown hK hH (by decide) (rfl : kd 3 = 5) (by decide) rfl 18 (by decide) wd2 (fun _ h9 => h9) (by decide) rfl (t := (54 + 1 * j_3)) (upr_at _ _ _ _) (lt_nK (by omega)) dX5_enterStep_24 ?_
  have pb_8 := bxp hO (p := (54 + 1 * j_3)) (by omega) (by omega)
  have po_9 := hPO (54 + 1 * j_3) (by omega) (by omega)
  refine lv_iload_n hx hb dX5_enterStep_27 rfl (lv_at hl 1 rfl) ?_
  refine lv_iconst (v := 0) hx hb dX5_enterStep_28 (by decide) ?_
  refine lv_aload_n hx hb dX5_enterStep_29 rfl (lv_at hl 0 rfl) ?_
  have bx_10 : (0 : Int) ≤ (i 3 14).toInt ∧ (i 3 14).toInt ≤ 40 := hO 3 14
  refine h_geti (ci := 5) (C := RX5) (F := TX5) (N := 19) hx hb hts in5 hown hK hH (by decide) (rfl : kd 3 = 5) (by decide) rfl 14 (by decide) wd3 (fun _ h9 => h9) (by decide) rfl dX5_enterStep_30 ?_
  refine sj_i (y := (i 3 14)) (up2_k _ _ (by decide)) ?_
  have hl_11 : (0 : Int32).toInt = 0 := rfl
  refine x_callv (va_runV (As := [.int x, .int 0, .int (i 3 14)]) (rest := []) ⟨hx, hb, hml, hown, hts⟩ (k_pbegin l D g ka ad (up2 i 3 10 z_6) (upr r 3 18 (54 + 1 * j_3)) L d (54 + 1 * j_3) x 0 (i 3 14) hO_7 (RS_put hR rfl) H.size (by first | omega | decide) (by first | omega | decide) (by first | omega | decide) (by first | omega | decide) (by first | omega | decide) (by first | omega | decide)) (cwV 3 hts gX5_enterStep_X4_begin rfl rfl rfl (by decide +kernel) ⟨(Nat.le_of_ble_eq_true rfl), (Nat.le_of_ble_eq_true rfl)⟩) (x_preV (q := (RX4, TX4, 9)) hH hK (q_obj (lt_nK (by omega)) (kd_part (by omega) (by omega)) (by decide)) rfl gxb (gxw hE hS (x_F hH hS hA))) rfl rfl hl.1 rfl (lv_room (Nat.le_of_ble_eq_true rfl)) dX5_enterStep_33 ⟨(Nat.le_of_ble_eq_true rfl), (Nat.le_of_ble_eq_true rfl)⟩) hH hS hA rfl rfl (fun im_14 H locs hw_13 hH hS => ?_)
  have hH : sj_H D A (hwc g ka im_14 (upr r 3 18 (54 + 1 * j_3)) L d) H := hH
  obtain ⟨hO_16, hfr_15, hx2_17, hx2_18⟩ := hw_13
  obtain ⟨hpb_19, hpb_20, hpb_21, hpb_22, hpb_23⟩ := hx2_17
  refine lv_aload_n hx hb dX5_enterStep_36 rfl (lv_at hl 0 rfl) ?_
  refine h_getr (ci := 5) (C := RX5) (F := TX5) (N := 19) hx hb hts in5 hown hK hH (by decide) (rfl : kd 3 = 5) (by decide) rfl 18 (by decide) wd2 (fun _ h9 => h9) (by decide) rfl (t := (54 + 1 * j_3)) (upr_at _ _ _ _) (lt_nK (by omega)) dX5_enterStep_37 ?_
  have pb_24 := bxp hO (p := (54 + 1 * j_3)) (by omega) (by omega)
  have po_25 := hPO (54 + 1 * j_3) (by omega) (by omega)
  refine lv_iload_n hx hb dX5_enterStep_40 rfl (lv_at hl 2 rfl) ?_
  have hO_26 := okp hO_16 (n := (54 + 1 * j_3)) (k := 4) (v := y) (by rw [bx_part (by omega) (by omega) 4]; exact (show (0 : Int) ≤ (y : Int32).toInt ∧ (y : Int32).toInt ≤ 480 from ⟨by omega, by omega⟩))
  refine h_puti (ty := .int) (ci := 4) (C := RX4) (F := TX4) (N := 9) hx hb hts in4 tyX4 tyX4_ok nmX4 hown hK hH hS (lt_nK (by omega)) (kd_part (by omega) (by omega)) (by decide) rfl 4 (by decide) wd4 (fun _ h9 => h9) rfl (by decide +kernel) rfl rfl (by decide) rfl dX5_enterStep_41 (fun H locs hH hS => ?_)
  refine lv_aload_n hx hb dX5_enterStep_44 rfl (lv_at hl 0 rfl) ?_
  refine h_getr (ci := 5) (C := RX5) (F := TX5) (N := 19) hx hb hts in5 hown hK hH (by decide) (rfl : kd 3 = 5) (by decide) rfl 18 (by decide) wd2 (fun _ h9 => h9) (by decide) rfl (t := (54 + 1 * j_3)) (upr_at _ _ _ _) (lt_nK (by omega)) dX5_enterStep_45 ?_
  have pb_27 := bxp hO (p := (54 + 1 * j_3)) (by omega) (by omega)
  have po_28 := hPO (54 + 1 * j_3) (by omega) (by omega)
  refine lv_iload_n hx hb dX5_enterStep_48 rfl (lv_at hl 3 rfl) ?_
  refine lv_iload_n hx hb dX5_enterStep_49 rfl (lv_at hl 2 rfl) ?_
  refine lv_isub hx hb dX5_enterStep_50 ?_
  obtain ⟨z_29, ez_29, hz_29⟩ := s_sub (rfl : z.toInt = _) (rfl : y.toInt = _) (by omega) (by omega)
  refine sj_i ez_29 ?_
  refine lv_bipush (v := 60) hx hb dX5_enterStep_51 (by decide) ?_
  refine va_mmin hx hb (hml.trans hl.1.symm) hown wd5 wd6 wd7 wd8 (Nat.le_of_ble_eq_true rfl) (Nat.le_of_ble_eq_true rfl) (Nat.le_of_ble_eq_true rfl) (Nat.le_of_ble_eq_true rfl) dX5_enterStep_53 ?_
  obtain ⟨z_30, ez_30⟩ : ∃ z, (if 60 < z_29 then 60 else z_29) = z := ⟨_, rfl⟩
  refine sj_i ez_30 ?_
  have hz_30 := s_min (rfl : z_29.toInt = _) (show (60 : Int32).toInt = 60 from rfl) ez_30
  have hO_31 := okp hO_26 (n := (54 + 1 * j_3)) (k := 5) (v := z_30) (by rw [bx_part (by omega) (by omega) 5]; exact (show (0 : Int) ≤ (z_30 : Int32).toInt ∧ (z_30 : Int32).toInt ≤ 60 from ⟨by omega, by omega⟩))
  refine h_puti (ty := .int) (ci := 4) (C := RX4) (F := TX4) (N := 9) hx hb hts in4 tyX4 tyX4_ok nmX4 hown hK hH hS (lt_nK (by omega)) (kd_part (by omega) (by omega)) (by decide) rfl 5 (by decide) wd9 (fun _ h9 => h9) rfl (by decide +kernel) rfl rfl (by decide) rfl dX5_enterStep_56 (fun H locs hH hS => ?_)
  refine lv_aload_n hx hb dX5_enterStep_59 rfl (lv_at hl 0 rfl) ?_
  refine h_getr (ci := 5) (C := RX5) (F := TX5) (N := 19) hx hb hts in5 hown hK hH (by decide) (rfl : kd 3 = 5) (by decide) rfl 17 (by decide) wd10 (fun _ h9 => h9) (by decide) rfl (t := (r 3 17)) ((upr_k _ _ (by decide)).trans rfl) (lt_nK (by omega)) dX5_enterStep_60 ?_
  have pb_32 := bxp hO (p := (r 3 17)) (by omega) (by omega)
  have po_33 := hPO (r 3 17) (by omega) (by omega)
  refine lv_dup hx hb dX5_enterStep_63 rfl ?_
  have bx_34 : (0 : Int) ≤ (i (r 3 17) 3).toInt ∧ (i (r 3 17) 3).toInt ≤ 40 := by have h9 := hO (r 3 17) 3; rw [bx_part (by omega) (by omega) 3] at h9; exact h9
  refine h_geti (ci := 4) (C := RX4) (F := TX4) (N := 9) hx hb hts in4 hown hK hH (lt_nK (by omega)) (kd_part (by omega) (by omega)) (by decide) rfl 3 (by decide) wd11 (fun _ h9 => h9) (by decide) rfl dX5_enterStep_64 ?_
  refine sj_i (y := (i (r 3 17) 3)) ((congrFun (up2_n _ _ (by omega)) _).trans ((congrFun (up2_n _ _ (by omega)) _).trans ((congrFun (hfr_15 (r 3 17) (by omega)) _).trans (congrFun (up2_n _ _ (by omega)) _)))) ?_
  refine lv_iconst (v := 1) hx hb dX5_enterStep_67 (by decide) ?_
  refine lv_iadd hx hb dX5_enterStep_68 ?_
  obtain ⟨z_35, ez_35, hz_35⟩ := s_add (rfl : (i (r 3 17) 3).toInt = _) (show (1 : Int32).toInt = 1 from rfl) (by omega) (by omega)
  refine sj_i ez_35 ?_
  have hO_36 := okp hO_31 (n := (r 3 17)) (k := 3) (v := z_35) (by rw [bx_part (by omega) (by omega) 3]; exact (show (0 : Int) ≤ (z_35 : Int32).toInt ∧ (z_35 : Int32).toInt ≤ 40 from ⟨by omega, by omega⟩))
  refine h_puti (ty := .int) (ci := 4) (C := RX4) (F := TX4) (N := 9) hx hb hts in4 tyX4 tyX4_ok nmX4 hown hK hH hS (lt_nK (by omega)) (kd_part (by omega) (by omega)) (by decide) rfl 3 (by decide) wd11 (fun _ h9 => h9) rfl (by decide +kernel) rfl rfl (by decide) rfl dX5_enterStep_69 (fun H locs hH hS => ?_)
  refine lv_aload_n hx hb dX5_enterStep_72 rfl (lv_at hl 0 rfl) ?_
  refine lv_aload_n hx hb dX5_enterStep_73 rfl (lv_at hl 0 rfl) ?_
  have bx_37 : (0 : Int) ≤ (i 3 15).toInt ∧ (i 3 15).toInt ≤ 8 := hO 3 15
  refine h_geti (ci := 5) (C := RX5) (F := TX5) (N := 19) hx hb hts in5 hown hK hH (by decide) (rfl : kd 3 = 5) (by decide) rfl 15 (by decide) wd12 (fun _ h9 => h9) (by decide) rfl dX5_enterStep_74 ?_
  refine sj_i (y := (i 3 15)) ((congrFun (up2_n _ _ (by omega)) _).trans ((congrFun (up2_n _ _ (by omega)) _).trans ((congrFun (up2_n _ _ (by omega)) _).trans ((congrFun (hfr_15 3 (by omega)) _).trans (up2_k _ _ (by decide)))))) ?_
  refine lv_iconst (v := 3) hx hb dX5_enterStep_77 (by decide) ?_
  refine lv_icmp_gt (tgt := 85) hx hb dX5_enterStep_78 (by decide) (fun c_38 => ?_) (fun c_38 => ?_)
  · skip
    have h_39 := s_lt (show (3 : Int32).toInt = 3 from rfl) (rfl : (i 3 15).toInt = _) c_38
    refine lv_iconst (v := 5) hx hb dX5_enterStep_85 (by decide) ?_
    have hO_40 := okp hO_36 (n := 3) (k := 15) (v := 5) (show (0 : Int) ≤ (5 : Int32).toInt ∧ (5 : Int32).toInt ≤ 8 from ⟨by decide, by decide⟩)
    refine h_puti (ty := .int) (ci := 5) (C := RX5) (F := TX5) (N := 19) hx hb hts in5 tyX5 tyX5_ok nmX5 hown hK hH hS (by decide) (rfl : kd 3 = 5) (by decide) rfl 15 (by decide) wd12 (fun _ h9 => h9) rfl (by decide +kernel) rfl rfl (by decide) rfl dX5_enterStep_86 (fun H locs hH hS => ?_)
    have hN : 54 + (i 3 10).toInt.toNat = 54 + 1 * j_3 := by omega
    have hp_41 : ((up2 (up2 (up2 (up2 im_14 (54 + 1 * j_3) 4 y) (54 + 1 * j_3) 5 z_30) (r 3 17) 3 z_35) 3 15 5) 3 6).toInt = ((i 3 6) : Int32).toInt := congrArg Int32.toInt (((up2_k _ _ (by decide)).trans ((congrFun (up2_n _ _ (by omega)) _).trans ((congrFun (up2_n _ _ (by omega)) _).trans ((congrFun (up2_n _ _ (by omega)) _).trans ((congrFun (hfr_15 3 (by omega)) _).trans (up2_k _ _ (by decide))))))))
    have hp_42 : ((up2 (up2 (up2 (up2 im_14 (54 + 1 * j_3) 4 y) (54 + 1 * j_3) 5 z_30) (r 3 17) 3 z_35) 3 15 5) 3 8).toInt = ((i 3 8) : Int32).toInt := congrArg Int32.toInt (((up2_k _ _ (by decide)).trans ((congrFun (up2_n _ _ (by omega)) _).trans ((congrFun (up2_n _ _ (by omega)) _).trans ((congrFun (up2_n _ _ (by omega)) _).trans ((congrFun (hfr_15 3 (by omega)) _).trans (up2_k _ _ (by decide))))))))
    have hp_43 : ((up2 (up2 (up2 (up2 im_14 (54 + 1 * j_3) 4 y) (54 + 1 * j_3) 5 z_30) (r 3 17) 3 z_35) 3 15 5) 3 10).toInt = (z_6 : Int32).toInt := congrArg Int32.toInt (((up2_k _ _ (by decide)).trans ((congrFun (up2_n _ _ (by omega)) _).trans ((congrFun (up2_n _ _ (by omega)) _).trans ((congrFun (up2_n _ _ (by omega)) _).trans ((congrFun (hfr_15 3 (by omega)) _).trans (up2_at _ _ _ _)))))))
    have hp_44 : ((up2 (up2 (up2 (up2 im_14 (54 + 1 * j_3) 4 y) (54 + 1 * j_3) 5 z_30) (r 3 17) 3 z_35) 3 15 5) 3 12).toInt = ((i 3 12) : Int32).toInt := congrArg Int32.toInt (((up2_k _ _ (by decide)).trans ((congrFun (up2_n _ _ (by omega)) _).trans ((congrFun (up2_n _ _ (by omega)) _).trans ((congrFun (up2_n _ _ (by omega)) _).trans ((congrFun (hfr_15 3 (by omega)) _).trans (up2_k _ _ (by decide))))))))
    have hp_45 : ((up2 (up2 (up2 (up2 im_14 (54 + 1 * j_3) 4 y) (54 + 1 * j_3) 5 z_30) (r 3 17) 3 z_35) 3 15 5) 3 14).toInt = ((i 3 14) : Int32).toInt := congrArg Int32.toInt (((up2_k _ _ (by decide)).trans ((congrFun (up2_n _ _ (by omega)) _).trans ((congrFun (up2_n _ _ (by omega)) _).trans ((congrFun (up2_n _ _ (by omega)) _).trans ((congrFun (hfr_15 3 (by omega)) _).trans (up2_k _ _ (by decide))))))))
    have hp_46 : ((up2 (up2 (up2 (up2 im_14 (54 + 1 * j_3) 4 y) (54 + 1 * j_3) 5 z_30) (r 3 17) 3 z_35) 3 15 5) 3 15).toInt = (5 : Int32).toInt := congrArg Int32.toInt ((up2_at _ _ _ _))
    have hl_47 : (5 : Int32).toInt = 5 := rfl
    have hp_48 : ((up2 (up2 (up2 (up2 im_14 (54 + 1 * j_3) 4 y) (54 + 1 * j_3) 5 z_30) (r 3 17) 3 z_35) 3 15 5) 3 16).toInt = ((i 3 16) : Int32).toInt := congrArg Int32.toInt (((up2_k _ _ (by decide)).trans ((congrFun (up2_n _ _ (by omega)) _).trans ((congrFun (up2_n _ _ (by omega)) _).trans ((congrFun (up2_n _ _ (by omega)) _).trans ((congrFun (hfr_15 3 (by omega)) _).trans (up2_k _ _ (by decide))))))))
    have hp_49 : ((up2 (up2 (up2 (up2 im_14 (54 + 1 * j_3) 4 y) (54 + 1 * j_3) 5 z_30) (r 3 17) 3 z_35) 3 15 5) (54 + 1 * j_3) 0).toInt = ((im_14 (54 + 1 * j_3) 0) : Int32).toInt := congrArg Int32.toInt (((congrFun (up2_n _ _ (by omega)) _).trans ((congrFun (up2_n _ _ (by omega)) _).trans ((up2_k _ _ (by decide)).trans (up2_k _ _ (by decide))))))
    have hp_50 : ((up2 (up2 (up2 (up2 im_14 (54 + 1 * j_3) 4 y) (54 + 1 * j_3) 5 z_30) (r 3 17) 3 z_35) 3 15 5) (54 + 1 * j_3) 1).toInt = ((im_14 (54 + 1 * j_3) 1) : Int32).toInt := congrArg Int32.toInt (((congrFun (up2_n _ _ (by omega)) _).trans ((congrFun (up2_n _ _ (by omega)) _).trans ((up2_k _ _ (by decide)).trans (up2_k _ _ (by decide))))))
    have hp_51 : ((up2 (up2 (up2 (up2 im_14 (54 + 1 * j_3) 4 y) (54 + 1 * j_3) 5 z_30) (r 3 17) 3 z_35) 3 15 5) (54 + 1 * j_3) 2).toInt = ((im_14 (54 + 1 * j_3) 2) : Int32).toInt := congrArg Int32.toInt (((congrFun (up2_n _ _ (by omega)) _).trans ((congrFun (up2_n _ _ (by omega)) _).trans ((up2_k _ _ (by decide)).trans (up2_k _ _ (by decide))))))
    have hp_52 : ((up2 (up2 (up2 (up2 im_14 (54 + 1 * j_3) 4 y) (54 + 1 * j_3) 5 z_30) (r 3 17) 3 z_35) 3 15 5) (54 + 1 * j_3) 3).toInt = ((im_14 (54 + 1 * j_3) 3) : Int32).toInt := congrArg Int32.toInt (((congrFun (up2_n _ _ (by omega)) _).trans ((congrFun (up2_n _ _ (by omega)) _).trans ((up2_k _ _ (by decide)).trans (up2_k _ _ (by decide))))))
    have hp_53 : ((up2 (up2 (up2 (up2 im_14 (54 + 1 * j_3) 4 y) (54 + 1 * j_3) 5 z_30) (r 3 17) 3 z_35) 3 15 5) (54 + 1 * j_3) 8).toInt = ((im_14 (54 + 1 * j_3) 8) : Int32).toInt := congrArg Int32.toInt (((congrFun (up2_n _ _ (by omega)) _).trans ((congrFun (up2_n _ _ (by omega)) _).trans ((up2_k _ _ (by decide)).trans (up2_k _ _ (by decide))))))
    have hp_54 : ((up2 (up2 (up2 (up2 im_14 (54 + 1 * j_3) 4 y) (54 + 1 * j_3) 5 z_30) (r 3 17) 3 z_35) 3 15 5) (54 + 1 * j_3) 4).toInt = (y : Int32).toInt := congrArg Int32.toInt (((congrFun (up2_n _ _ (by omega)) _).trans ((congrFun (up2_n _ _ (by omega)) _).trans ((up2_k _ _ (by decide)).trans (up2_at _ _ _ _)))))
    have hp_55 : ((up2 (up2 (up2 (up2 im_14 (54 + 1 * j_3) 4 y) (54 + 1 * j_3) 5 z_30) (r 3 17) 3 z_35) 3 15 5) (54 + 1 * j_3) 5).toInt = (z_30 : Int32).toInt := congrArg Int32.toInt (((congrFun (up2_n _ _ (by omega)) _).trans ((congrFun (up2_n _ _ (by omega)) _).trans (up2_at _ _ _ _))))
    have hp_56 : ((up2 (up2 (up2 (up2 im_14 (54 + 1 * j_3) 4 y) (54 + 1 * j_3) 5 z_30) (r 3 17) 3 z_35) 3 15 5) (r 3 17) 3).toInt = (z_35 : Int32).toInt := congrArg Int32.toInt (((congrFun (up2_n _ _ (by omega)) _).trans (up2_at _ _ _ _)))
    have hV_57 : stQ i (r 3 17) (up2 (up2 (up2 (up2 im_14 (54 + 1 * j_3) 4 y) (54 + 1 * j_3) 5 z_30) (r 3 17) 3 z_35) 3 15 5) ((upr r 3 18 (54 + 1 * j_3)) 3 17) ((upr r 3 18 (54 + 1 * j_3)) 3 18) x.toInt := ⟨((upr_k _ _ (by decide)).trans rfl), ((upr_at _ _ _ _).trans hN.symm), by omega, (by rw [hN]; exact ⟨by omega, by omega, by omega, by omega, by omega⟩), (by rw [hN]; omega), by omega, (fun b hb => ((congrFun (up2_n _ _ (by omega)) _).trans ((up2_k _ _ (by omega)).trans ((congrFun (up2_n _ _ (by omega)) _).trans ((congrFun (up2_n _ _ (by omega)) _).trans ((congrFun (hfr_15 (r 3 17) (by omega)) _).trans (congrFun (up2_n _ _ (by omega)) _))))))), by omega, (fun b hb => by
          have hb9 : b ≠ 10 ∧ b ≠ 15 := ⟨fun e9 => hb (by rw [e9]; decide), fun e9 => hb (by rw [e9]; decide)⟩
          exact ((up2_k _ _ (by omega)).trans ((congrFun (up2_n _ _ (by omega)) _).trans ((congrFun (up2_n _ _ (by omega)) _).trans ((congrFun (up2_n _ _ (by omega)) _).trans ((congrFun (hfr_15 3 (by omega)) _).trans (up2_k _ _ (by omega)))))))), (fun a h3 hp ho => ((up2_n _ _ (by omega)).trans ((up2_n _ _ (by omega)).trans ((up2_n _ _ (by omega)).trans ((up2_n _ _ (by omega)).trans ((hfr_15 a (by omega)).trans (up2_n _ _ (by omega))))))))⟩
    exact sj_vret hx hb hr hlocks hS ((up2 (up2 (up2 (up2 im_14 (54 + 1 * j_3) 4 y) (54 + 1 * j_3) 5 z_30) (r 3 17) 3 z_35) 3 15 5), (upr r 3 18 (54 + 1 * j_3))) ⟨hO_40, (fun a ha => ((up2_n _ _ (by omega)).trans ((up2_n _ _ (by omega)).trans ((up2_n _ _ (by omega)).trans ((up2_n _ _ (by omega)).trans ((hfr_15 a (by omega)).trans (up2_n _ _ (by omega)))))))), (RS_put hR rfl), (fun a b ha => (upr_o _ _ (by omega))), hV_57⟩ hH (sj_Knil hK) (Nat.le_of_ble_eq_true rfl) (Nat.le_of_ble_eq_true rfl) dX5_enterStep_89
  · skip
    have h_58 := s_nlt (show (3 : Int32).toInt = 3 from rfl) (rfl : (i 3 15).toInt = _) c_38
    refine lv_iconst (v := 3) hx hb dX5_enterStep_81 (by decide) ?_
    refine lv_goto (tgt := 86) hx hb dX5_enterStep_82 (by decide) ?_
    have hO_59 := okp hO_36 (n := 3) (k := 15) (v := 3) (show (0 : Int) ≤ (3 : Int32).toInt ∧ (3 : Int32).toInt ≤ 8 from ⟨by decide, by decide⟩)
    refine h_puti (ty := .int) (ci := 5) (C := RX5) (F := TX5) (N := 19) hx hb hts in5 tyX5 tyX5_ok nmX5 hown hK hH hS (by decide) (rfl : kd 3 = 5) (by decide) rfl 15 (by decide) wd12 (fun _ h9 => h9) rfl (by decide +kernel) rfl rfl (by decide) rfl dX5_enterStep_86 (fun H locs hH hS => ?_)
    have hN : 54 + (i 3 10).toInt.toNat = 54 + 1 * j_3 := by omega
    have hp_60 : ((up2 (up2 (up2 (up2 im_14 (54 + 1 * j_3) 4 y) (54 + 1 * j_3) 5 z_30) (r 3 17) 3 z_35) 3 15 3) 3 6).toInt = ((i 3 6) : Int32).toInt := congrArg Int32.toInt (((up2_k _ _ (by decide)).trans ((congrFun (up2_n _ _ (by omega)) _).trans ((congrFun (up2_n _ _ (by omega)) _).trans ((congrFun (up2_n _ _ (by omega)) _).trans ((congrFun (hfr_15 3 (by omega)) _).trans (up2_k _ _ (by decide))))))))
    have hp_61 : ((up2 (up2 (up2 (up2 im_14 (54 + 1 * j_3) 4 y) (54 + 1 * j_3) 5 z_30) (r 3 17) 3 z_35) 3 15 3) 3 8).toInt = ((i 3 8) : Int32).toInt := congrArg Int32.toInt (((up2_k _ _ (by decide)).trans ((congrFun (up2_n _ _ (by omega)) _).trans ((congrFun (up2_n _ _ (by omega)) _).trans ((congrFun (up2_n _ _ (by omega)) _).trans ((congrFun (hfr_15 3 (by omega)) _).trans (up2_k _ _ (by decide))))))))
    have hp_62 : ((up2 (up2 (up2 (up2 im_14 (54 + 1 * j_3) 4 y) (54 + 1 * j_3) 5 z_30) (r 3 17) 3 z_35) 3 15 3) 3 10).toInt = (z_6 : Int32).toInt := congrArg Int32.toInt (((up2_k _ _ (by decide)).trans ((congrFun (up2_n _ _ (by omega)) _).trans ((congrFun (up2_n _ _ (by omega)) _).trans ((congrFun (up2_n _ _ (by omega)) _).trans ((congrFun (hfr_15 3 (by omega)) _).trans (up2_at _ _ _ _)))))))
    have hp_63 : ((up2 (up2 (up2 (up2 im_14 (54 + 1 * j_3) 4 y) (54 + 1 * j_3) 5 z_30) (r 3 17) 3 z_35) 3 15 3) 3 12).toInt = ((i 3 12) : Int32).toInt := congrArg Int32.toInt (((up2_k _ _ (by decide)).trans ((congrFun (up2_n _ _ (by omega)) _).trans ((congrFun (up2_n _ _ (by omega)) _).trans ((congrFun (up2_n _ _ (by omega)) _).trans ((congrFun (hfr_15 3 (by omega)) _).trans (up2_k _ _ (by decide))))))))
    have hp_64 : ((up2 (up2 (up2 (up2 im_14 (54 + 1 * j_3) 4 y) (54 + 1 * j_3) 5 z_30) (r 3 17) 3 z_35) 3 15 3) 3 14).toInt = ((i 3 14) : Int32).toInt := congrArg Int32.toInt (((up2_k _ _ (by decide)).trans ((congrFun (up2_n _ _ (by omega)) _).trans ((congrFun (up2_n _ _ (by omega)) _).trans ((congrFun (up2_n _ _ (by omega)) _).trans ((congrFun (hfr_15 3 (by omega)) _).trans (up2_k _ _ (by decide))))))))
    have hp_65 : ((up2 (up2 (up2 (up2 im_14 (54 + 1 * j_3) 4 y) (54 + 1 * j_3) 5 z_30) (r 3 17) 3 z_35) 3 15 3) 3 15).toInt = (3 : Int32).toInt := congrArg Int32.toInt ((up2_at _ _ _ _))
    have hl_66 : (3 : Int32).toInt = 3 := rfl
    have hp_67 : ((up2 (up2 (up2 (up2 im_14 (54 + 1 * j_3) 4 y) (54 + 1 * j_3) 5 z_30) (r 3 17) 3 z_35) 3 15 3) 3 16).toInt = ((i 3 16) : Int32).toInt := congrArg Int32.toInt (((up2_k _ _ (by decide)).trans ((congrFun (up2_n _ _ (by omega)) _).trans ((congrFun (up2_n _ _ (by omega)) _).trans ((congrFun (up2_n _ _ (by omega)) _).trans ((congrFun (hfr_15 3 (by omega)) _).trans (up2_k _ _ (by decide))))))))
    have hp_68 : ((up2 (up2 (up2 (up2 im_14 (54 + 1 * j_3) 4 y) (54 + 1 * j_3) 5 z_30) (r 3 17) 3 z_35) 3 15 3) (54 + 1 * j_3) 0).toInt = ((im_14 (54 + 1 * j_3) 0) : Int32).toInt := congrArg Int32.toInt (((congrFun (up2_n _ _ (by omega)) _).trans ((congrFun (up2_n _ _ (by omega)) _).trans ((up2_k _ _ (by decide)).trans (up2_k _ _ (by decide))))))
    have hp_69 : ((up2 (up2 (up2 (up2 im_14 (54 + 1 * j_3) 4 y) (54 + 1 * j_3) 5 z_30) (r 3 17) 3 z_35) 3 15 3) (54 + 1 * j_3) 1).toInt = ((im_14 (54 + 1 * j_3) 1) : Int32).toInt := congrArg Int32.toInt (((congrFun (up2_n _ _ (by omega)) _).trans ((congrFun (up2_n _ _ (by omega)) _).trans ((up2_k _ _ (by decide)).trans (up2_k _ _ (by decide))))))
    have hp_70 : ((up2 (up2 (up2 (up2 im_14 (54 + 1 * j_3) 4 y) (54 + 1 * j_3) 5 z_30) (r 3 17) 3 z_35) 3 15 3) (54 + 1 * j_3) 2).toInt = ((im_14 (54 + 1 * j_3) 2) : Int32).toInt := congrArg Int32.toInt (((congrFun (up2_n _ _ (by omega)) _).trans ((congrFun (up2_n _ _ (by omega)) _).trans ((up2_k _ _ (by decide)).trans (up2_k _ _ (by decide))))))
    have hp_71 : ((up2 (up2 (up2 (up2 im_14 (54 + 1 * j_3) 4 y) (54 + 1 * j_3) 5 z_30) (r 3 17) 3 z_35) 3 15 3) (54 + 1 * j_3) 3).toInt = ((im_14 (54 + 1 * j_3) 3) : Int32).toInt := congrArg Int32.toInt (((congrFun (up2_n _ _ (by omega)) _).trans ((congrFun (up2_n _ _ (by omega)) _).trans ((up2_k _ _ (by decide)).trans (up2_k _ _ (by decide))))))
    have hp_72 : ((up2 (up2 (up2 (up2 im_14 (54 + 1 * j_3) 4 y) (54 + 1 * j_3) 5 z_30) (r 3 17) 3 z_35) 3 15 3) (54 + 1 * j_3) 8).toInt = ((im_14 (54 + 1 * j_3) 8) : Int32).toInt := congrArg Int32.toInt (((congrFun (up2_n _ _ (by omega)) _).trans ((congrFun (up2_n _ _ (by omega)) _).trans ((up2_k _ _ (by decide)).trans (up2_k _ _ (by decide))))))
    have hp_73 : ((up2 (up2 (up2 (up2 im_14 (54 + 1 * j_3) 4 y) (54 + 1 * j_3) 5 z_30) (r 3 17) 3 z_35) 3 15 3) (54 + 1 * j_3) 4).toInt = (y : Int32).toInt := congrArg Int32.toInt (((congrFun (up2_n _ _ (by omega)) _).trans ((congrFun (up2_n _ _ (by omega)) _).trans ((up2_k _ _ (by decide)).trans (up2_at _ _ _ _)))))
    have hp_74 : ((up2 (up2 (up2 (up2 im_14 (54 + 1 * j_3) 4 y) (54 + 1 * j_3) 5 z_30) (r 3 17) 3 z_35) 3 15 3) (54 + 1 * j_3) 5).toInt = (z_30 : Int32).toInt := congrArg Int32.toInt (((congrFun (up2_n _ _ (by omega)) _).trans ((congrFun (up2_n _ _ (by omega)) _).trans (up2_at _ _ _ _))))
    have hp_75 : ((up2 (up2 (up2 (up2 im_14 (54 + 1 * j_3) 4 y) (54 + 1 * j_3) 5 z_30) (r 3 17) 3 z_35) 3 15 3) (r 3 17) 3).toInt = (z_35 : Int32).toInt := congrArg Int32.toInt (((congrFun (up2_n _ _ (by omega)) _).trans (up2_at _ _ _ _)))
    have hV_76 : stQ i (r 3 17) (up2 (up2 (up2 (up2 im_14 (54 + 1 * j_3) 4 y) (54 + 1 * j_3) 5 z_30) (r 3 17) 3 z_35) 3 15 3) ((upr r 3 18 (54 + 1 * j_3)) 3 17) ((upr r 3 18 (54 + 1 * j_3)) 3 18) x.toInt := ⟨((upr_k _ _ (by decide)).trans rfl), ((upr_at _ _ _ _).trans hN.symm), by omega, (by rw [hN]; exact ⟨by omega, by omega, by omega, by omega, by omega⟩), (by rw [hN]; omega), by omega, (fun b hb => ((congrFun (up2_n _ _ (by omega)) _).trans ((up2_k _ _ (by omega)).trans ((congrFun (up2_n _ _ (by omega)) _).trans ((congrFun (up2_n _ _ (by omega)) _).trans ((congrFun (hfr_15 (r 3 17) (by omega)) _).trans (congrFun (up2_n _ _ (by omega)) _))))))), by omega, (fun b hb => by
          have hb9 : b ≠ 10 ∧ b ≠ 15 := ⟨fun e9 => hb (by rw [e9]; decide), fun e9 => hb (by rw [e9]; decide)⟩
          exact ((up2_k _ _ (by omega)).trans ((congrFun (up2_n _ _ (by omega)) _).trans ((congrFun (up2_n _ _ (by omega)) _).trans ((congrFun (up2_n _ _ (by omega)) _).trans ((congrFun (hfr_15 3 (by omega)) _).trans (up2_k _ _ (by omega)))))))), (fun a h3 hp ho => ((up2_n _ _ (by omega)).trans ((up2_n _ _ (by omega)).trans ((up2_n _ _ (by omega)).trans ((up2_n _ _ (by omega)).trans ((hfr_15 a (by omega)).trans (up2_n _ _ (by omega))))))))⟩
    exact sj_vret hx hb hr hlocks hS ((up2 (up2 (up2 (up2 im_14 (54 + 1 * j_3) 4 y) (54 + 1 * j_3) 5 z_30) (r 3 17) 3 z_35) 3 15 3), (upr r 3 18 (54 + 1 * j_3))) ⟨hO_59, (fun a ha => ((up2_n _ _ (by omega)).trans ((up2_n _ _ (by omega)).trans ((up2_n _ _ (by omega)).trans ((up2_n _ _ (by omega)).trans ((hfr_15 a (by omega)).trans (up2_n _ _ (by omega)))))))), (RS_put hR rfl), (fun a b ha => (upr_o _ _ (by omega))), hV_76⟩ hH (sj_Knil hK) (Nat.le_of_ble_eq_true rfl) (Nat.le_of_ble_eq_true rfl) dX5_enterStep_89
set_option maxHeartbeats 2000000 in
set_option maxRecDepth 100000 in
theorem k_enterRow (l : Launch) (D : va_G) (g : Nat → Nat) (ka : Nat → ClassId) (ad : Nat → Nat) (i : Nat → Nat → Int32) (r : Nat → Nat → Nat) (L : Nat → Nat → Int64) (d : Nat → Nat → UInt64) (x : Int32) (y : Int32) (z : Int32) (hO : OkI i) (hR : RS r) (sz : Nat) (hy0 : 0 ≤ y.toInt) (hyz : y.toInt < z.toInt) (hzs : z.toInt ≤ (i 4 1).toInt) (hro : (i 3 14).toInt < 40) (ht3 : (i (r 3 18) 3).toInt < 40) (hw : brs (lnL (i 5) (y.toInt + 1) z.toInt) ≤ 4) (hPW : PW i) (hQ0 : 37 ≤ r 3 17 ∧ r 3 17 < 54 ∧ 54 ≤ r 3 18 ∧ r 3 18 < 96) (hPO : PO i) : Met l yX5_enterRow wsX5_enterRow ({ frames := 2, cells := 0, slots := 0, locals := 44 }) (va_Pc [.ref (g 3), .int x, .int y, .int z] (sj_B D (hwc g ka i r L d) (hT ka) sz (gx ad (va_A (hwc g ka i r L d) sz)))) (sj_Qv (S := (Nat → Nat → Int32)) D (fun u => OkI u ∧ (∀ a, ¬ (a = 3 ∨ (37 ≤ a ∧ a < 96) ∨ (96 ≤ a ∧ a < 216)) → u a = i a) ∧ (rwQ i (r 3 17) (r 3 18) u (r 3 17) (r 3 18) x.toInt (brs (lnL (i 5) (y.toInt + 1) z.toInt))) ∧ (PW u)) (fun u => hwc g ka u r L d) (fun _ => []) (va_A (hwc g ka i r L d) sz)) 0 0 (va_A (hwc g ka i r L d) sz) := by
  refine x_met (Ex := gx ad) (cc := cX5_enterRow) (maxL := 8) (ret := none) (by decide) rfl (Nat.le_of_ble_eq_true rfl) ?_
  intro p e s m below meth c A ls hx hb hr hml hts hown hlocks hA hS hH hK hE hl
  have hown : s.vm.findClass RX5 = some m.cls := hown
  have in4 : ∀ w ∈ wsX40, w ∈ wsX5_enterRow := (fun _ h => (List.mem_cons_of_mem _ (List.mem_append_left _ (List.mem_append_left _ (List.mem_append_right _ h)))))
  have in5 : ∀ w ∈ wsX50, w ∈ wsX5_enterRow := (fun _ h => (List.mem_cons_of_mem _ (List.mem_append_left _ (List.mem_append_left _ (List.mem_append_left _ (List.mem_append_right _ h))))))
  have in6 : ∀ w ∈ wsX60, w ∈ wsX5_enterRow := (fun _ h => (List.mem_cons_of_mem _ (List.mem_append_left _ (List.mem_append_right _ h))))
  have wd0 := hts (.fieldLink RX5 45 "StoryDesk$Reading" "rows" "[LStoryDesk$Row;") (List.mem_cons_of_mem _ (List.mem_append_left _ (List.mem_append_left _ (List.mem_append_left _ (List.mem_append_left _ (List.mem_append_left _ lm0))))))
  have wd1 := hts (.fieldLink RX5 106 "StoryDesk$Reading" "rowCount" "I") (List.mem_cons_of_mem _ (List.mem_append_left _ (List.mem_append_left _ (List.mem_append_left _ (List.mem_append_left _ (List.mem_append_left _ lm1))))))
  have wd2 := hts (.fieldLink RX5 54 "StoryDesk$Reading" "table" "LStoryDesk$Part;") (List.mem_cons_of_mem _ (List.mem_append_left _ (List.mem_append_left _ (List.mem_append_left _ (List.mem_append_left _ (List.mem_append_left _ lm2))))))
  have wd3 := hts (.fieldLink RX5 158 "StoryDesk$Part" "count" "I") (List.mem_cons_of_mem _ (List.mem_append_left _ (List.mem_append_left _ (List.mem_append_left _ (List.mem_append_left _ (List.mem_append_left _ lm3))))))
  have wd4 := hts (.fieldLink RX5 191 "StoryDesk$Row" "line" "I") (List.mem_cons_of_mem _ (List.mem_append_left _ (List.mem_append_left _ (List.mem_append_left _ (List.mem_append_left _ (List.mem_append_left _ lm4))))))
  have wd5 := hts (.fieldLink RX5 164 "StoryDesk$Row" "width" "I") (List.mem_cons_of_mem _ (List.mem_append_left _ (List.mem_append_left _ (List.mem_append_left _ (List.mem_append_left _ (List.mem_append_left _ lm5))))))
  have wd6 := hts (.fieldLink RX5 78 "StoryDesk$Reading" "state" "I") (List.mem_cons_of_mem _ (List.mem_append_left _ (List.mem_append_left _ (List.mem_append_left _ (List.mem_append_left _ (List.mem_append_left _ lm13))))))
  have wd7 := hts (.fieldLink RX5 16 "StoryDesk$Reading" "source" "LStoryDesk$Letters;") (List.mem_cons_of_mem _ (List.mem_append_left _ (List.mem_append_left _ (List.mem_append_left _ (List.mem_append_left _ (List.mem_append_left _ lm6))))))
  have wd8 := hts (.fieldLink RX5 194 "StoryDesk$Row" "starts" "[I") (List.mem_cons_of_mem _ (List.mem_append_left _ (List.mem_append_left _ (List.mem_append_left _ (List.mem_append_left _ (List.mem_append_left _ lm7))))))
  have wd9 := hts (.fieldLink RX5 197 "StoryDesk$Row" "lengths" "[I") (List.mem_cons_of_mem _ (List.mem_append_left _ (List.mem_append_left _ (List.mem_append_left _ (List.mem_append_left _ (List.mem_append_left _ lm8))))))
  have wd10 := hts (.methodLink RX5 185 Lib.Math.min.name) (List.mem_cons_of_mem _ (List.mem_append_left _ (List.mem_append_left _ (List.mem_append_left _ (List.mem_append_left _ (List.mem_append_left _ lm9))))))
  have wd11 := hts (.static Lib.Math.min.name) (List.mem_cons_of_mem _ (List.mem_append_left _ (List.mem_append_left _ (List.mem_append_left _ (List.mem_append_left _ (List.mem_append_left _ lm10))))))
  have wd12 := hts (.initialized "java/lang/Math") (List.mem_cons_of_mem _ (List.mem_append_left _ (List.mem_append_left _ (List.mem_append_left _ (List.mem_append_left _ (List.mem_append_left _ lm11))))))
  have wd13 := hts (.code Lib.Math.min.name Lib.Math.min.code 2 (some .int)) (List.mem_cons_of_mem _ (List.mem_append_left _ (List.mem_append_left _ (List.mem_append_left _ (List.mem_append_left _ (List.mem_append_left _ lm12))))))
  have hl : lv_has ls 8 [(0, .ref (g 3)), (1, .int x), (2, .int y), (3, .int z)] := hl
  have hK : va_K D vwCl (hT ka) s := hK
  have hg_1 := s_rng x
  have hb6 : (0 : Int) ≤ (i 3 6).toInt ∧ (i 3 6).toInt ≤ 4 := hO 3 6
  have hb8 : (0 : Int) ≤ (i 3 8).toInt ∧ (i 3 8).toInt ≤ 12 := hO 3 8
  have hb10 : (0 : Int) ≤ (i 3 10).toInt ∧ (i 3 10).toInt ≤ 30 := hO 3 10
  have hb12 : (0 : Int) ≤ (i 3 12).toInt ∧ (i 3 12).toInt ≤ 12 := hO 3 12
  have hb14 : (0 : Int) ≤ (i 3 14).toInt ∧ (i 3 14).toInt ≤ 40 := hO 3 14
  have hb15 : (0 : Int) ≤ (i 3 15).toInt ∧ (i 3 15).toInt ≤ 8 := hO 3 15
  have hb16 : (0 : Int) ≤ (i 3 16).toInt ∧ (i 3 16).toInt ≤ 65535 := hO 3 16
  have hs4 : (0 : Int) ≤ (i 4 1).toInt ∧ (i 4 1).toInt ≤ 480 := hO 4 1
  have hb9 := brs_0 (lnL (i 5) (y.toInt + 1) z.toInt)
  refine lv_aload_n hx hb dX5_enterRow_0 rfl (lv_at hl 0 rfl) ?_
  refine h_getr (ci := 5) (C := RX5) (F := TX5) (N := 19) hx hb hts in5 hown hK hH (by decide) (rfl : kd 3 = 5) (by decide) rfl 13 (by decide) wd0 (fun _ h9 => h9) (by decide) rfl (t := 12) (hR 3 13 rfl) (by decide) dX5_enterRow_1 ?_
  refine lv_aload_n hx hb dX5_enterRow_4 rfl (lv_at hl 0 rfl) ?_
  have bx_2 : (0 : Int) ≤ (i 3 14).toInt ∧ (i 3 14).toInt ≤ 40 := hO 3 14
  refine h_geti (ci := 5) (C := RX5) (F := TX5) (N := 19) hx hb hts in5 hown hK hH (by decide) (rfl : kd 3 = 5) (by decide) rfl 14 (by decide) wd1 (fun _ h9 => h9) (by decide) rfl dX5_enterRow_5 ?_
  obtain ⟨j_3, ej_3, hj_3⟩ : ∃ j : Nat, ((i 3 14)).toNatClampNeg = j ∧ (j : Int) = (i 3 14).toInt := ⟨_, rfl, by rw [s_cl (rfl : (i 3 14).toInt = _)]; omega⟩
  have lj_3 : j_3 < 40 := by omega
  have hN : (i 3 14).toInt.toNat = j_3 := by omega
  refine h_qald hx hb hK hH (by decide) (rfl : kd 12 = 24) (by decide) rfl (s_vin (N := 40) (rfl : (i 3 14).toInt = _) (rfl : ln 12 = 40) (by omega) (by omega)) (t := (96 + 3 * j_3)) (by rw [ej_3]; exact (hR 12 j_3 rfl)) (lt_nK (by omega)) dX5_enterRow_8 ?_
  refine lv_astore (lv' := [(4, .ref (g (96 + 3 * j_3))), (0, .ref (g 3)), (1, .int x), (2, .int y), (3, .int z)]) hx hb dX5_enterRow_9 hl (by decide) rfl (fun ls hl => ?_)
  refine lv_aload_n hx hb dX5_enterRow_11 rfl (lv_at hl 1 rfl) ?_
  refine lv_dup hx hb dX5_enterRow_12 rfl ?_
  refine h_geti (ci := 5) (C := RX5) (F := TX5) (N := 19) hx hb hts in5 hown hK hH (by decide) (rfl : kd 3 = 5) (by decide) rfl 14 (by decide) wd1 (fun _ h9 => h9) (by decide) rfl dX5_enterRow_13 ?_
  refine lv_iconst (v := 1) hx hb dX5_enterRow_16 (by decide) ?_
  refine lv_iadd hx hb dX5_enterRow_17 ?_
  obtain ⟨z_4, ez_4, hz_4⟩ := s_add (rfl : (i 3 14).toInt = _) (show (1 : Int32).toInt = 1 from rfl) (by omega) (by omega)
  refine sj_i ez_4 ?_
  have hO_5 := okp hO (n := 3) (k := 14) (v := z_4) (show (0 : Int) ≤ (z_4 : Int32).toInt ∧ (z_4 : Int32).toInt ≤ 40 from ⟨by omega, by omega⟩)
  refine h_puti (ty := .int) (ci := 5) (C := RX5) (F := TX5) (N := 19) hx hb hts in5 tyX5 tyX5_ok nmX5 hown hK hH hS (by decide) (rfl : kd 3 = 5) (by decide) rfl 14 (by decide) wd1 (fun _ h9 => h9) rfl (by decide +kernel) rfl rfl (by decide) rfl dX5_enterRow_18 (fun H locs hH hS => ?_)
  refine lv_aload_n hx hb dX5_enterRow_21 rfl (lv_at hl 1 rfl) ?_
  refine h_getr (ci := 5) (C := RX5) (F := TX5) (N := 19) hx hb hts in5 hown hK hH (by decide) (rfl : kd 3 = 5) (by decide) rfl 18 (by decide) wd2 (fun _ h9 => h9) (by decide) rfl (t := (r 3 18)) rfl (lt_nK (by omega)) dX5_enterRow_22 ?_
  have pb_6 := bxp hO (p := (r 3 18)) (by omega) (by omega)
  have po_7 := hPO (r 3 18) (by omega) (by omega)
  refine lv_dup hx hb dX5_enterRow_25 rfl ?_
  have bx_8 : (0 : Int) ≤ (i (r 3 18) 3).toInt ∧ (i (r 3 18) 3).toInt ≤ 40 := by have h9 := hO (r 3 18) 3; rw [bx_part (by omega) (by omega) 3] at h9; exact h9
  refine h_geti (ci := 4) (C := RX4) (F := TX4) (N := 9) hx hb hts in4 hown hK hH (lt_nK (by omega)) (kd_part (by omega) (by omega)) (by decide) rfl 3 (by decide) wd3 (fun _ h9 => h9) (by decide) rfl dX5_enterRow_26 ?_
  refine sj_i (y := (i (r 3 18) 3)) (congrFun (up2_n _ _ (by omega)) _) ?_
  refine lv_iconst (v := 1) hx hb dX5_enterRow_29 (by decide) ?_
  refine lv_iadd hx hb dX5_enterRow_30 ?_
  obtain ⟨z_9, ez_9, hz_9⟩ := s_add (rfl : (i (r 3 18) 3).toInt = _) (show (1 : Int32).toInt = 1 from rfl) (by omega) (by omega)
  refine sj_i ez_9 ?_
  have hO_10 := okp hO_5 (n := (r 3 18)) (k := 3) (v := z_9) (by rw [bx_part (by omega) (by omega) 3]; exact (show (0 : Int) ≤ (z_9 : Int32).toInt ∧ (z_9 : Int32).toInt ≤ 40 from ⟨by omega, by omega⟩))
  refine h_puti (ty := .int) (ci := 4) (C := RX4) (F := TX4) (N := 9) hx hb hts in4 tyX4 tyX4_ok nmX4 hown hK hH hS (lt_nK (by omega)) (kd_part (by omega) (by omega)) (by decide) rfl 3 (by decide) wd3 (fun _ h9 => h9) rfl (by decide +kernel) rfl rfl (by decide) rfl dX5_enterRow_31 (fun H locs hH hS => ?_)
  refine lv_aload hx hb dX5_enterRow_34 (lv_at hl 0 rfl) ?_
  refine lv_iload_n hx hb dX5_enterRow_36 rfl (lv_at hl 2 rfl) ?_
  have hO_11 := okp hO_10 (n := (96 + 3 * j_3)) (k := 3) (v := x) (by rw [bx_row lj_3 3]; exact (show (-2147483648 : Int) ≤ (x : Int32).toInt ∧ (x : Int32).toInt ≤ 2147483647 from s_rng x))
  refine h_puti (ty := .int) (ci := 6) (C := RX6) (F := TX6) (N := 4) hx hb hts in6 tyX6 tyX6_ok nmX6 hown hK hH hS (lt_nK (by omega)) (kd_row lj_3) (by decide) rfl 3 (by decide) wd4 (fun _ h9 => h9) rfl (by decide +kernel) rfl rfl (by decide) rfl dX5_enterRow_37 (fun H locs hH hS => ?_)
  refine lv_aload hx hb dX5_enterRow_40 (lv_at hl 0 rfl) ?_
  refine lv_iconst (v := 0) hx hb dX5_enterRow_42 (by decide) ?_
  have hO_12 := okp hO_11 (n := (96 + 3 * j_3)) (k := 2) (v := 0) (by rw [bx_row lj_3 2]; exact (show (0 : Int) ≤ (0 : Int32).toInt ∧ (0 : Int32).toInt ≤ 4 from ⟨by decide, by decide⟩))
  refine h_puti (ty := .int) (ci := 6) (C := RX6) (F := TX6) (N := 4) hx hb hts in6 tyX6 tyX6_ok nmX6 hown hK hH hS (lt_nK (by omega)) (kd_row lj_3) (by decide) rfl 2 (by decide) wd5 (fun _ h9 => h9) rfl (by decide +kernel) rfl rfl (by decide) rfl dX5_enterRow_43 (fun H locs hH hS => ?_)
  refine lv_iload_n hx hb dX5_enterRow_46 rfl (lv_at hl 3 rfl) ?_
  refine lv_iconst (v := 1) hx hb dX5_enterRow_47 (by decide) ?_
  refine lv_iadd hx hb dX5_enterRow_48 ?_
  obtain ⟨z_13, ez_13, hz_13⟩ := s_add (rfl : y.toInt = _) (show (1 : Int32).toInt = 1 from rfl) (by omega) (by omega)
  refine sj_i ez_13 ?_
  refine lv_istore (lv' := [(5, .int z_13), (4, .ref (g (96 + 3 * j_3))), (0, .ref (g 3)), (1, .int x), (2, .int y), (3, .int z)]) hx hb dX5_enterRow_49 hl (by decide) rfl (fun ls hl => ?_)
  refine lv_iload_n hx hb dX5_enterRow_51 rfl (lv_at hl 4 rfl) ?_
  refine lv_iconst (v := 1) hx hb dX5_enterRow_52 (by decide) ?_
  refine lv_iadd hx hb dX5_enterRow_53 ?_
  obtain ⟨z_14, ez_14, hz_14⟩ := s_add (rfl : y.toInt = _) (show (1 : Int32).toInt = 1 from rfl) (by omega) (by omega)
  refine sj_i ez_14 ?_
  refine lv_istore (lv' := [(6, .int z_14), (5, .int z_13), (4, .ref (g (96 + 3 * j_3))), (0, .ref (g 3)), (1, .int x), (2, .int y), (3, .int z)]) hx hb dX5_enterRow_54 hl (by decide) rfl (fun ls hl => ?_)
  -- loop at 56
  have lp_15 : ∀ (fuel_lp_15 : Nat) (f : Int32) (u : Int32) (j1 : Nat → Nat → Int32) (H : Heap) (locs : List Loc) (ls : Array Slot), (480 - f.toInt).toNat < fuel_lp_15 → (1 : Int) ≤ f.toInt ∧ f.toInt ≤ 480 → (1 : Int) ≤ u.toInt ∧ u.toInt ≤ 480 → u.toInt ≤ f.toInt ∧ f.toInt ≤ z.toInt ∧ 0 ≤ u.toInt → (j1 (96 + 3 * j_3) 3).toInt = x.toInt → (∀ c9 : Nat, c9 < 4 → (j1 (96 + 3 * j_3 + 1) c9).toInt + (j1 (96 + 3 * j_3 + 2) c9).toInt ≤ 480) → (j1 (96 + 3 * j_3) 2).toInt + brs (lnL (i 5) f.toInt z.toInt) = brs (lnL (i 5) (y.toInt + 1) z.toInt) → OkI j1 → (∀ a, ¬ ((96 + 3 * j_3 ≤ a ∧ a < 96 + 3 * j_3 + 3)) → j1 a = (up2 (up2 (up2 (up2 i 3 14 z_4) (r 3 18) 3 z_9) (96 + 3 * j_3) 3 x) (96 + 3 * j_3) 2 0) a) → lv_has ls 8 [(6, .int f), (5, .int u), (4, .ref (g (96 + 3 * j_3))), (0, .ref (g 3)), (1, .int x), (2, .int y), (3, .int z)] → sj_H D A (hwc g ka j1 r L d) H → va_S A s.heap H locs → W p l e (headSpec wsX5_enterRow ({ frames := 2, cells := 0, slots := 0, locals := 44 })).room s m ([.ref (g 3), .int x, .int y, .int z] : List Value).toArray below meth c H locs 0 0 (MQ below (sj_Qv (S := (Nat → Nat → Int32)) D (fun u => OkI u ∧ (∀ a, ¬ (a = 3 ∨ (37 ≤ a ∧ a < 96) ∨ (96 ≤ a ∧ a < 216)) → u a = i a) ∧ (rwQ i (r 3 17) (r 3 18) u (r 3 17) (r 3 18) x.toInt (brs (lnL (i 5) (y.toInt + 1) z.toInt))) ∧ (PW u)) (fun u => hwc g ka u r L d) (fun _ => []) A) ([.ref (g 3), .int x, .int y, .int z] : List Value).toArray s 0 0 A) (F0 m 56 ls []) := by
    intro fuel_lp_15
    induction fuel_lp_15 with
    | zero => intros; omega
    | succ fuel_lp_15 ih_lp_15 =>
      intro f u j1 H locs ls hm hr_f hr_u hi_lp_15_0 hi_lp_15_1 hi_lp_15_2 hi_lp_15_3 hO_j1 hfr_j1 hl hH hS
      refine lv_iload hx hb dX5_enterRow_56 (lv_at hl 0 rfl) ?_
      refine lv_iload_n hx hb dX5_enterRow_58 rfl (lv_at hl 6 rfl) ?_
      refine lv_icmp_ge (tgt := 158) hx hb dX5_enterRow_59 (by decide) (fun c_16 => ?_) (fun c_16 => ?_)
      · skip
        have h_17 := s_le (rfl : z.toInt = _) (rfl : f.toInt = _) c_16
        refine lv_aload_n hx hb dX5_enterRow_158 rfl (lv_at hl 3 rfl) ?_
        refine lv_aload_n hx hb dX5_enterRow_159 rfl (lv_at hl 3 rfl) ?_
        have bx_18 : (0 : Int) ≤ (i 3 15).toInt ∧ (i 3 15).toInt ≤ 8 := hO 3 15
        refine h_geti (ci := 5) (C := RX5) (F := TX5) (N := 19) hx hb hts in5 hown hK hH (by decide) (rfl : kd 3 = 5) (by decide) rfl 15 (by decide) wd6 (fun _ h9 => h9) (by decide) rfl dX5_enterRow_160 ?_
        refine sj_i (y := (i 3 15)) ((congrFun (hfr_j1 3 (by omega)) _).trans ((congrFun (up2_n _ _ (by omega)) _).trans ((congrFun (up2_n _ _ (by omega)) _).trans ((congrFun (up2_n _ _ (by omega)) _).trans (up2_k _ _ (by decide)))))) ?_
        refine lv_bipush (v := 6) hx hb dX5_enterRow_163 (by decide) ?_
        refine lv_icmp_lt (tgt := 173) hx hb dX5_enterRow_165 (by decide) (fun c_19 => ?_) (fun c_19 => ?_)
        · skip
          have h_20 := s_lt (rfl : (i 3 15).toInt = _) (show (6 : Int32).toInt = 6 from rfl) c_19
          refine lv_aload_n hx hb dX5_enterRow_173 rfl (lv_at hl 3 rfl) ?_
          refine h_geti (ci := 5) (C := RX5) (F := TX5) (N := 19) hx hb hts in5 hown hK hH (by decide) (rfl : kd 3 = 5) (by decide) rfl 15 (by decide) wd6 (fun _ h9 => h9) (by decide) rfl dX5_enterRow_174 ?_
          refine sj_i (y := (i 3 15)) ((congrFun (hfr_j1 3 (by omega)) _).trans ((congrFun (up2_n _ _ (by omega)) _).trans ((congrFun (up2_n _ _ (by omega)) _).trans ((congrFun (up2_n _ _ (by omega)) _).trans (up2_k _ _ (by decide)))))) ?_
          have hO_21 := okp hO_j1 (n := 3) (k := 15) (v := (i 3 15)) (show (0 : Int) ≤ ((i 3 15) : Int32).toInt ∧ ((i 3 15) : Int32).toInt ≤ 8 from ⟨by omega, by omega⟩)
          refine h_puti (ty := .int) (ci := 5) (C := RX5) (F := TX5) (N := 19) hx hb hts in5 tyX5 tyX5_ok nmX5 hown hK hH hS (by decide) (rfl : kd 3 = 5) (by decide) rfl 15 (by decide) wd6 (fun _ h9 => h9) rfl (by decide +kernel) rfl rfl (by decide) rfl dX5_enterRow_177 (fun H locs hH hS => ?_)
          have hp_22 : ((up2 j1 3 15 (i 3 15)) 3 6).toInt = ((i 3 6) : Int32).toInt := congrArg Int32.toInt (((up2_k _ _ (by decide)).trans ((congrFun (hfr_j1 3 (by omega)) _).trans ((congrFun (up2_n _ _ (by omega)) _).trans ((congrFun (up2_n _ _ (by omega)) _).trans ((congrFun (up2_n _ _ (by omega)) _).trans (up2_k _ _ (by decide))))))))
          have hp_23 : ((up2 j1 3 15 (i 3 15)) 3 8).toInt = ((i 3 8) : Int32).toInt := congrArg Int32.toInt (((up2_k _ _ (by decide)).trans ((congrFun (hfr_j1 3 (by omega)) _).trans ((congrFun (up2_n _ _ (by omega)) _).trans ((congrFun (up2_n _ _ (by omega)) _).trans ((congrFun (up2_n _ _ (by omega)) _).trans (up2_k _ _ (by decide))))))))
          have hp_24 : ((up2 j1 3 15 (i 3 15)) 3 10).toInt = ((i 3 10) : Int32).toInt := congrArg Int32.toInt (((up2_k _ _ (by decide)).trans ((congrFun (hfr_j1 3 (by omega)) _).trans ((congrFun (up2_n _ _ (by omega)) _).trans ((congrFun (up2_n _ _ (by omega)) _).trans ((congrFun (up2_n _ _ (by omega)) _).trans (up2_k _ _ (by decide))))))))
          have hp_25 : ((up2 j1 3 15 (i 3 15)) 3 12).toInt = ((i 3 12) : Int32).toInt := congrArg Int32.toInt (((up2_k _ _ (by decide)).trans ((congrFun (hfr_j1 3 (by omega)) _).trans ((congrFun (up2_n _ _ (by omega)) _).trans ((congrFun (up2_n _ _ (by omega)) _).trans ((congrFun (up2_n _ _ (by omega)) _).trans (up2_k _ _ (by decide))))))))
          have hp_26 : ((up2 j1 3 15 (i 3 15)) 3 14).toInt = (z_4 : Int32).toInt := congrArg Int32.toInt (((up2_k _ _ (by decide)).trans ((congrFun (hfr_j1 3 (by omega)) _).trans ((congrFun (up2_n _ _ (by omega)) _).trans ((congrFun (up2_n _ _ (by omega)) _).trans ((congrFun (up2_n _ _ (by omega)) _).trans (up2_at _ _ _ _)))))))
          have hp_27 : ((up2 j1 3 15 (i 3 15)) 3 15).toInt = ((i 3 15) : Int32).toInt := congrArg Int32.toInt ((up2_at _ _ _ _))
          have hp_28 : ((up2 j1 3 15 (i 3 15)) 3 16).toInt = ((i 3 16) : Int32).toInt := congrArg Int32.toInt (((up2_k _ _ (by decide)).trans ((congrFun (hfr_j1 3 (by omega)) _).trans ((congrFun (up2_n _ _ (by omega)) _).trans ((congrFun (up2_n _ _ (by omega)) _).trans ((congrFun (up2_n _ _ (by omega)) _).trans (up2_k _ _ (by decide))))))))
          have hp_29 : ((up2 j1 3 15 (i 3 15)) (r 3 18) 3).toInt = (z_9 : Int32).toInt := congrArg Int32.toInt (((congrFun (up2_n _ _ (by omega)) _).trans ((congrFun (hfr_j1 (r 3 18) (by omega)) _).trans ((congrFun (up2_n _ _ (by omega)) _).trans ((congrFun (up2_n _ _ (by omega)) _).trans (up2_at _ _ _ _))))))
          have hp_30 : ((up2 j1 3 15 (i 3 15)) (96 + 3 * j_3) 2).toInt = ((j1 (96 + 3 * j_3) 2) : Int32).toInt := congrArg Int32.toInt ((congrFun (up2_n _ _ (by omega)) _))
          have hp_31 : ((up2 j1 3 15 (i 3 15)) (96 + 3 * j_3) 3).toInt = ((j1 (96 + 3 * j_3) 3) : Int32).toInt := congrArg Int32.toInt ((congrFun (up2_n _ _ (by omega)) _))
          have hbe := brs_end (f := i 5) (a := f.toInt) (b := z.toInt) (by omega)
          have hV_32 : rwQ i (r 3 17) (r 3 18) (up2 j1 3 15 (i 3 15)) (r 3 17) (r 3 18) x.toInt (brs (lnL (i 5) (y.toInt + 1) z.toInt)) := ⟨rfl, rfl, by omega, by omega, (fun b hb => ((congrFun (up2_n _ _ (by omega)) _).trans ((congrFun (hfr_j1 (r 3 18) (by omega)) _).trans ((congrFun (up2_n _ _ (by omega)) _).trans ((congrFun (up2_n _ _ (by omega)) _).trans ((up2_k _ _ (by omega)).trans (congrFun (up2_n _ _ (by omega)) _))))))), (by rw [hN]; omega), (by rw [hN]; omega), by omega, (fun b hb => by
                have hb9 : b ≠ 14 ∧ b ≠ 15 := ⟨fun e9 => hb (by rw [e9]; decide), fun e9 => hb (by rw [e9]; decide)⟩
                exact ((up2_k _ _ (by omega)).trans ((congrFun (hfr_j1 3 (by omega)) _).trans ((congrFun (up2_n _ _ (by omega)) _).trans ((congrFun (up2_n _ _ (by omega)) _).trans ((congrFun (up2_n _ _ (by omega)) _).trans (up2_k _ _ (by omega)))))))), (fun a h3 ht hn => ((up2_n _ _ (by omega)).trans ((hfr_j1 a (by omega)).trans ((up2_n _ _ (by omega)).trans ((up2_n _ _ (by omega)).trans ((up2_n _ _ (by omega)).trans (up2_n _ _ (by omega))))))))⟩
          have hV_33 : PW (up2 j1 3 15 (i 3 15)) := (fun j9 c9 h1 h2 => by
                by_cases q9 : j9 = j_3
                · subst q9
                  have g1 : (up2 j1 3 15 (i 3 15)) (96 + 3 * j9 + 1) = j1 (96 + 3 * j9 + 1) := (up2_n _ _ (by omega))
                  have g2 : (up2 j1 3 15 (i 3 15)) (96 + 3 * j9 + 2) = j1 (96 + 3 * j9 + 2) := (up2_n _ _ (by omega))
                  rw [g1, g2]; exact hi_lp_15_2 c9 h2
                · have g1 : (up2 j1 3 15 (i 3 15)) (96 + 3 * j9 + 1) = i (96 + 3 * j9 + 1) := ((up2_n _ _ (by omega)).trans ((hfr_j1 (96 + 3 * j9 + 1) (by omega)).trans ((up2_n _ _ (by omega)).trans ((up2_n _ _ (by omega)).trans ((up2_n _ _ (by omega)).trans (up2_n _ _ (by omega)))))))
                  have g2 : (up2 j1 3 15 (i 3 15)) (96 + 3 * j9 + 2) = i (96 + 3 * j9 + 2) := ((up2_n _ _ (by omega)).trans ((hfr_j1 (96 + 3 * j9 + 2) (by omega)).trans ((up2_n _ _ (by omega)).trans ((up2_n _ _ (by omega)).trans ((up2_n _ _ (by omega)).trans (up2_n _ _ (by omega)))))))
                  rw [g1, g2]; exact hPW j9 c9 h1 h2)
          exact sj_vret hx hb hr hlocks hS (up2 j1 3 15 (i 3 15)) ⟨hO_21, (fun a ha => ((up2_n _ _ (by omega)).trans ((hfr_j1 a (by omega)).trans ((up2_n _ _ (by omega)).trans ((up2_n _ _ (by omega)).trans ((up2_n _ _ (by omega)).trans (up2_n _ _ (by omega)))))))), hV_32, hV_33⟩ hH (sj_Knil hK) (Nat.le_of_ble_eq_true rfl) (Nat.le_of_ble_eq_true rfl) dX5_enterRow_180
        · skip
          have h_34 := s_nlt (rfl : (i 3 15).toInt = _) (show (6 : Int32).toInt = 6 from rfl) c_19
          refine lv_bipush (v := 7) hx hb dX5_enterRow_168 (by decide) ?_
          refine lv_goto (tgt := 177) hx hb dX5_enterRow_170 (by decide) ?_
          have hO_35 := okp hO_j1 (n := 3) (k := 15) (v := 7) (show (0 : Int) ≤ (7 : Int32).toInt ∧ (7 : Int32).toInt ≤ 8 from ⟨by decide, by decide⟩)
          refine h_puti (ty := .int) (ci := 5) (C := RX5) (F := TX5) (N := 19) hx hb hts in5 tyX5 tyX5_ok nmX5 hown hK hH hS (by decide) (rfl : kd 3 = 5) (by decide) rfl 15 (by decide) wd6 (fun _ h9 => h9) rfl (by decide +kernel) rfl rfl (by decide) rfl dX5_enterRow_177 (fun H locs hH hS => ?_)
          have hp_36 : ((up2 j1 3 15 7) 3 6).toInt = ((i 3 6) : Int32).toInt := congrArg Int32.toInt (((up2_k _ _ (by decide)).trans ((congrFun (hfr_j1 3 (by omega)) _).trans ((congrFun (up2_n _ _ (by omega)) _).trans ((congrFun (up2_n _ _ (by omega)) _).trans ((congrFun (up2_n _ _ (by omega)) _).trans (up2_k _ _ (by decide))))))))
          have hp_37 : ((up2 j1 3 15 7) 3 8).toInt = ((i 3 8) : Int32).toInt := congrArg Int32.toInt (((up2_k _ _ (by decide)).trans ((congrFun (hfr_j1 3 (by omega)) _).trans ((congrFun (up2_n _ _ (by omega)) _).trans ((congrFun (up2_n _ _ (by omega)) _).trans ((congrFun (up2_n _ _ (by omega)) _).trans (up2_k _ _ (by decide))))))))
          have hp_38 : ((up2 j1 3 15 7) 3 10).toInt = ((i 3 10) : Int32).toInt := congrArg Int32.toInt (((up2_k _ _ (by decide)).trans ((congrFun (hfr_j1 3 (by omega)) _).trans ((congrFun (up2_n _ _ (by omega)) _).trans ((congrFun (up2_n _ _ (by omega)) _).trans ((congrFun (up2_n _ _ (by omega)) _).trans (up2_k _ _ (by decide))))))))
          have hp_39 : ((up2 j1 3 15 7) 3 12).toInt = ((i 3 12) : Int32).toInt := congrArg Int32.toInt (((up2_k _ _ (by decide)).trans ((congrFun (hfr_j1 3 (by omega)) _).trans ((congrFun (up2_n _ _ (by omega)) _).trans ((congrFun (up2_n _ _ (by omega)) _).trans ((congrFun (up2_n _ _ (by omega)) _).trans (up2_k _ _ (by decide))))))))
          have hp_40 : ((up2 j1 3 15 7) 3 14).toInt = (z_4 : Int32).toInt := congrArg Int32.toInt (((up2_k _ _ (by decide)).trans ((congrFun (hfr_j1 3 (by omega)) _).trans ((congrFun (up2_n _ _ (by omega)) _).trans ((congrFun (up2_n _ _ (by omega)) _).trans ((congrFun (up2_n _ _ (by omega)) _).trans (up2_at _ _ _ _)))))))
          have hp_41 : ((up2 j1 3 15 7) 3 15).toInt = (7 : Int32).toInt := congrArg Int32.toInt ((up2_at _ _ _ _))
          have hl_42 : (7 : Int32).toInt = 7 := rfl
          have hp_43 : ((up2 j1 3 15 7) 3 16).toInt = ((i 3 16) : Int32).toInt := congrArg Int32.toInt (((up2_k _ _ (by decide)).trans ((congrFun (hfr_j1 3 (by omega)) _).trans ((congrFun (up2_n _ _ (by omega)) _).trans ((congrFun (up2_n _ _ (by omega)) _).trans ((congrFun (up2_n _ _ (by omega)) _).trans (up2_k _ _ (by decide))))))))
          have hp_44 : ((up2 j1 3 15 7) (r 3 18) 3).toInt = (z_9 : Int32).toInt := congrArg Int32.toInt (((congrFun (up2_n _ _ (by omega)) _).trans ((congrFun (hfr_j1 (r 3 18) (by omega)) _).trans ((congrFun (up2_n _ _ (by omega)) _).trans ((congrFun (up2_n _ _ (by omega)) _).trans (up2_at _ _ _ _))))))
          have hp_45 : ((up2 j1 3 15 7) (96 + 3 * j_3) 2).toInt = ((j1 (96 + 3 * j_3) 2) : Int32).toInt := congrArg Int32.toInt ((congrFun (up2_n _ _ (by omega)) _))
          have hp_46 : ((up2 j1 3 15 7) (96 + 3 * j_3) 3).toInt = ((j1 (96 + 3 * j_3) 3) : Int32).toInt := congrArg Int32.toInt ((congrFun (up2_n _ _ (by omega)) _))
          have hbe := brs_end (f := i 5) (a := f.toInt) (b := z.toInt) (by omega)
          have hV_47 : rwQ i (r 3 17) (r 3 18) (up2 j1 3 15 7) (r 3 17) (r 3 18) x.toInt (brs (lnL (i 5) (y.toInt + 1) z.toInt)) := ⟨rfl, rfl, by omega, by omega, (fun b hb => ((congrFun (up2_n _ _ (by omega)) _).trans ((congrFun (hfr_j1 (r 3 18) (by omega)) _).trans ((congrFun (up2_n _ _ (by omega)) _).trans ((congrFun (up2_n _ _ (by omega)) _).trans ((up2_k _ _ (by omega)).trans (congrFun (up2_n _ _ (by omega)) _))))))), (by rw [hN]; omega), (by rw [hN]; omega), by omega, (fun b hb => by
                have hb9 : b ≠ 14 ∧ b ≠ 15 := ⟨fun e9 => hb (by rw [e9]; decide), fun e9 => hb (by rw [e9]; decide)⟩
                exact ((up2_k _ _ (by omega)).trans ((congrFun (hfr_j1 3 (by omega)) _).trans ((congrFun (up2_n _ _ (by omega)) _).trans ((congrFun (up2_n _ _ (by omega)) _).trans ((congrFun (up2_n _ _ (by omega)) _).trans (up2_k _ _ (by omega)))))))), (fun a h3 ht hn => ((up2_n _ _ (by omega)).trans ((hfr_j1 a (by omega)).trans ((up2_n _ _ (by omega)).trans ((up2_n _ _ (by omega)).trans ((up2_n _ _ (by omega)).trans (up2_n _ _ (by omega))))))))⟩
          have hV_48 : PW (up2 j1 3 15 7) := (fun j9 c9 h1 h2 => by
                by_cases q9 : j9 = j_3
                · subst q9
                  have g1 : (up2 j1 3 15 7) (96 + 3 * j9 + 1) = j1 (96 + 3 * j9 + 1) := (up2_n _ _ (by omega))
                  have g2 : (up2 j1 3 15 7) (96 + 3 * j9 + 2) = j1 (96 + 3 * j9 + 2) := (up2_n _ _ (by omega))
                  rw [g1, g2]; exact hi_lp_15_2 c9 h2
                · have g1 : (up2 j1 3 15 7) (96 + 3 * j9 + 1) = i (96 + 3 * j9 + 1) := ((up2_n _ _ (by omega)).trans ((hfr_j1 (96 + 3 * j9 + 1) (by omega)).trans ((up2_n _ _ (by omega)).trans ((up2_n _ _ (by omega)).trans ((up2_n _ _ (by omega)).trans (up2_n _ _ (by omega)))))))
                  have g2 : (up2 j1 3 15 7) (96 + 3 * j9 + 2) = i (96 + 3 * j9 + 2) := ((up2_n _ _ (by omega)).trans ((hfr_j1 (96 + 3 * j9 + 2) (by omega)).trans ((up2_n _ _ (by omega)).trans ((up2_n _ _ (by omega)).trans ((up2_n _ _ (by omega)).trans (up2_n _ _ (by omega)))))))
                  rw [g1, g2]; exact hPW j9 c9 h1 h2)
          exact sj_vret hx hb hr hlocks hS (up2 j1 3 15 7) ⟨hO_35, (fun a ha => ((up2_n _ _ (by omega)).trans ((hfr_j1 a (by omega)).trans ((up2_n _ _ (by omega)).trans ((up2_n _ _ (by omega)).trans ((up2_n _ _ (by omega)).trans (up2_n _ _ (by omega)))))))), hV_47, hV_48⟩ hH (sj_Knil hK) (Nat.le_of_ble_eq_true rfl) (Nat.le_of_ble_eq_true rfl) dX5_enterRow_180
      · skip
        have h_49 := s_nle (rfl : z.toInt = _) (rfl : f.toInt = _) c_16
        refine lv_aload_n hx hb dX5_enterRow_62 rfl (lv_at hl 3 rfl) ?_
        refine h_getr (ci := 5) (C := RX5) (F := TX5) (N := 19) hx hb hts in5 hown hK hH (by decide) (rfl : kd 3 = 5) (by decide) rfl 0 (by decide) wd7 (fun _ h9 => h9) (by decide) rfl (t := 4) (hR 3 0 rfl) (by decide) dX5_enterRow_63 ?_
        refine lv_iload hx hb dX5_enterRow_66 (lv_at hl 0 rfl) ?_
        have hwt_50 : (j1 4 1).toInt = ((i 4 1) : Int32).toInt := congrArg Int32.toInt ((congrFun (hfr_j1 4 (by omega)) _).trans ((congrFun (up2_n _ _ (by omega)) _).trans ((congrFun (up2_n _ _ (by omega)) _).trans ((congrFun (up2_n _ _ (by omega)) _).trans (congrFun (up2_n _ _ (by decide)) _)))))
        refine x_calli (va_runV (As := [.int f]) (rest := []) ⟨hx, hb, hml, hown, hts⟩ (k_at_source l D g ka ad j1 r L d f hO_j1 hR H.size ) (cwV 1 hts gX5_enterRow_X3_at rfl rfl rfl (by decide +kernel) ⟨(Nat.le_of_ble_eq_true rfl), (Nat.le_of_ble_eq_true rfl)⟩) (x_preV (q := (RX3, TX3, 2)) hH hK (q_obj (by decide) (rfl : kd 4 = 3) (by decide)) rfl gxb (gxw hE hS (x_F hH hS hA))) rfl rfl hl.1 rfl (lv_room (Nat.le_of_ble_eq_true rfl)) dX5_enterRow_68 ⟨(Nat.le_of_ble_eq_true rfl), (Nat.le_of_ble_eq_true rfl)⟩) hH hS hA rfl rfl (fun r_51 _ H locs hw_52 hH hS => ?_)
        obtain ⟨hr_54, he_55⟩ := hw_52
        have hr_54 : (-1 : Int) ≤ r_51.toInt ∧ r_51.toInt ≤ 65535 := hr_54
        rw [show j1 5 = i 5 from ((hfr_j1 5 (by omega)).trans ((up2_n _ _ (by omega)).trans ((up2_n _ _ (by omega)).trans ((up2_n _ _ (by omega)).trans (up2_n _ _ (by omega))))))] at he_55
        have hbs := brs_s (f := i 5) (a := f.toInt) (b := z.toInt) (by omega) (by omega)
        have hbn := brs_0 (lnL (i 5) (f.toInt + 1) z.toInt)
        refine lv_bipush (v := 124) hx hb dX5_enterRow_71 (by decide) ?_
        refine lv_icmp_ne (tgt := 152) hx hb dX5_enterRow_73 (by decide) (fun c_56 => ?_) (fun c_56 => ?_)
        · skip
          have h_57 := s_ne (rfl : r_51.toInt = _) (show (124 : Int32).toInt = 124 from rfl) c_56
          obtain ⟨z_58, ez_58, hz_58⟩ := s_add (rfl : f.toInt = _) (show (1 : Int32).toInt = 1 from rfl) (by omega) (by omega)
          refine lv_iinc (v := z_58) (lv' := [(6, .int z_58), (5, .int u), (4, .ref (g (96 + 3 * j_3))), (0, .ref (g 3)), (1, .int x), (2, .int y), (3, .int z)]) hx hb dX5_enterRow_152 hl (k := 0) rfl ez_58 (by decide) rfl (fun ls hl => ?_)
          refine lv_goto (tgt := 56) hx hb dX5_enterRow_155 (by decide) ?_
          have hp_59 : (j1 (96 + 3 * j_3) 3).toInt = ((j1 (96 + 3 * j_3) 3) : Int32).toInt := rfl
          have hp_60 : (j1 (96 + 3 * j_3) 2).toInt = ((j1 (96 + 3 * j_3) 2) : Int32).toInt := rfl
          exact ih_lp_15 z_58 u _ _ _ ls (by omega) (by omega) (by omega) (by omega) (by omega) hi_lp_15_2 (by rw [show (z_58).toInt = f.toInt + 1 by omega]; omega) hO_j1 (fun a ha => (hfr_j1 a (by omega))) (lv_sub hl [0, 1, 2, 3, 4, 5, 6] rfl) hH hS
        · skip
          have h_61 := s_eq (rfl : r_51.toInt = _) (show (124 : Int32).toInt = 124 from rfl) c_56
          refine lv_aload hx hb dX5_enterRow_76 (lv_at hl 2 rfl) ?_
          have bx_62 : (0 : Int) ≤ (j1 (96 + 3 * j_3) 2).toInt ∧ (j1 (96 + 3 * j_3) 2).toInt ≤ 4 := by have h9 := hO_j1 (96 + 3 * j_3) 2; rw [bx_row lj_3 2] at h9; exact h9
          refine h_geti (ci := 6) (C := RX6) (F := TX6) (N := 4) hx hb hts in6 hown hK hH (lt_nK (by omega)) (kd_row lj_3) (by decide) rfl 2 (by decide) wd5 (fun _ h9 => h9) (by decide) rfl dX5_enterRow_78 ?_
          refine lv_iconst (v := 4) hx hb dX5_enterRow_81 (by decide) ?_
          refine lv_icmp_ge (tgt := 152) hx hb dX5_enterRow_82 (by decide) (fun c_63 => ?_) (fun c_63 => ?_)
          · skip
            have h_64 := s_le (show (4 : Int32).toInt = 4 from rfl) (rfl : (j1 (96 + 3 * j_3) 2).toInt = _) c_63
            obtain ⟨z_65, ez_65, hz_65⟩ := s_add (rfl : f.toInt = _) (show (1 : Int32).toInt = 1 from rfl) (by omega) (by omega)
            refine lv_iinc (v := z_65) (lv' := [(6, .int z_65), (5, .int u), (4, .ref (g (96 + 3 * j_3))), (0, .ref (g 3)), (1, .int x), (2, .int y), (3, .int z)]) hx hb dX5_enterRow_152 hl (k := 0) rfl ez_65 (by decide) rfl (fun ls hl => ?_)
            refine lv_goto (tgt := 56) hx hb dX5_enterRow_155 (by decide) ?_
            have hp_66 : (j1 (96 + 3 * j_3) 3).toInt = ((j1 (96 + 3 * j_3) 3) : Int32).toInt := rfl
            have hp_67 : (j1 (96 + 3 * j_3) 2).toInt = ((j1 (96 + 3 * j_3) 2) : Int32).toInt := rfl
            exact ih_lp_15 z_65 u _ _ _ ls (by omega) (by omega) (by omega) (by omega) (by omega) hi_lp_15_2 (by rw [show (z_65).toInt = f.toInt + 1 by omega]; omega) hO_j1 (fun a ha => (hfr_j1 a (by omega))) (lv_sub hl [0, 1, 2, 3, 4, 5, 6] rfl) hH hS
          · skip
            have h_68 := s_nle (show (4 : Int32).toInt = 4 from rfl) (rfl : (j1 (96 + 3 * j_3) 2).toInt = _) c_63
            refine lv_aload_n hx hb dX5_enterRow_85 rfl (lv_at hl 3 rfl) ?_
            refine lv_iload hx hb dX5_enterRow_86 (lv_at hl 1 rfl) ?_
            refine lv_iload hx hb dX5_enterRow_88 (lv_at hl 0 rfl) ?_
            have hwt_69 : (j1 4 1).toInt = ((i 4 1) : Int32).toInt := congrArg Int32.toInt ((congrFun (hfr_j1 4 (by omega)) _).trans ((congrFun (up2_n _ _ (by omega)) _).trans ((congrFun (up2_n _ _ (by omega)) _).trans ((congrFun (up2_n _ _ (by omega)) _).trans (congrFun (up2_n _ _ (by decide)) _)))))
            refine x_calli (va_runV (As := [.int u, .int f]) (rest := []) ⟨hx, hb, hml, hown, hts⟩ (k_skip l D g ka ad j1 r L d u f hO_j1 hR H.size (by first | omega | decide) (by first | omega | decide) (by first | omega | decide) (by first | omega | decide)) (cwV 2 hts gX5_enterRow_X5_skipBlanks rfl rfl rfl (by decide +kernel) ⟨(Nat.le_of_ble_eq_true rfl), (Nat.le_of_ble_eq_true rfl)⟩) (x_preV (q := (RX5, TX5, 19)) hH hK (q_obj (by decide) (rfl : kd 3 = 5) (by decide)) rfl gxb (gxw hE hS (x_F hH hS hA))) rfl rfl hl.1 rfl (lv_room (Nat.le_of_ble_eq_true rfl)) dX5_enterRow_90 ⟨(Nat.le_of_ble_eq_true rfl), (Nat.le_of_ble_eq_true rfl)⟩) hH hS hA rfl rfl (fun r_70 _ H locs hw_71 hH hS => ?_)
            obtain ⟨hr_73, hx2_74⟩ := hw_71
            have hr_73 : (0 : Int) ≤ r_70.toInt ∧ r_70.toInt ≤ 480 := hr_73
            have hsk_75 := hx2_74.1
            have hsk_76 := hx2_74.2.1
            refine lv_istore (lv' := [(7, .int r_70), (6, .int f), (5, .int u), (4, .ref (g (96 + 3 * j_3))), (0, .ref (g 3)), (1, .int x), (2, .int y), (3, .int z)]) hx hb dX5_enterRow_93 hl (by decide) rfl (fun ls hl => ?_)
            refine lv_aload hx hb dX5_enterRow_95 (lv_at hl 3 rfl) ?_
            refine h_getr (ci := 6) (C := RX6) (F := TX6) (N := 4) hx hb hts in6 hown hK hH (lt_nK (by omega)) (kd_row lj_3) (by decide) rfl 0 (by decide) wd8 (fun _ h9 => h9) (by decide) rfl (t := (96 + 3 * j_3 + 1)) ((hR _ _ (by unfold dyn; simp <;> omega)).trans (sr_mid (by omega) (by omega))) (lt_nK (by omega)) dX5_enterRow_97 ?_
            refine lv_aload hx hb dX5_enterRow_100 (lv_at hl 3 rfl) ?_
            refine h_geti (ci := 6) (C := RX6) (F := TX6) (N := 4) hx hb hts in6 hown hK hH (lt_nK (by omega)) (kd_row lj_3) (by decide) rfl 2 (by decide) wd5 (fun _ h9 => h9) (by decide) rfl dX5_enterRow_102 ?_
            refine lv_iload hx hb dX5_enterRow_105 (lv_at hl 0 rfl) ?_
            have hO_77 := okp hO_j1 (n := (96 + 3 * j_3 + 1)) (k := ((j1 (96 + 3 * j_3) 2).toInt).toNat) (v := r_70) (by rw [bx_rowa1 lj_3 ((j1 (96 + 3 * j_3) 2).toInt).toNat]; exact (show (0 : Int) ≤ (r_70 : Int32).toInt ∧ (r_70 : Int32).toInt ≤ 480 from ⟨by omega, by omega⟩))
            refine h_iast hx hb hK hH hS (lt_nK (by omega)) (kd_rowa lj_3 (by decide) (by decide)) (s_vin (N := 4) (rfl : (j1 (96 + 3 * j_3) 2).toInt = _) (ln_rowa lj_3 (by decide)) (by omega) (by omega)) dX5_enterRow_107 (fun H locs hH hS => ?_)
            rw [s_cl (show (j1 (96 + 3 * j_3) 2).toInt = (j1 (96 + 3 * j_3) 2).toInt by omega)] at hH
            refine lv_aload hx hb dX5_enterRow_108 (lv_at hl 3 rfl) ?_
            refine h_getr (ci := 6) (C := RX6) (F := TX6) (N := 4) hx hb hts in6 hown hK hH (lt_nK (by omega)) (kd_row lj_3) (by decide) rfl 1 (by decide) wd9 (fun _ h9 => h9) (by decide) rfl (t := (96 + 3 * j_3 + 2)) ((hR _ _ (by unfold dyn; simp <;> omega)).trans (sr_mid (by omega) (by omega))) (lt_nK (by omega)) dX5_enterRow_110 ?_
            refine lv_aload hx hb dX5_enterRow_113 (lv_at hl 3 rfl) ?_
            refine h_geti (ci := 6) (C := RX6) (F := TX6) (N := 4) hx hb hts in6 hown hK hH (lt_nK (by omega)) (kd_row lj_3) (by decide) rfl 2 (by decide) wd5 (fun _ h9 => h9) (by decide) rfl dX5_enterRow_115 ?_
            refine sj_i (y := (j1 (96 + 3 * j_3) 2)) (congrFun (up2_n _ _ (by omega)) _) ?_
            refine lv_aload_n hx hb dX5_enterRow_118 rfl (lv_at hl 4 rfl) ?_
            refine lv_iload hx hb dX5_enterRow_119 (lv_at hl 0 rfl) ?_
            refine lv_iload hx hb dX5_enterRow_121 (lv_at hl 1 rfl) ?_
            have hwt_78 : ((up2 j1 (96 + 3 * j_3 + 1) ((j1 (96 + 3 * j_3) 2).toInt).toNat r_70) 4 1).toInt = ((i 4 1) : Int32).toInt := congrArg Int32.toInt ((congrFun (up2_n _ _ (by omega)) _).trans ((congrFun (hfr_j1 4 (by omega)) _).trans ((congrFun (up2_n _ _ (by omega)) _).trans ((congrFun (up2_n _ _ (by omega)) _).trans ((congrFun (up2_n _ _ (by omega)) _).trans (congrFun (up2_n _ _ (by decide)) _))))))
            refine x_calli (va_runV (As := [.int r_70, .int f]) (rest := [.int (j1 (96 + 3 * j_3) 2), .ref (g (96 + 3 * j_3 + 2))]) ⟨hx, hb, hml, hown, hts⟩ (k_drop l D g ka ad (up2 j1 (96 + 3 * j_3 + 1) ((j1 (96 + 3 * j_3) 2).toInt).toNat r_70) r L d r_70 f hO_77 hR H.size (by first | omega | decide) (by first | omega | decide) (by first | omega | decide) (by first | omega | decide)) (cwV 2 hts gX5_enterRow_X5_dropBlanks rfl rfl rfl (by decide +kernel) ⟨(Nat.le_of_ble_eq_true rfl), (Nat.le_of_ble_eq_true rfl)⟩) (x_preV (q := (RX5, TX5, 19)) hH hK (q_obj (by decide) (rfl : kd 3 = 5) (by decide)) rfl gxb (gxw hE hS (x_F hH hS hA))) rfl rfl hl.1 rfl (lv_room (Nat.le_of_ble_eq_true rfl)) dX5_enterRow_123 ⟨(Nat.le_of_ble_eq_true rfl), (Nat.le_of_ble_eq_true rfl)⟩) hH hS hA rfl rfl (fun r_79 _ H locs hw_80 hH hS => ?_)
            obtain ⟨hr_82, hx2_83⟩ := hw_80
            have hr_82 : (0 : Int) ≤ r_79.toInt ∧ r_79.toInt ≤ 480 := hr_82
            have hsk_84 := hx2_83.1
            have hsk_85 := hx2_83.2.1
            refine lv_iload hx hb dX5_enterRow_126 (lv_at hl 0 rfl) ?_
            refine lv_isub hx hb dX5_enterRow_128 ?_
            obtain ⟨z_86, ez_86, hz_86⟩ := s_sub (rfl : r_79.toInt = _) (rfl : r_70.toInt = _) (by omega) (by omega)
            refine sj_i ez_86 ?_
            refine lv_bipush (v := 60) hx hb dX5_enterRow_129 (by decide) ?_
            refine va_mmin hx hb (hml.trans hl.1.symm) hown wd10 wd11 wd12 wd13 (Nat.le_of_ble_eq_true rfl) (Nat.le_of_ble_eq_true rfl) (Nat.le_of_ble_eq_true rfl) (Nat.le_of_ble_eq_true rfl) dX5_enterRow_131 ?_
            obtain ⟨z_87, ez_87⟩ : ∃ z, (if 60 < z_86 then 60 else z_86) = z := ⟨_, rfl⟩
            refine sj_i ez_87 ?_
            have hz_87 := s_min (rfl : z_86.toInt = _) (show (60 : Int32).toInt = 60 from rfl) ez_87
            have hO_88 := okp hO_77 (n := (96 + 3 * j_3 + 2)) (k := ((j1 (96 + 3 * j_3) 2).toInt).toNat) (v := z_87) (by rw [bx_rowa2 lj_3 ((j1 (96 + 3 * j_3) 2).toInt).toNat]; exact (show (0 : Int) ≤ (z_87 : Int32).toInt ∧ (z_87 : Int32).toInt ≤ 60 from ⟨by omega, by omega⟩))
            refine h_iast hx hb hK hH hS (lt_nK (by omega)) (kd_rowa lj_3 (by decide) (by decide)) (s_vin (N := 4) (rfl : (j1 (96 + 3 * j_3) 2).toInt = _) (ln_rowa lj_3 (by decide)) (by omega) (by omega)) dX5_enterRow_134 (fun H locs hH hS => ?_)
            rw [s_cl (show (j1 (96 + 3 * j_3) 2).toInt = (j1 (96 + 3 * j_3) 2).toInt by omega)] at hH
            refine lv_aload hx hb dX5_enterRow_135 (lv_at hl 3 rfl) ?_
            refine lv_dup hx hb dX5_enterRow_137 rfl ?_
            refine h_geti (ci := 6) (C := RX6) (F := TX6) (N := 4) hx hb hts in6 hown hK hH (lt_nK (by omega)) (kd_row lj_3) (by decide) rfl 2 (by decide) wd5 (fun _ h9 => h9) (by decide) rfl dX5_enterRow_138 ?_
            refine sj_i (y := (j1 (96 + 3 * j_3) 2)) ((congrFun (up2_n _ _ (by omega)) _).trans (congrFun (up2_n _ _ (by omega)) _)) ?_
            refine lv_iconst (v := 1) hx hb dX5_enterRow_141 (by decide) ?_
            refine lv_iadd hx hb dX5_enterRow_142 ?_
            obtain ⟨z_89, ez_89, hz_89⟩ := s_add (rfl : (j1 (96 + 3 * j_3) 2).toInt = _) (show (1 : Int32).toInt = 1 from rfl) (by omega) (by omega)
            refine sj_i ez_89 ?_
            have hO_90 := okp hO_88 (n := (96 + 3 * j_3)) (k := 2) (v := z_89) (by rw [bx_row lj_3 2]; exact (show (0 : Int) ≤ (z_89 : Int32).toInt ∧ (z_89 : Int32).toInt ≤ 4 from ⟨by omega, by omega⟩))
            refine h_puti (ty := .int) (ci := 6) (C := RX6) (F := TX6) (N := 4) hx hb hts in6 tyX6 tyX6_ok nmX6 hown hK hH hS (lt_nK (by omega)) (kd_row lj_3) (by decide) rfl 2 (by decide) wd5 (fun _ h9 => h9) rfl (by decide +kernel) rfl rfl (by decide) rfl dX5_enterRow_143 (fun H locs hH hS => ?_)
            refine lv_iload hx hb dX5_enterRow_146 (lv_at hl 1 rfl) ?_
            refine lv_iconst (v := 1) hx hb dX5_enterRow_148 (by decide) ?_
            refine lv_iadd hx hb dX5_enterRow_149 ?_
            obtain ⟨z_91, ez_91, hz_91⟩ := s_add (rfl : f.toInt = _) (show (1 : Int32).toInt = 1 from rfl) (by omega) (by omega)
            refine sj_i ez_91 ?_
            refine lv_istore (lv' := [(5, .int z_91), (7, .int r_70), (6, .int f), (4, .ref (g (96 + 3 * j_3))), (0, .ref (g 3)), (1, .int x), (2, .int y), (3, .int z)]) hx hb dX5_enterRow_150 hl (by decide) rfl (fun ls hl => ?_)
            obtain ⟨z_92, ez_92, hz_92⟩ := s_add (rfl : f.toInt = _) (show (1 : Int32).toInt = 1 from rfl) (by omega) (by omega)
            refine lv_iinc (v := z_92) (lv' := [(6, .int z_92), (5, .int z_91), (7, .int r_70), (4, .ref (g (96 + 3 * j_3))), (0, .ref (g 3)), (1, .int x), (2, .int y), (3, .int z)]) hx hb dX5_enterRow_152 hl (k := 2) rfl ez_92 (by decide) rfl (fun ls hl => ?_)
            refine lv_goto (tgt := 56) hx hb dX5_enterRow_155 (by decide) ?_
            have hp_93 : ((up2 (up2 (up2 j1 (96 + 3 * j_3 + 1) ((j1 (96 + 3 * j_3) 2).toInt).toNat r_70) (96 + 3 * j_3 + 2) ((j1 (96 + 3 * j_3) 2).toInt).toNat z_87) (96 + 3 * j_3) 2 z_89) (96 + 3 * j_3) 3).toInt = ((j1 (96 + 3 * j_3) 3) : Int32).toInt := congrArg Int32.toInt (((up2_k _ _ (by decide)).trans ((congrFun (up2_n _ _ (by omega)) _).trans (congrFun (up2_n _ _ (by omega)) _))))
            have hp_94 : ((up2 (up2 (up2 j1 (96 + 3 * j_3 + 1) ((j1 (96 + 3 * j_3) 2).toInt).toNat r_70) (96 + 3 * j_3 + 2) ((j1 (96 + 3 * j_3) 2).toInt).toNat z_87) (96 + 3 * j_3) 2 z_89) (96 + 3 * j_3) 2).toInt = (z_89 : Int32).toInt := congrArg Int32.toInt ((up2_at _ _ _ _))
            exact ih_lp_15 z_92 z_91 _ _ _ ls (by omega) (by omega) (by omega) (by omega) (by omega) (fun c9 hc9 => by
                      by_cases q9 : c9 = ((j1 (96 + 3 * j_3) 2).toInt).toNat
                      · subst q9
                        have g1 : ((up2 (up2 (up2 j1 (96 + 3 * j_3 + 1) ((j1 (96 + 3 * j_3) 2).toInt).toNat r_70) (96 + 3 * j_3 + 2) ((j1 (96 + 3 * j_3) 2).toInt).toNat z_87) (96 + 3 * j_3) 2 z_89) (96 + 3 * j_3 + 1) _).toInt = (r_70 : Int32).toInt := congrArg Int32.toInt (((congrFun (up2_n _ _ (by omega)) _).trans ((congrFun (up2_n _ _ (by omega)) _).trans (up2_at _ _ _ _))))
                        have g2 : ((up2 (up2 (up2 j1 (96 + 3 * j_3 + 1) ((j1 (96 + 3 * j_3) 2).toInt).toNat r_70) (96 + 3 * j_3 + 2) ((j1 (96 + 3 * j_3) 2).toInt).toNat z_87) (96 + 3 * j_3) 2 z_89) (96 + 3 * j_3 + 2) _).toInt = (z_87 : Int32).toInt := congrArg Int32.toInt (((congrFun (up2_n _ _ (by omega)) _).trans (up2_at _ _ _ _)))
                        omega
                      · have g1 : (up2 (up2 (up2 j1 (96 + 3 * j_3 + 1) ((j1 (96 + 3 * j_3) 2).toInt).toNat r_70) (96 + 3 * j_3 + 2) ((j1 (96 + 3 * j_3) 2).toInt).toNat z_87) (96 + 3 * j_3) 2 z_89) (96 + 3 * j_3 + 1) c9 = j1 (96 + 3 * j_3 + 1) c9 := ((congrFun (up2_n _ _ (by omega)) _).trans ((congrFun (up2_n _ _ (by omega)) _).trans (up2_k _ _ (by omega))))
                        have g2 : (up2 (up2 (up2 j1 (96 + 3 * j_3 + 1) ((j1 (96 + 3 * j_3) 2).toInt).toNat r_70) (96 + 3 * j_3 + 2) ((j1 (96 + 3 * j_3) 2).toInt).toNat z_87) (96 + 3 * j_3) 2 z_89) (96 + 3 * j_3 + 2) c9 = j1 (96 + 3 * j_3 + 2) c9 := ((congrFun (up2_n _ _ (by omega)) _).trans ((up2_k _ _ (by omega)).trans (congrFun (up2_n _ _ (by omega)) _)))
                        rw [g1, g2]; exact hi_lp_15_2 c9 hc9) (by rw [show (z_92).toInt = f.toInt + 1 by omega]; omega) hO_90 (fun a ha => ((up2_n _ _ (by omega)).trans ((up2_n _ _ (by omega)).trans ((up2_n _ _ (by omega)).trans (hfr_j1 a (by omega)))))) (lv_sub hl [0, 1, 3, 4, 5, 6, 7] rfl) hH hS
  have hp_95 : ((up2 (up2 (up2 (up2 i 3 14 z_4) (r 3 18) 3 z_9) (96 + 3 * j_3) 3 x) (96 + 3 * j_3) 2 0) (96 + 3 * j_3) 3).toInt = (x : Int32).toInt := congrArg Int32.toInt (((up2_k _ _ (by decide)).trans (up2_at _ _ _ _)))
  have hp_96 : ((up2 (up2 (up2 (up2 i 3 14 z_4) (r 3 18) 3 z_9) (96 + 3 * j_3) 3 x) (96 + 3 * j_3) 2 0) (96 + 3 * j_3) 2).toInt = (0 : Int32).toInt := congrArg Int32.toInt ((up2_at _ _ _ _))
  have hl_97 : (0 : Int32).toInt = 0 := rfl
  exact lp_15 _ z_14 z_13 _ _ _ ls (Nat.lt_succ_self _) (by omega) (by omega) (by omega) (by omega) (fun c9 hc9 => (by have hp9 := hPW j_3 c9 lj_3 hc9; rw [show (up2 (up2 (up2 (up2 i 3 14 z_4) (r 3 18) 3 z_9) (96 + 3 * j_3) 3 x) (96 + 3 * j_3) 2 0) (96 + 3 * j_3 + 1) = i (96 + 3 * j_3 + 1) from ((up2_n _ _ (by omega)).trans ((up2_n _ _ (by omega)).trans ((up2_n _ _ (by omega)).trans (up2_n _ _ (by omega))))), show (up2 (up2 (up2 (up2 i 3 14 z_4) (r 3 18) 3 z_9) (96 + 3 * j_3) 3 x) (96 + 3 * j_3) 2 0) (96 + 3 * j_3 + 2) = i (96 + 3 * j_3 + 2) from ((up2_n _ _ (by omega)).trans ((up2_n _ _ (by omega)).trans ((up2_n _ _ (by omega)).trans (up2_n _ _ (by omega)))))]; exact hp9)) (by rw [show (z_14).toInt = y.toInt + 1 by omega]; omega) hO_12 (fun a ha => rfl) (lv_sub hl [0, 1, 2, 3, 4, 5, 6] rfl) hH hS
