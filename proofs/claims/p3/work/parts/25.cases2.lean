theorem dX1_nameAt_0 : decode cX1_nameAt 0 = .ok (.aload_n 0, 1) := by decide +kernel
theorem dX1_nameAt_1 : decode cX1_nameAt 1 = .ok (.getfield 9, 3) := by decide +kernel
theorem dX1_nameAt_4 : decode cX1_nameAt 4 = .ok (.getfield 138, 3) := by decide +kernel
theorem dX1_nameAt_7 : decode cX1_nameAt 7 = .ok (.getfield 141, 3) := by decide +kernel
theorem dX1_nameAt_10 : decode cX1_nameAt 10 = .ok (.astore 4, 2) := by decide +kernel
theorem dX1_nameAt_12 : decode cX1_nameAt 12 = .ok (.iconst 0, 1) := by decide +kernel
theorem dX1_nameAt_13 : decode cX1_nameAt 13 = .ok (.istore 5, 2) := by decide +kernel
theorem dX1_nameAt_15 : decode cX1_nameAt 15 = .ok (.iload 5, 2) := by decide +kernel
theorem dX1_nameAt_17 : decode cX1_nameAt 17 = .ok (.aload_n 1, 1) := by decide +kernel
theorem dX1_nameAt_18 : decode cX1_nameAt 18 = .ok (.getfield 115, 3) := by decide +kernel
theorem dX1_nameAt_21 : decode cX1_nameAt 21 = .ok (.if_icmp .ge 96, 3) := by decide +kernel
theorem dX1_nameAt_117 : decode cX1_nameAt 117 = .ok (.iconst (-1), 1) := by decide +kernel
theorem dX1_nameAt_118 : decode cX1_nameAt 118 = .ok (.ireturn, 1) := by decide +kernel
theorem dX1_nameAt_24 : decode cX1_nameAt 24 = .ok (.iconst 0, 1) := by decide +kernel
theorem dX1_nameAt_25 : decode cX1_nameAt 25 = .ok (.istore 6, 2) := by decide +kernel
theorem dX1_nameAt_27 : decode cX1_nameAt 27 = .ok (.iload 6, 2) := by decide +kernel
theorem dX1_nameAt_29 : decode cX1_nameAt 29 = .ok (.aload_n 1, 1) := by decide +kernel
theorem dX1_nameAt_30 : decode cX1_nameAt 30 = .ok (.getfield 134, 3) := by decide +kernel
theorem dX1_nameAt_33 : decode cX1_nameAt 33 = .ok (.iload 5, 2) := by decide +kernel
theorem dX1_nameAt_35 : decode cX1_nameAt 35 = .ok (.iaload, 1) := by decide +kernel
theorem dX1_nameAt_36 : decode cX1_nameAt 36 = .ok (.if_icmp .ge 40, 3) := by decide +kernel
theorem dX1_nameAt_76 : decode cX1_nameAt 76 = .ok (.iload 6, 2) := by decide +kernel
theorem dX1_nameAt_78 : decode cX1_nameAt 78 = .ok (.aload_n 1, 1) := by decide +kernel
theorem dX1_nameAt_79 : decode cX1_nameAt 79 = .ok (.getfield 134, 3) := by decide +kernel
theorem dX1_nameAt_82 : decode cX1_nameAt 82 = .ok (.iload 5, 2) := by decide +kernel
theorem dX1_nameAt_84 : decode cX1_nameAt 84 = .ok (.iaload, 1) := by decide +kernel
theorem dX1_nameAt_85 : decode cX1_nameAt 85 = .ok (.if_icmp .ne 26, 3) := by decide +kernel
theorem dX1_nameAt_111 : decode cX1_nameAt 111 = .ok (.iinc 5 1, 3) := by decide +kernel
theorem dX1_nameAt_114 : decode cX1_nameAt 114 = .ok (.goto (-99), 3) := by decide +kernel
theorem dX1_nameAt_88 : decode cX1_nameAt 88 = .ok (.iload_n 2, 1) := by decide +kernel
theorem dX1_nameAt_89 : decode cX1_nameAt 89 = .ok (.iload 6, 2) := by decide +kernel
theorem dX1_nameAt_91 : decode cX1_nameAt 91 = .ok (.iadd, 1) := by decide +kernel
theorem dX1_nameAt_92 : decode cX1_nameAt 92 = .ok (.iload_n 3, 1) := by decide +kernel
theorem dX1_nameAt_93 : decode cX1_nameAt 93 = .ok (.if_icmp .ge 18, 3) := by decide +kernel
theorem dX1_nameAt_96 : decode cX1_nameAt 96 = .ok (.aload 4, 2) := by decide +kernel
theorem dX1_nameAt_98 : decode cX1_nameAt 98 = .ok (.iload_n 2, 1) := by decide +kernel
theorem dX1_nameAt_99 : decode cX1_nameAt 99 = .ok (.iload 6, 2) := by decide +kernel
theorem dX1_nameAt_101 : decode cX1_nameAt 101 = .ok (.iadd, 1) := by decide +kernel
theorem dX1_nameAt_102 : decode cX1_nameAt 102 = .ok (.caload, 1) := by decide +kernel
theorem dX1_nameAt_103 : decode cX1_nameAt 103 = .ok (.bipush 62, 2) := by decide +kernel
theorem dX1_nameAt_105 : decode cX1_nameAt 105 = .ok (.if_icmp .ne 6, 3) := by decide +kernel
theorem dX1_nameAt_108 : decode cX1_nameAt 108 = .ok (.iload 5, 2) := by decide +kernel
theorem dX1_nameAt_110 : decode cX1_nameAt 110 = .ok (.ireturn, 1) := by decide +kernel
theorem dX1_nameAt_39 : decode cX1_nameAt 39 = .ok (.iload_n 2, 1) := by decide +kernel
theorem dX1_nameAt_40 : decode cX1_nameAt 40 = .ok (.iload 6, 2) := by decide +kernel
theorem dX1_nameAt_42 : decode cX1_nameAt 42 = .ok (.iadd, 1) := by decide +kernel
theorem dX1_nameAt_43 : decode cX1_nameAt 43 = .ok (.iload_n 3, 1) := by decide +kernel
theorem dX1_nameAt_44 : decode cX1_nameAt 44 = .ok (.if_icmp .ge 32, 3) := by decide +kernel
theorem dX1_nameAt_47 : decode cX1_nameAt 47 = .ok (.aload 4, 2) := by decide +kernel
theorem dX1_nameAt_49 : decode cX1_nameAt 49 = .ok (.aload_n 1, 1) := by decide +kernel
theorem dX1_nameAt_50 : decode cX1_nameAt 50 = .ok (.getfield 130, 3) := by decide +kernel
theorem dX1_nameAt_53 : decode cX1_nameAt 53 = .ok (.iload 5, 2) := by decide +kernel
theorem dX1_nameAt_55 : decode cX1_nameAt 55 = .ok (.iaload, 1) := by decide +kernel
theorem dX1_nameAt_56 : decode cX1_nameAt 56 = .ok (.iload 6, 2) := by decide +kernel
theorem dX1_nameAt_58 : decode cX1_nameAt 58 = .ok (.iadd, 1) := by decide +kernel
theorem dX1_nameAt_59 : decode cX1_nameAt 59 = .ok (.caload, 1) := by decide +kernel
theorem dX1_nameAt_60 : decode cX1_nameAt 60 = .ok (.aload 4, 2) := by decide +kernel
theorem dX1_nameAt_62 : decode cX1_nameAt 62 = .ok (.iload_n 2, 1) := by decide +kernel
theorem dX1_nameAt_63 : decode cX1_nameAt 63 = .ok (.iload 6, 2) := by decide +kernel
theorem dX1_nameAt_65 : decode cX1_nameAt 65 = .ok (.iadd, 1) := by decide +kernel
theorem dX1_nameAt_66 : decode cX1_nameAt 66 = .ok (.caload, 1) := by decide +kernel
theorem dX1_nameAt_67 : decode cX1_nameAt 67 = .ok (.if_icmp .ne 9, 3) := by decide +kernel
theorem dX1_nameAt_70 : decode cX1_nameAt 70 = .ok (.iinc 6 1, 3) := by decide +kernel
theorem dX1_nameAt_73 : decode cX1_nameAt 73 = .ok (.goto (-46), 3) := by decide +kernel
theorem dX1_fill_0 : decode cX1_fill 0 = .ok (.aload_n 2, 1) := by decide +kernel
theorem dX1_fill_1 : decode cX1_fill 1 = .ok (.getfield 83, 3) := by decide +kernel
theorem dX1_fill_4 : decode cX1_fill 4 = .ok (.ifnull 19, 3) := by decide +kernel
theorem dX1_fill_23 : decode cX1_fill 23 = .ok (.iconst 0, 1) := by decide +kernel
theorem dX1_fill_24 : decode cX1_fill 24 = .ok (.istore 6, 2) := by decide +kernel
theorem dX1_fill_26 : decode cX1_fill 26 = .ok (.iload 4, 2) := by decide +kernel
theorem dX1_fill_28 : decode cX1_fill 28 = .ok (.iload 5, 2) := by decide +kernel
theorem dX1_fill_30 : decode cX1_fill 30 = .ok (.iadd, 1) := by decide +kernel
theorem dX1_fill_31 : decode cX1_fill 31 = .ok (.istore 7, 2) := by decide +kernel
theorem dX1_fill_33 : decode cX1_fill 33 = .ok (.aload_n 1, 1) := by decide +kernel
theorem dX1_fill_34 : decode cX1_fill 34 = .ok (.iconst 0, 1) := by decide +kernel
theorem dX1_fill_35 : decode cX1_fill 35 = .ok (.putfield 137, 3) := by decide +kernel
theorem dX1_fill_38 : decode cX1_fill 38 = .ok (.iload 4, 2) := by decide +kernel
theorem dX1_fill_40 : decode cX1_fill 40 = .ok (.istore 8, 2) := by decide +kernel
theorem dX1_fill_42 : decode cX1_fill 42 = .ok (.iload 8, 2) := by decide +kernel
theorem dX1_fill_44 : decode cX1_fill 44 = .ok (.iload 7, 2) := by decide +kernel
theorem dX1_fill_46 : decode cX1_fill 46 = .ok (.if_icmp .ge 118, 3) := by decide +kernel
theorem dX1_fill_164 : decode cX1_fill 164 = .ok (.return_, 1) := by decide +kernel
theorem dX1_fill_49 : decode cX1_fill 49 = .ok (.aload_n 0, 1) := by decide +kernel
theorem dX1_fill_50 : decode cX1_fill 50 = .ok (.getfield 9, 3) := by decide +kernel
theorem dX1_fill_53 : decode cX1_fill 53 = .ok (.getfield 138, 3) := by decide +kernel
theorem dX1_fill_56 : decode cX1_fill 56 = .ok (.getfield 141, 3) := by decide +kernel
theorem dX1_fill_59 : decode cX1_fill 59 = .ok (.iload 8, 2) := by decide +kernel
theorem dX1_fill_61 : decode cX1_fill 61 = .ok (.caload, 1) := by decide +kernel
theorem dX1_fill_62 : decode cX1_fill 62 = .ok (.istore 9, 2) := by decide +kernel
theorem dX1_fill_64 : decode cX1_fill 64 = .ok (.iload 6, 2) := by decide +kernel
theorem dX1_fill_66 : decode cX1_fill 66 = .ok (.ifCond .eq 27, 3) := by decide +kernel
theorem dX1_fill_93 : decode cX1_fill 93 = .ok (.iconst (-1), 1) := by decide +kernel
theorem dX1_fill_94 : decode cX1_fill 94 = .ok (.istore 10, 2) := by decide +kernel
theorem dX1_fill_96 : decode cX1_fill 96 = .ok (.iload 10, 2) := by decide +kernel
theorem dX1_fill_98 : decode cX1_fill 98 = .ok (.ifCond .ge 15, 3) := by decide +kernel
theorem dX1_fill_101 : decode cX1_fill 101 = .ok (.aload_n 1, 1) := by decide +kernel
theorem dX1_fill_102 : decode cX1_fill 102 = .ok (.iload 9, 2) := by decide +kernel
theorem dX1_fill_104 : decode cX1_fill 104 = .ok (.invokevirtual 149, 3) := by decide +kernel
theorem dX1_fill_107 : decode cX1_fill 107 = .ok (.iinc 8 1, 3) := by decide +kernel
theorem dX1_fill_110 : decode cX1_fill 110 = .ok (.goto 51, 3) := by decide +kernel
theorem dX1_fill_161 : decode cX1_fill 161 = .ok (.goto (-119), 3) := by decide +kernel
theorem dX1_fill_7 : decode cX1_fill 7 = .ok (.iload_n 3, 1) := by decide +kernel
theorem dX1_fill_8 : decode cX1_fill 8 = .ok (.aload_n 0, 1) := by decide +kernel
theorem dX1_fill_9 : decode cX1_fill 9 = .ok (.aload_n 2, 1) := by decide +kernel
theorem dX1_fill_10 : decode cX1_fill 10 = .ok (.getfield 79, 3) := by decide +kernel
theorem dX1_fill_13 : decode cX1_fill 13 = .ok (.invokevirtual 100, 3) := by decide +kernel
theorem dX1_fill_16 : decode cX1_fill 16 = .ok (.if_icmp .lt 7, 3) := by decide +kernel
theorem dX1_fill_19 : decode cX1_fill 19 = .ok (.iconst 1, 1) := by decide +kernel
theorem dX1_fill_20 : decode cX1_fill 20 = .ok (.goto 4, 3) := by decide +kernel
theorem dX1_fill_69 : decode cX1_fill 69 = .ok (.iload 9, 2) := by decide +kernel
theorem dX1_fill_71 : decode cX1_fill 71 = .ok (.bipush 60, 2) := by decide +kernel
theorem dX1_fill_73 : decode cX1_fill 73 = .ok (.if_icmp .ne 20, 3) := by decide +kernel
theorem dX1_fill_76 : decode cX1_fill 76 = .ok (.aload_n 0, 1) := by decide +kernel
theorem dX1_fill_77 : decode cX1_fill 77 = .ok (.aload_n 2, 1) := by decide +kernel
theorem dX1_fill_78 : decode cX1_fill 78 = .ok (.getfield 83, 3) := by decide +kernel
theorem dX1_fill_81 : decode cX1_fill 81 = .ok (.iload 8, 2) := by decide +kernel
theorem dX1_fill_83 : decode cX1_fill 83 = .ok (.iconst 1, 1) := by decide +kernel
theorem dX1_fill_84 : decode cX1_fill 84 = .ok (.iadd, 1) := by decide +kernel
theorem dX1_fill_85 : decode cX1_fill 85 = .ok (.iload 7, 2) := by decide +kernel
theorem dX1_fill_87 : decode cX1_fill 87 = .ok (.invokevirtual 145, 3) := by decide +kernel
theorem dX1_fill_90 : decode cX1_fill 90 = .ok (.goto 4, 3) := by decide +kernel
theorem dX1_fill_113 : decode cX1_fill 113 = .ok (.aload_n 1, 1) := by decide +kernel
theorem dX1_fill_114 : decode cX1_fill 114 = .ok (.aload_n 0, 1) := by decide +kernel
theorem dX1_fill_115 : decode cX1_fill 115 = .ok (.getfield 9, 3) := by decide +kernel
theorem dX1_fill_118 : decode cX1_fill 118 = .ok (.getfield 138, 3) := by decide +kernel
theorem dX1_fill_121 : decode cX1_fill 121 = .ok (.aload_n 2, 1) := by decide +kernel
theorem dX1_fill_122 : decode cX1_fill 122 = .ok (.getfield 87, 3) := by decide +kernel
theorem dX1_fill_125 : decode cX1_fill 125 = .ok (.getfield 130, 3) := by decide +kernel
theorem dX1_fill_128 : decode cX1_fill 128 = .ok (.iload 10, 2) := by decide +kernel
theorem dX1_fill_130 : decode cX1_fill 130 = .ok (.iaload, 1) := by decide +kernel
theorem dX1_fill_131 : decode cX1_fill 131 = .ok (.aload_n 2, 1) := by decide +kernel
theorem dX1_fill_132 : decode cX1_fill 132 = .ok (.getfield 87, 3) := by decide +kernel
theorem dX1_fill_135 : decode cX1_fill 135 = .ok (.getfield 134, 3) := by decide +kernel
theorem dX1_fill_138 : decode cX1_fill 138 = .ok (.iload 10, 2) := by decide +kernel
theorem dX1_fill_140 : decode cX1_fill 140 = .ok (.iaload, 1) := by decide +kernel
theorem dX1_fill_141 : decode cX1_fill 141 = .ok (.invokevirtual 152, 3) := by decide +kernel
theorem dX1_fill_144 : decode cX1_fill 144 = .ok (.iload 8, 2) := by decide +kernel
theorem dX1_fill_146 : decode cX1_fill 146 = .ok (.aload_n 2, 1) := by decide +kernel
theorem dX1_fill_147 : decode cX1_fill 147 = .ok (.getfield 83, 3) := by decide +kernel
theorem dX1_fill_150 : decode cX1_fill 150 = .ok (.getfield 134, 3) := by decide +kernel
theorem dX1_fill_153 : decode cX1_fill 153 = .ok (.iload 10, 2) := by decide +kernel
theorem dX1_fill_155 : decode cX1_fill 155 = .ok (.iaload, 1) := by decide +kernel
theorem dX1_fill_156 : decode cX1_fill 156 = .ok (.iconst 2, 1) := by decide +kernel
theorem dX1_fill_157 : decode cX1_fill 157 = .ok (.iadd, 1) := by decide +kernel
theorem dX1_fill_158 : decode cX1_fill 158 = .ok (.iadd, 1) := by decide +kernel
theorem dX1_fill_159 : decode cX1_fill 159 = .ok (.istore 8, 2) := by decide +kernel
theorem dX1_fillStep_0 : decode cX1_fillStep 0 = .ok (.aload_n 0, 1) := by decide +kernel
theorem dX1_fillStep_1 : decode cX1_fillStep 1 = .ok (.aload_n 1, 1) := by decide +kernel
theorem dX1_fillStep_2 : decode cX1_fillStep 2 = .ok (.iload_n 2, 1) := by decide +kernel
theorem dX1_fillStep_3 : decode cX1_fillStep 3 = .ok (.invokevirtual 111, 3) := by decide +kernel
theorem dX1_fillStep_6 : decode cX1_fillStep 6 = .ok (.astore_n 3, 1) := by decide +kernel
theorem dX1_fillStep_7 : decode cX1_fillStep 7 = .ok (.aload_n 0, 1) := by decide +kernel
theorem dX1_fillStep_8 : decode cX1_fillStep 8 = .ok (.aload_n 0, 1) := by decide +kernel
theorem dX1_fillStep_9 : decode cX1_fillStep 9 = .ok (.getfield 20, 3) := by decide +kernel
theorem dX1_fillStep_12 : decode cX1_fillStep 12 = .ok (.aload_n 1, 1) := by decide +kernel
theorem dX1_fillStep_13 : decode cX1_fillStep 13 = .ok (.iload_n 2, 1) := by decide +kernel
theorem dX1_fillStep_14 : decode cX1_fillStep 14 = .ok (.aload_n 3, 1) := by decide +kernel
theorem dX1_fillStep_15 : decode cX1_fillStep 15 = .ok (.getfield 120, 3) := by decide +kernel
theorem dX1_fillStep_18 : decode cX1_fillStep 18 = .ok (.aload_n 3, 1) := by decide +kernel
theorem dX1_fillStep_19 : decode cX1_fillStep 19 = .ok (.getfield 123, 3) := by decide +kernel
theorem dX1_fillStep_22 : decode cX1_fillStep 22 = .ok (.invokevirtual 126, 3) := by decide +kernel
theorem dX1_fillStep_25 : decode cX1_fillStep 25 = .ok (.return_, 1) := by decide +kernel
theorem dX1_hasCell_0 : decode cX1_hasCell 0 = .ok (.aload_n 0, 1) := by decide +kernel
theorem dX1_hasCell_1 : decode cX1_hasCell 1 = .ok (.aload_n 1, 1) := by decide +kernel
theorem dX1_hasCell_2 : decode cX1_hasCell 2 = .ok (.iload_n 2, 1) := by decide +kernel
theorem dX1_hasCell_3 : decode cX1_hasCell 3 = .ok (.invokevirtual 111, 3) := by decide +kernel
theorem dX1_hasCell_6 : decode cX1_hasCell 6 = .ok (.astore 5, 2) := by decide +kernel
theorem dX1_hasCell_8 : decode cX1_hasCell 8 = .ok (.iload_n 3, 1) := by decide +kernel
theorem dX1_hasCell_9 : decode cX1_hasCell 9 = .ok (.ifCond .lt 44, 3) := by decide +kernel
theorem dX1_hasCell_53 : decode cX1_hasCell 53 = .ok (.iconst 0, 1) := by decide +kernel
theorem dX1_hasCell_54 : decode cX1_hasCell 54 = .ok (.ireturn, 1) := by decide +kernel
theorem dX1_hasCell_12 : decode cX1_hasCell 12 = .ok (.iload_n 3, 1) := by decide +kernel
theorem dX1_hasCell_13 : decode cX1_hasCell 13 = .ok (.aload 5, 2) := by decide +kernel
theorem dX1_hasCell_15 : decode cX1_hasCell 15 = .ok (.getfield 68, 3) := by decide +kernel
theorem dX1_hasCell_18 : decode cX1_hasCell 18 = .ok (.if_icmp .ge 35, 3) := by decide +kernel
theorem dX1_hasCell_21 : decode cX1_hasCell 21 = .ok (.iload 4, 2) := by decide +kernel
theorem dX1_hasCell_23 : decode cX1_hasCell 23 = .ok (.ifCond .lt 30, 3) := by decide +kernel
theorem dX1_hasCell_26 : decode cX1_hasCell 26 = .ok (.iload 4, 2) := by decide +kernel
theorem dX1_hasCell_28 : decode cX1_hasCell 28 = .ok (.aload_n 0, 1) := by decide +kernel
theorem dX1_hasCell_29 : decode cX1_hasCell 29 = .ok (.getfield 9, 3) := by decide +kernel
theorem dX1_hasCell_32 : decode cX1_hasCell 32 = .ok (.getfield 72, 3) := by decide +kernel
theorem dX1_hasCell_35 : decode cX1_hasCell 35 = .ok (.aload 5, 2) := by decide +kernel
theorem dX1_hasCell_37 : decode cX1_hasCell 37 = .ok (.getfield 76, 3) := by decide +kernel
theorem dX1_hasCell_40 : decode cX1_hasCell 40 = .ok (.iload_n 3, 1) := by decide +kernel
theorem dX1_hasCell_41 : decode cX1_hasCell 41 = .ok (.iadd, 1) := by decide +kernel
theorem dX1_hasCell_42 : decode cX1_hasCell 42 = .ok (.aaload, 1) := by decide +kernel
theorem dX1_hasCell_43 : decode cX1_hasCell 43 = .ok (.getfield 115, 3) := by decide +kernel
theorem dX1_hasCell_46 : decode cX1_hasCell 46 = .ok (.if_icmp .ge 7, 3) := by decide +kernel
theorem dX1_hasCell_49 : decode cX1_hasCell 49 = .ok (.iconst 1, 1) := by decide +kernel
theorem dX1_hasCell_50 : decode cX1_hasCell 50 = .ok (.goto 4, 3) := by decide +kernel
theorem dX1_fillCell_0 : decode cX1_fillCell 0 = .ok (.aload_n 0, 1) := by decide +kernel
theorem dX1_fillCell_1 : decode cX1_fillCell 1 = .ok (.getfield 9, 3) := by decide +kernel
theorem dX1_fillCell_4 : decode cX1_fillCell 4 = .ok (.getfield 72, 3) := by decide +kernel
theorem dX1_fillCell_7 : decode cX1_fillCell 7 = .ok (.aload_n 0, 1) := by decide +kernel
theorem dX1_fillCell_8 : decode cX1_fillCell 8 = .ok (.aload_n 1, 1) := by decide +kernel
theorem dX1_fillCell_9 : decode cX1_fillCell 9 = .ok (.iload_n 2, 1) := by decide +kernel
theorem dX1_fillCell_10 : decode cX1_fillCell 10 = .ok (.invokevirtual 111, 3) := by decide +kernel
theorem dX1_fillCell_13 : decode cX1_fillCell 13 = .ok (.getfield 76, 3) := by decide +kernel
theorem dX1_fillCell_16 : decode cX1_fillCell 16 = .ok (.iload_n 3, 1) := by decide +kernel
theorem dX1_fillCell_17 : decode cX1_fillCell 17 = .ok (.iadd, 1) := by decide +kernel
theorem dX1_fillCell_18 : decode cX1_fillCell 18 = .ok (.aaload, 1) := by decide +kernel
theorem dX1_fillCell_19 : decode cX1_fillCell 19 = .ok (.astore 5, 2) := by decide +kernel
theorem dX1_fillCell_21 : decode cX1_fillCell 21 = .ok (.aload_n 0, 1) := by decide +kernel
theorem dX1_fillCell_22 : decode cX1_fillCell 22 = .ok (.aload_n 0, 1) := by decide +kernel
theorem dX1_fillCell_23 : decode cX1_fillCell 23 = .ok (.getfield 24, 3) := by decide +kernel
theorem dX1_fillCell_26 : decode cX1_fillCell 26 = .ok (.aload_n 1, 1) := by decide +kernel
theorem dX1_fillCell_27 : decode cX1_fillCell 27 = .ok (.iload_n 2, 1) := by decide +kernel
theorem dX1_fillCell_28 : decode cX1_fillCell 28 = .ok (.aload 5, 2) := by decide +kernel
theorem dX1_fillCell_30 : decode cX1_fillCell 30 = .ok (.getfield 130, 3) := by decide +kernel
theorem dX1_fillCell_33 : decode cX1_fillCell 33 = .ok (.iload 4, 2) := by decide +kernel
theorem dX1_fillCell_35 : decode cX1_fillCell 35 = .ok (.iaload, 1) := by decide +kernel
theorem dX1_fillCell_36 : decode cX1_fillCell 36 = .ok (.aload 5, 2) := by decide +kernel
theorem dX1_fillCell_38 : decode cX1_fillCell 38 = .ok (.getfield 134, 3) := by decide +kernel
theorem dX1_fillCell_41 : decode cX1_fillCell 41 = .ok (.iload 4, 2) := by decide +kernel
theorem dX1_fillCell_43 : decode cX1_fillCell 43 = .ok (.iaload, 1) := by decide +kernel
theorem dX1_fillCell_44 : decode cX1_fillCell 44 = .ok (.invokevirtual 126, 3) := by decide +kernel
theorem dX1_fillCell_47 : decode cX1_fillCell 47 = .ok (.return_, 1) := by decide +kernel
theorem gw_X3_add : wsX3_add.all goodWord = true := by decide +kernel
theorem gX1_fill_X3_add : GoodIn wsX1_fill (wsV RX1 149 RX3 yX3_add wsX3_add) := goodIn_app (goodIn_sub (List.forall_mem_cons.mpr ⟨(List.mem_cons_of_mem _ (List.mem_append_left _ (List.mem_append_left _ (List.mem_append_left _ (List.mem_append_left _ (List.mem_append_left _ (List.mem_append_left _ (List.mem_append_left _ lm22)))))))), List.forall_mem_cons.mpr ⟨(List.mem_cons_of_mem _ (List.mem_append_left _ (List.mem_append_left _ (List.mem_append_left _ (List.mem_append_left _ (List.mem_append_left _ (List.mem_append_left _ (List.mem_append_left _ lm23)))))))), List.forall_mem_cons.mpr ⟨(List.mem_cons_of_mem _ (List.mem_append_left _ (List.mem_append_left _ (List.mem_append_left _ (List.mem_append_left _ (List.mem_append_left _ (List.mem_append_left _ (List.mem_append_right _ lm0)))))))), List.forall_mem_cons.mpr ⟨(List.mem_cons_of_mem _ (List.mem_append_left _ (List.mem_append_left _ (List.mem_append_left _ (List.mem_append_left _ (List.mem_append_left _ (List.mem_append_left _ (List.mem_append_right _ lm1)))))))), (fun _ h => absurd h List.not_mem_nil)⟩⟩⟩⟩) (by decide +kernel)) (goodIn_sub (by unfold wsX3_add; exact List.forall_mem_cons.mpr ⟨(List.mem_cons_of_mem _ (List.mem_append_left _ (List.mem_append_left _ (List.mem_append_left _ (List.mem_append_left _ (List.mem_append_left _ (List.mem_append_left _ (List.mem_append_right _ lm2)))))))), List.forall_mem_append.mpr ⟨List.forall_mem_cons.mpr ⟨(List.mem_cons_of_mem _ (List.mem_append_left _ (List.mem_append_left _ (List.mem_append_left _ (List.mem_append_left _ (List.mem_append_left _ (List.mem_append_left _ (List.mem_append_right _ lm3)))))))), List.forall_mem_cons.mpr ⟨(List.mem_cons_of_mem _ (List.mem_append_left _ (List.mem_append_left _ (List.mem_append_left _ (List.mem_append_left _ (List.mem_append_left _ (List.mem_append_left _ (List.mem_append_right _ lm4)))))))), (fun _ h => absurd h List.not_mem_nil)⟩⟩, (fun _ h => (List.mem_cons_of_mem _ (List.mem_append_left _ (List.mem_append_left _ (List.mem_append_left _ (List.mem_append_left _ (List.mem_append_right _ h)))))))⟩⟩) gw_X3_add)
theorem gX1_fill_X1_backgroundCount : GoodIn wsX1_fill (wsV RX1 100 RX1 yX1_backgroundCount wsX1_backgroundCount) := goodIn_app (goodIn_sub (List.forall_mem_cons.mpr ⟨(List.mem_cons_of_mem _ (List.mem_append_left _ (List.mem_append_left _ (List.mem_append_left _ (List.mem_append_left _ (List.mem_append_left _ (List.mem_append_left _ (List.mem_append_left _ lm9)))))))), List.forall_mem_cons.mpr ⟨(List.mem_cons_of_mem _ (List.mem_append_left _ (List.mem_append_left _ (List.mem_append_left _ (List.mem_append_left _ (List.mem_append_left _ (List.mem_append_left _ (List.mem_append_left _ lm10)))))))), List.forall_mem_cons.mpr ⟨(List.mem_cons_of_mem _ (List.mem_append_left _ (List.mem_append_left _ (List.mem_append_left _ (List.mem_append_left _ (List.mem_append_left _ (List.mem_append_left _ (List.mem_append_left _ lm11)))))))), List.forall_mem_cons.mpr ⟨(List.mem_cons_of_mem _ (List.mem_append_left _ (List.mem_append_left _ (List.mem_append_left _ (List.mem_append_left _ (List.mem_append_left _ (List.mem_append_left _ (List.mem_append_left _ lm12)))))))), (fun _ h => absurd h List.not_mem_nil)⟩⟩⟩⟩) (by decide +kernel)) (goodIn_sub (by unfold wsX1_backgroundCount; exact List.forall_mem_cons.mpr ⟨(List.mem_cons_of_mem _ (List.mem_append_left _ (List.mem_append_left _ (List.mem_append_left _ (List.mem_append_left _ (List.mem_append_left _ (List.mem_append_left _ (List.mem_append_left _ lm13)))))))), List.forall_mem_append.mpr ⟨List.forall_mem_append.mpr ⟨List.forall_mem_append.mpr ⟨List.forall_mem_cons.mpr ⟨(List.mem_cons_of_mem _ (List.mem_append_left _ (List.mem_append_left _ (List.mem_append_left _ (List.mem_append_left _ (List.mem_append_left _ (List.mem_append_left _ (List.mem_append_left _ lm3)))))))), List.forall_mem_cons.mpr ⟨(List.mem_cons_of_mem _ (List.mem_append_left _ (List.mem_append_left _ (List.mem_append_left _ (List.mem_append_left _ (List.mem_append_left _ (List.mem_append_left _ (List.mem_append_left _ lm14)))))))), List.forall_mem_cons.mpr ⟨(List.mem_cons_of_mem _ (List.mem_append_left _ (List.mem_append_left _ (List.mem_append_left _ (List.mem_append_left _ (List.mem_append_left _ (List.mem_append_left _ (List.mem_append_left _ lm15)))))))), List.forall_mem_cons.mpr ⟨(List.mem_cons_of_mem _ (List.mem_append_left _ (List.mem_append_left _ (List.mem_append_left _ (List.mem_append_left _ (List.mem_append_left _ (List.mem_append_left _ (List.mem_append_left _ lm16)))))))), (fun _ h => absurd h List.not_mem_nil)⟩⟩⟩⟩, (fun _ h => (List.mem_cons_of_mem _ (List.mem_append_left _ (List.mem_append_left _ (List.mem_append_left _ (List.mem_append_right _ h))))))⟩, (fun _ h => (List.mem_cons_of_mem _ (List.mem_append_left _ (List.mem_append_left _ (List.mem_append_right _ h)))))⟩, (fun _ h => (List.mem_cons_of_mem _ (List.mem_append_right _ h)))⟩⟩) gw_X1_backgroundCount)
theorem gw_X1_nameAt : wsX1_nameAt.all goodWord = true := by decide +kernel
theorem gX1_fill_X1_nameAt : GoodIn wsX1_fill (wsV RX1 145 RX1 yX1_nameAt wsX1_nameAt) := goodIn_app (goodIn_sub (List.forall_mem_cons.mpr ⟨(List.mem_cons_of_mem _ (List.mem_append_left _ (List.mem_append_left _ (List.mem_append_left _ (List.mem_append_left _ (List.mem_append_left _ (List.mem_append_left _ (List.mem_append_left _ lm17)))))))), List.forall_mem_cons.mpr ⟨(List.mem_cons_of_mem _ (List.mem_append_left _ (List.mem_append_left _ (List.mem_append_left _ (List.mem_append_left _ (List.mem_append_left _ (List.mem_append_left _ (List.mem_append_left _ lm18)))))))), List.forall_mem_cons.mpr ⟨(List.mem_cons_of_mem _ (List.mem_append_left _ (List.mem_append_left _ (List.mem_append_left _ (List.mem_append_left _ (List.mem_append_left _ (List.mem_append_left _ (List.mem_append_left _ lm19)))))))), List.forall_mem_cons.mpr ⟨(List.mem_cons_of_mem _ (List.mem_append_left _ (List.mem_append_left _ (List.mem_append_left _ (List.mem_append_left _ (List.mem_append_left _ (List.mem_append_left _ (List.mem_append_left _ lm12)))))))), (fun _ h => absurd h List.not_mem_nil)⟩⟩⟩⟩) (by decide +kernel)) (goodIn_sub (by unfold wsX1_nameAt; exact List.forall_mem_cons.mpr ⟨(List.mem_cons_of_mem _ (List.mem_append_left _ (List.mem_append_left _ (List.mem_append_left _ (List.mem_append_left _ (List.mem_append_left _ (List.mem_append_left _ (List.mem_append_left _ lm20)))))))), List.forall_mem_append.mpr ⟨List.forall_mem_append.mpr ⟨List.forall_mem_append.mpr ⟨List.forall_mem_append.mpr ⟨List.forall_mem_cons.mpr ⟨(List.mem_cons_of_mem _ (List.mem_append_left _ (List.mem_append_left _ (List.mem_append_left _ (List.mem_append_left _ (List.mem_append_left _ (List.mem_append_left _ (List.mem_append_left _ lm3)))))))), List.forall_mem_cons.mpr ⟨(List.mem_cons_of_mem _ (List.mem_append_left _ (List.mem_append_left _ (List.mem_append_left _ (List.mem_append_left _ (List.mem_append_left _ (List.mem_append_left _ (List.mem_append_left _ lm4)))))))), List.forall_mem_cons.mpr ⟨(List.mem_cons_of_mem _ (List.mem_append_left _ (List.mem_append_left _ (List.mem_append_left _ (List.mem_append_left _ (List.mem_append_left _ (List.mem_append_left _ (List.mem_append_left _ lm5)))))))), List.forall_mem_cons.mpr ⟨(List.mem_cons_of_mem _ (List.mem_append_left _ (List.mem_append_left _ (List.mem_append_left _ (List.mem_append_left _ (List.mem_append_left _ (List.mem_append_left _ (List.mem_append_left _ lm21)))))))), List.forall_mem_cons.mpr ⟨(List.mem_cons_of_mem _ (List.mem_append_left _ (List.mem_append_left _ (List.mem_append_left _ (List.mem_append_left _ (List.mem_append_left _ (List.mem_append_left _ (List.mem_append_left _ lm8)))))))), List.forall_mem_cons.mpr ⟨(List.mem_cons_of_mem _ (List.mem_append_left _ (List.mem_append_left _ (List.mem_append_left _ (List.mem_append_left _ (List.mem_append_left _ (List.mem_append_left _ (List.mem_append_left _ lm7)))))))), (fun _ h => absurd h List.not_mem_nil)⟩⟩⟩⟩⟩⟩, (fun _ h => (List.mem_cons_of_mem _ (List.mem_append_left _ (List.mem_append_left _ (List.mem_append_left _ (List.mem_append_right _ h))))))⟩, (fun _ h => (List.mem_cons_of_mem _ (List.mem_append_left _ (List.mem_append_left _ (List.mem_append_right _ h)))))⟩, (fun _ h => (List.mem_cons_of_mem _ (List.mem_append_left _ (List.mem_append_left _ (List.mem_append_left _ (List.mem_append_left _ (List.mem_append_right _ h)))))))⟩, (fun _ h => (List.mem_cons_of_mem _ (List.mem_append_left _ (List.mem_append_right _ h))))⟩⟩) gw_X1_nameAt)
theorem gw_X3_addPart : wsX3_addPart.all goodWord = true := by decide +kernel
theorem gX1_fill_X3_addPart : GoodIn wsX1_fill (wsV RX1 152 RX3 yX3_addPart wsX3_addPart) := goodIn_app (goodIn_sub (List.forall_mem_cons.mpr ⟨(List.mem_cons_of_mem _ (List.mem_append_left _ (List.mem_append_left _ (List.mem_append_left _ (List.mem_append_left _ (List.mem_append_left _ (List.mem_append_left _ (List.mem_append_right _ lm5)))))))), List.forall_mem_cons.mpr ⟨(List.mem_cons_of_mem _ (List.mem_append_left _ (List.mem_append_left _ (List.mem_append_left _ (List.mem_append_left _ (List.mem_append_left _ (List.mem_append_left _ (List.mem_append_right _ lm6)))))))), List.forall_mem_cons.mpr ⟨(List.mem_cons_of_mem _ (List.mem_append_left _ (List.mem_append_left _ (List.mem_append_left _ (List.mem_append_left _ (List.mem_append_left _ (List.mem_append_left _ (List.mem_append_right _ lm7)))))))), List.forall_mem_cons.mpr ⟨(List.mem_cons_of_mem _ (List.mem_append_left _ (List.mem_append_left _ (List.mem_append_left _ (List.mem_append_left _ (List.mem_append_left _ (List.mem_append_left _ (List.mem_append_right _ lm1)))))))), (fun _ h => absurd h List.not_mem_nil)⟩⟩⟩⟩) (by decide +kernel)) (goodIn_sub (by unfold wsX3_addPart; exact List.forall_mem_cons.mpr ⟨(List.mem_cons_of_mem _ (List.mem_append_left _ (List.mem_append_left _ (List.mem_append_left _ (List.mem_append_left _ (List.mem_append_left _ (List.mem_append_left _ (List.mem_append_right _ lm8)))))))), List.forall_mem_append.mpr ⟨List.forall_mem_cons.mpr ⟨(List.mem_cons_of_mem _ (List.mem_append_left _ (List.mem_append_left _ (List.mem_append_left _ (List.mem_append_left _ (List.mem_append_left _ (List.mem_append_left _ (List.mem_append_right _ lm3)))))))), List.forall_mem_cons.mpr ⟨(List.mem_cons_of_mem _ (List.mem_append_left _ (List.mem_append_left _ (List.mem_append_left _ (List.mem_append_left _ (List.mem_append_left _ (List.mem_append_left _ (List.mem_append_right _ lm4)))))))), (fun _ h => absurd h List.not_mem_nil)⟩⟩, (fun _ h => (List.mem_cons_of_mem _ (List.mem_append_left _ (List.mem_append_left _ (List.mem_append_left _ (List.mem_append_left _ (List.mem_append_right _ h)))))))⟩⟩) gw_X3_addPart)
theorem gw_X1_stepOf : wsX1_stepOf.all goodWord = true := by decide +kernel
theorem gX1_fillStep_X1_stepOf : GoodIn wsX1_fillStep (wsV RX1 111 RX1 yX1_stepOf wsX1_stepOf) := goodIn_app (goodIn_sub (List.forall_mem_cons.mpr ⟨(List.mem_cons_of_mem _ (List.mem_append_left _ (List.mem_append_left _ (List.mem_append_left _ (List.mem_append_left _ (List.mem_append_left _ (List.mem_append_left _ (List.mem_append_left _ lm3)))))))), List.forall_mem_cons.mpr ⟨(List.mem_cons_of_mem _ (List.mem_append_left _ (List.mem_append_left _ (List.mem_append_left _ (List.mem_append_left _ (List.mem_append_left _ (List.mem_append_left _ (List.mem_append_left _ lm4)))))))), List.forall_mem_cons.mpr ⟨(List.mem_cons_of_mem _ (List.mem_append_left _ (List.mem_append_left _ (List.mem_append_left _ (List.mem_append_left _ (List.mem_append_left _ (List.mem_append_left _ (List.mem_append_left _ lm5)))))))), List.forall_mem_cons.mpr ⟨(List.mem_cons_of_mem _ (List.mem_append_left _ (List.mem_append_left _ (List.mem_append_left _ (List.mem_append_left _ (List.mem_append_left _ (List.mem_append_left _ (List.mem_append_left _ lm6)))))))), (fun _ h => absurd h List.not_mem_nil)⟩⟩⟩⟩) (by decide +kernel)) (goodIn_sub (by unfold wsX1_stepOf; exact List.forall_mem_cons.mpr ⟨(List.mem_cons_of_mem _ (List.mem_append_left _ (List.mem_append_left _ (List.mem_append_left _ (List.mem_append_left _ (List.mem_append_left _ (List.mem_append_left _ (List.mem_append_left _ lm7)))))))), List.forall_mem_append.mpr ⟨List.forall_mem_append.mpr ⟨List.forall_mem_append.mpr ⟨List.forall_mem_append.mpr ⟨List.forall_mem_cons.mpr ⟨(List.mem_cons_of_mem _ (List.mem_append_left _ (List.mem_append_left _ (List.mem_append_left _ (List.mem_append_left _ (List.mem_append_left _ (List.mem_append_left _ (List.mem_append_left _ lm8)))))))), List.forall_mem_cons.mpr ⟨(List.mem_cons_of_mem _ (List.mem_append_left _ (List.mem_append_left _ (List.mem_append_left _ (List.mem_append_left _ (List.mem_append_left _ (List.mem_append_left _ (List.mem_append_left _ lm9)))))))), List.forall_mem_cons.mpr ⟨(List.mem_cons_of_mem _ (List.mem_append_left _ (List.mem_append_left _ (List.mem_append_left _ (List.mem_append_left _ (List.mem_append_left _ (List.mem_append_left _ (List.mem_append_left _ lm10)))))))), List.forall_mem_cons.mpr ⟨(List.mem_cons_of_mem _ (List.mem_append_left _ (List.mem_append_left _ (List.mem_append_left _ (List.mem_append_left _ (List.mem_append_left _ (List.mem_append_left _ (List.mem_append_left _ lm11)))))))), List.forall_mem_cons.mpr ⟨(List.mem_cons_of_mem _ (List.mem_append_left _ (List.mem_append_left _ (List.mem_append_left _ (List.mem_append_left _ (List.mem_append_left _ (List.mem_append_left _ (List.mem_append_left _ lm12)))))))), List.forall_mem_cons.mpr ⟨(List.mem_cons_of_mem _ (List.mem_append_left _ (List.mem_append_left _ (List.mem_append_left _ (List.mem_append_left _ (List.mem_append_left _ (List.mem_append_left _ (List.mem_append_left _ lm13)))))))), List.forall_mem_cons.mpr ⟨(List.mem_cons_of_mem _ (List.mem_append_left _ (List.mem_append_left _ (List.mem_append_left _ (List.mem_append_left _ (List.mem_append_left _ (List.mem_append_left _ (List.mem_append_left _ lm14)))))))), List.forall_mem_cons.mpr ⟨(List.mem_cons_of_mem _ (List.mem_append_left _ (List.mem_append_left _ (List.mem_append_left _ (List.mem_append_left _ (List.mem_append_left _ (List.mem_append_left _ (List.mem_append_left _ lm15)))))))), List.forall_mem_cons.mpr ⟨(List.mem_cons_of_mem _ (List.mem_append_left _ (List.mem_append_left _ (List.mem_append_left _ (List.mem_append_left _ (List.mem_append_left _ (List.mem_append_left _ (List.mem_append_left _ lm16)))))))), List.forall_mem_cons.mpr ⟨(List.mem_cons_of_mem _ (List.mem_append_left _ (List.mem_append_left _ (List.mem_append_left _ (List.mem_append_left _ (List.mem_append_left _ (List.mem_append_left _ (List.mem_append_left _ lm17)))))))), List.forall_mem_cons.mpr ⟨(List.mem_cons_of_mem _ (List.mem_append_left _ (List.mem_append_left _ (List.mem_append_left _ (List.mem_append_left _ (List.mem_append_left _ (List.mem_append_left _ (List.mem_append_left _ lm6)))))))), List.forall_mem_cons.mpr ⟨(List.mem_cons_of_mem _ (List.mem_append_left _ (List.mem_append_left _ (List.mem_append_left _ (List.mem_append_left _ (List.mem_append_left _ (List.mem_append_left _ (List.mem_append_left _ lm18)))))))), (fun _ h => absurd h List.not_mem_nil)⟩⟩⟩⟩⟩⟩⟩⟩⟩⟩⟩⟩, (fun _ h => (List.mem_cons_of_mem _ (List.mem_append_left _ (List.mem_append_left _ (List.mem_append_left _ (List.mem_append_left _ (List.mem_append_left _ (List.mem_append_right _ h))))))))⟩, (fun _ h => (List.mem_cons_of_mem _ (List.mem_append_left _ (List.mem_append_left _ (List.mem_append_left _ (List.mem_append_right _ h))))))⟩, (fun _ h => (List.mem_cons_of_mem _ (List.mem_append_left _ (List.mem_append_left _ (List.mem_append_left _ (List.mem_append_left _ (List.mem_append_right _ h)))))))⟩, (fun _ h => (List.mem_cons_of_mem _ (List.mem_append_left _ (List.mem_append_left _ (List.mem_append_right _ h)))))⟩⟩) gw_X1_stepOf)
theorem gw_X1_fill : wsX1_fill.all goodWord = true := by decide +kernel
theorem gX1_fillStep_X1_fill : GoodIn wsX1_fillStep (wsV RX1 126 RX1 yX1_fill wsX1_fill) := goodIn_app (goodIn_sub (List.forall_mem_cons.mpr ⟨(List.mem_cons_of_mem _ (List.mem_append_left _ (List.mem_append_left _ (List.mem_append_left _ (List.mem_append_left _ (List.mem_append_left _ (List.mem_append_left _ (List.mem_append_left _ lm19)))))))), List.forall_mem_cons.mpr ⟨(List.mem_cons_of_mem _ (List.mem_append_left _ (List.mem_append_left _ (List.mem_append_left _ (List.mem_append_left _ (List.mem_append_left _ (List.mem_append_left _ (List.mem_append_left _ lm20)))))))), List.forall_mem_cons.mpr ⟨(List.mem_cons_of_mem _ (List.mem_append_left _ (List.mem_append_left _ (List.mem_append_left _ (List.mem_append_left _ (List.mem_append_left _ (List.mem_append_left _ (List.mem_append_left _ lm21)))))))), List.forall_mem_cons.mpr ⟨(List.mem_cons_of_mem _ (List.mem_append_left _ (List.mem_append_left _ (List.mem_append_left _ (List.mem_append_left _ (List.mem_append_left _ (List.mem_append_left _ (List.mem_append_left _ lm6)))))))), (fun _ h => absurd h List.not_mem_nil)⟩⟩⟩⟩) (by decide +kernel)) (goodIn_sub (by unfold wsX1_fill; exact List.forall_mem_cons.mpr ⟨(List.mem_cons_of_mem _ (List.mem_append_left _ (List.mem_append_left _ (List.mem_append_left _ (List.mem_append_left _ (List.mem_append_left _ (List.mem_append_left _ (List.mem_append_left _ lm22)))))))), List.forall_mem_append.mpr ⟨List.forall_mem_append.mpr ⟨List.forall_mem_append.mpr ⟨List.forall_mem_append.mpr ⟨List.forall_mem_append.mpr ⟨List.forall_mem_append.mpr ⟨List.forall_mem_append.mpr ⟨List.forall_mem_cons.mpr ⟨(List.mem_cons_of_mem _ (List.mem_append_left _ (List.mem_append_left _ (List.mem_append_left _ (List.mem_append_left _ (List.mem_append_left _ (List.mem_append_left _ (List.mem_append_left _ lm23)))))))), List.forall_mem_cons.mpr ⟨(List.mem_cons_of_mem _ (List.mem_append_left _ (List.mem_append_left _ (List.mem_append_left _ (List.mem_append_left _ (List.mem_append_left _ (List.mem_append_left _ (List.mem_append_left _ lm11)))))))), List.forall_mem_cons.mpr ⟨(List.mem_cons_of_mem _ (List.mem_append_left _ (List.mem_append_left _ (List.mem_append_left _ (List.mem_append_left _ (List.mem_append_left _ (List.mem_append_left _ (List.mem_append_right _ lm0)))))))), List.forall_mem_cons.mpr ⟨(List.mem_cons_of_mem _ (List.mem_append_left _ (List.mem_append_left _ (List.mem_append_left _ (List.mem_append_left _ (List.mem_append_left _ (List.mem_append_left _ (List.mem_append_left _ lm8)))))))), List.forall_mem_cons.mpr ⟨(List.mem_cons_of_mem _ (List.mem_append_left _ (List.mem_append_left _ (List.mem_append_left _ (List.mem_append_left _ (List.mem_append_left _ (List.mem_append_left _ (List.mem_append_right _ lm1)))))))), List.forall_mem_cons.mpr ⟨(List.mem_cons_of_mem _ (List.mem_append_left _ (List.mem_append_left _ (List.mem_append_left _ (List.mem_append_left _ (List.mem_append_left _ (List.mem_append_left _ (List.mem_append_right _ lm2)))))))), List.forall_mem_cons.mpr ⟨(List.mem_cons_of_mem _ (List.mem_append_left _ (List.mem_append_left _ (List.mem_append_left _ (List.mem_append_left _ (List.mem_append_left _ (List.mem_append_left _ (List.mem_append_right _ lm3)))))))), List.forall_mem_cons.mpr ⟨(List.mem_cons_of_mem _ (List.mem_append_left _ (List.mem_append_left _ (List.mem_append_left _ (List.mem_append_left _ (List.mem_append_left _ (List.mem_append_left _ (List.mem_append_right _ lm4)))))))), List.forall_mem_cons.mpr ⟨(List.mem_cons_of_mem _ (List.mem_append_left _ (List.mem_append_left _ (List.mem_append_left _ (List.mem_append_left _ (List.mem_append_left _ (List.mem_append_left _ (List.mem_append_right _ lm5)))))))), List.forall_mem_cons.mpr ⟨(List.mem_cons_of_mem _ (List.mem_append_left _ (List.mem_append_left _ (List.mem_append_left _ (List.mem_append_left _ (List.mem_append_left _ (List.mem_append_left _ (List.mem_append_left _ lm15)))))))), List.forall_mem_cons.mpr ⟨(List.mem_cons_of_mem _ (List.mem_append_left _ (List.mem_append_left _ (List.mem_append_left _ (List.mem_append_left _ (List.mem_append_left _ (List.mem_append_left _ (List.mem_append_left _ lm16)))))))), List.forall_mem_cons.mpr ⟨(List.mem_cons_of_mem _ (List.mem_append_left _ (List.mem_append_left _ (List.mem_append_left _ (List.mem_append_left _ (List.mem_append_left _ (List.mem_append_left _ (List.mem_append_left _ lm17)))))))), List.forall_mem_cons.mpr ⟨(List.mem_cons_of_mem _ (List.mem_append_left _ (List.mem_append_left _ (List.mem_append_left _ (List.mem_append_left _ (List.mem_append_left _ (List.mem_append_left _ (List.mem_append_left _ lm6)))))))), List.forall_mem_cons.mpr ⟨(List.mem_cons_of_mem _ (List.mem_append_left _ (List.mem_append_left _ (List.mem_append_left _ (List.mem_append_left _ (List.mem_append_left _ (List.mem_append_left _ (List.mem_append_left _ lm18)))))))), List.forall_mem_cons.mpr ⟨(List.mem_cons_of_mem _ (List.mem_append_left _ (List.mem_append_left _ (List.mem_append_left _ (List.mem_append_left _ (List.mem_append_left _ (List.mem_append_left _ (List.mem_append_left _ lm9)))))))), List.forall_mem_cons.mpr ⟨(List.mem_cons_of_mem _ (List.mem_append_left _ (List.mem_append_left _ (List.mem_append_left _ (List.mem_append_left _ (List.mem_append_left _ (List.mem_append_left _ (List.mem_append_left _ lm10)))))))), List.forall_mem_cons.mpr ⟨(List.mem_cons_of_mem _ (List.mem_append_left _ (List.mem_append_left _ (List.mem_append_left _ (List.mem_append_left _ (List.mem_append_left _ (List.mem_append_left _ (List.mem_append_left _ lm14)))))))), List.forall_mem_cons.mpr ⟨(List.mem_cons_of_mem _ (List.mem_append_left _ (List.mem_append_left _ (List.mem_append_left _ (List.mem_append_left _ (List.mem_append_left _ (List.mem_append_left _ (List.mem_append_right _ lm6)))))))), List.forall_mem_cons.mpr ⟨(List.mem_cons_of_mem _ (List.mem_append_left _ (List.mem_append_left _ (List.mem_append_left _ (List.mem_append_left _ (List.mem_append_left _ (List.mem_append_left _ (List.mem_append_right _ lm7)))))))), List.forall_mem_cons.mpr ⟨(List.mem_cons_of_mem _ (List.mem_append_left _ (List.mem_append_left _ (List.mem_append_left _ (List.mem_append_left _ (List.mem_append_left _ (List.mem_append_left _ (List.mem_append_right _ lm8)))))))), List.forall_mem_cons.mpr ⟨(List.mem_cons_of_mem _ (List.mem_append_left _ (List.mem_append_left _ (List.mem_append_left _ (List.mem_append_left _ (List.mem_append_left _ (List.mem_append_left _ (List.mem_append_right _ lm9)))))))), List.forall_mem_cons.mpr ⟨(List.mem_cons_of_mem _ (List.mem_append_left _ (List.mem_append_left _ (List.mem_append_left _ (List.mem_append_left _ (List.mem_append_left _ (List.mem_append_left _ (List.mem_append_right _ lm10)))))))), List.forall_mem_cons.mpr ⟨(List.mem_cons_of_mem _ (List.mem_append_left _ (List.mem_append_left _ (List.mem_append_left _ (List.mem_append_left _ (List.mem_append_left _ (List.mem_append_left _ (List.mem_append_right _ lm11)))))))), List.forall_mem_cons.mpr ⟨(List.mem_cons_of_mem _ (List.mem_append_left _ (List.mem_append_left _ (List.mem_append_left _ (List.mem_append_left _ (List.mem_append_left _ (List.mem_append_left _ (List.mem_append_right _ lm12)))))))), (fun _ h => absurd h List.not_mem_nil)⟩⟩⟩⟩⟩⟩⟩⟩⟩⟩⟩⟩⟩⟩⟩⟩⟩⟩⟩⟩⟩⟩⟩⟩, List.forall_mem_cons.mpr ⟨(List.mem_cons_of_mem _ (List.mem_append_left _ (List.mem_append_left _ (List.mem_append_left _ (List.mem_append_left _ (List.mem_append_left _ (List.mem_append_left _ (List.mem_append_right _ lm13)))))))), List.forall_mem_cons.mpr ⟨(List.mem_cons_of_mem _ (List.mem_append_left _ (List.mem_append_left _ (List.mem_append_left _ (List.mem_append_left _ (List.mem_append_left _ (List.mem_append_left _ (List.mem_append_right _ lm14)))))))), List.forall_mem_cons.mpr ⟨(List.mem_cons_of_mem _ (List.mem_append_left _ (List.mem_append_left _ (List.mem_append_left _ (List.mem_append_left _ (List.mem_append_left _ (List.mem_append_left _ (List.mem_append_right _ lm15)))))))), List.forall_mem_cons.mpr ⟨(List.mem_cons_of_mem _ (List.mem_append_left _ (List.mem_append_left _ (List.mem_append_left _ (List.mem_append_left _ (List.mem_append_left _ (List.mem_append_left _ (List.mem_append_right _ lm16)))))))), List.forall_mem_cons.mpr ⟨(List.mem_cons_of_mem _ (List.mem_append_left _ (List.mem_append_left _ (List.mem_append_left _ (List.mem_append_left _ (List.mem_append_left _ (List.mem_append_left _ (List.mem_append_right _ lm17)))))))), List.forall_mem_cons.mpr ⟨(List.mem_cons_of_mem _ (List.mem_append_left _ (List.mem_append_left _ (List.mem_append_left _ (List.mem_append_left _ (List.mem_append_left _ (List.mem_append_left _ (List.mem_append_right _ lm18)))))))), List.forall_mem_cons.mpr ⟨(List.mem_cons_of_mem _ (List.mem_append_left _ (List.mem_append_left _ (List.mem_append_left _ (List.mem_append_left _ (List.mem_append_left _ (List.mem_append_left _ (List.mem_append_right _ lm19)))))))), List.forall_mem_cons.mpr ⟨(List.mem_cons_of_mem _ (List.mem_append_left _ (List.mem_append_left _ (List.mem_append_left _ (List.mem_append_left _ (List.mem_append_left _ (List.mem_append_left _ (List.mem_append_right _ lm20)))))))), List.forall_mem_cons.mpr ⟨(List.mem_cons_of_mem _ (List.mem_append_left _ (List.mem_append_left _ (List.mem_append_left _ (List.mem_append_left _ (List.mem_append_left _ (List.mem_append_left _ (List.mem_append_right _ lm21)))))))), (fun _ h => absurd h List.not_mem_nil)⟩⟩⟩⟩⟩⟩⟩⟩⟩⟩, (fun _ h => (List.mem_cons_of_mem _ (List.mem_append_left _ (List.mem_append_left _ (List.mem_append_right _ h)))))⟩, (fun _ h => (List.mem_cons_of_mem _ (List.mem_append_left _ (List.mem_append_right _ h))))⟩, (fun _ h => (List.mem_cons_of_mem _ (List.mem_append_left _ (List.mem_append_left _ (List.mem_append_left _ (List.mem_append_left _ (List.mem_append_left _ (List.mem_append_right _ h))))))))⟩, (fun _ h => (List.mem_cons_of_mem _ (List.mem_append_left _ (List.mem_append_left _ (List.mem_append_left _ (List.mem_append_right _ h))))))⟩, (fun _ h => (List.mem_cons_of_mem _ (List.mem_append_right _ h)))⟩, (fun _ h => (List.mem_cons_of_mem _ (List.mem_append_left _ (List.mem_append_left _ (List.mem_append_left _ (List.mem_append_left _ (List.mem_append_right _ h)))))))⟩⟩) gw_X1_fill)
theorem gX1_hasCell_X1_stepOf : GoodIn wsX1_hasCell (wsV RX1 111 RX1 yX1_stepOf wsX1_stepOf) := goodIn_app (goodIn_sub (List.forall_mem_cons.mpr ⟨(List.mem_cons_of_mem _ (List.mem_append_left _ (List.mem_append_left _ (List.mem_append_left _ (List.mem_append_left _ (List.mem_append_left _ lm5)))))), List.forall_mem_cons.mpr ⟨(List.mem_cons_of_mem _ (List.mem_append_left _ (List.mem_append_left _ (List.mem_append_left _ (List.mem_append_left _ (List.mem_append_left _ lm6)))))), List.forall_mem_cons.mpr ⟨(List.mem_cons_of_mem _ (List.mem_append_left _ (List.mem_append_left _ (List.mem_append_left _ (List.mem_append_left _ (List.mem_append_left _ lm7)))))), List.forall_mem_cons.mpr ⟨(List.mem_cons_of_mem _ (List.mem_append_left _ (List.mem_append_left _ (List.mem_append_left _ (List.mem_append_left _ (List.mem_append_left _ lm8)))))), (fun _ h => absurd h List.not_mem_nil)⟩⟩⟩⟩) (by decide +kernel)) (goodIn_sub (by unfold wsX1_stepOf; exact List.forall_mem_cons.mpr ⟨(List.mem_cons_of_mem _ (List.mem_append_left _ (List.mem_append_left _ (List.mem_append_left _ (List.mem_append_left _ (List.mem_append_left _ lm9)))))), List.forall_mem_append.mpr ⟨List.forall_mem_append.mpr ⟨List.forall_mem_append.mpr ⟨List.forall_mem_append.mpr ⟨List.forall_mem_cons.mpr ⟨(List.mem_cons_of_mem _ (List.mem_append_left _ (List.mem_append_left _ (List.mem_append_left _ (List.mem_append_left _ (List.mem_append_left _ lm1)))))), List.forall_mem_cons.mpr ⟨(List.mem_cons_of_mem _ (List.mem_append_left _ (List.mem_append_left _ (List.mem_append_left _ (List.mem_append_left _ (List.mem_append_left _ lm10)))))), List.forall_mem_cons.mpr ⟨(List.mem_cons_of_mem _ (List.mem_append_left _ (List.mem_append_left _ (List.mem_append_left _ (List.mem_append_left _ (List.mem_append_left _ lm0)))))), List.forall_mem_cons.mpr ⟨(List.mem_cons_of_mem _ (List.mem_append_left _ (List.mem_append_left _ (List.mem_append_left _ (List.mem_append_left _ (List.mem_append_left _ lm11)))))), List.forall_mem_cons.mpr ⟨(List.mem_cons_of_mem _ (List.mem_append_left _ (List.mem_append_left _ (List.mem_append_left _ (List.mem_append_left _ (List.mem_append_left _ lm12)))))), List.forall_mem_cons.mpr ⟨(List.mem_cons_of_mem _ (List.mem_append_left _ (List.mem_append_left _ (List.mem_append_left _ (List.mem_append_left _ (List.mem_append_left _ lm3)))))), List.forall_mem_cons.mpr ⟨(List.mem_cons_of_mem _ (List.mem_append_left _ (List.mem_append_left _ (List.mem_append_left _ (List.mem_append_left _ (List.mem_append_left _ lm13)))))), List.forall_mem_cons.mpr ⟨(List.mem_cons_of_mem _ (List.mem_append_left _ (List.mem_append_left _ (List.mem_append_left _ (List.mem_append_left _ (List.mem_append_left _ lm14)))))), List.forall_mem_cons.mpr ⟨(List.mem_cons_of_mem _ (List.mem_append_left _ (List.mem_append_left _ (List.mem_append_left _ (List.mem_append_left _ (List.mem_append_left _ lm15)))))), List.forall_mem_cons.mpr ⟨(List.mem_cons_of_mem _ (List.mem_append_left _ (List.mem_append_left _ (List.mem_append_left _ (List.mem_append_left _ (List.mem_append_left _ lm16)))))), List.forall_mem_cons.mpr ⟨(List.mem_cons_of_mem _ (List.mem_append_left _ (List.mem_append_left _ (List.mem_append_left _ (List.mem_append_left _ (List.mem_append_left _ lm8)))))), List.forall_mem_cons.mpr ⟨(List.mem_cons_of_mem _ (List.mem_append_left _ (List.mem_append_left _ (List.mem_append_left _ (List.mem_append_left _ (List.mem_append_left _ lm17)))))), (fun _ h => absurd h List.not_mem_nil)⟩⟩⟩⟩⟩⟩⟩⟩⟩⟩⟩⟩, (fun _ h => (List.mem_cons_of_mem _ (List.mem_append_left _ (List.mem_append_left _ (List.mem_append_left _ (List.mem_append_right _ h))))))⟩, (fun _ h => (List.mem_cons_of_mem _ (List.mem_append_left _ (List.mem_append_left _ (List.mem_append_right _ h)))))⟩, (fun _ h => (List.mem_cons_of_mem _ (List.mem_append_left _ (List.mem_append_left _ (List.mem_append_left _ (List.mem_append_left _ (List.mem_append_right _ h)))))))⟩, (fun _ h => (List.mem_cons_of_mem _ (List.mem_append_right _ h)))⟩⟩) gw_X1_stepOf)
theorem gX1_fillCell_X1_stepOf : GoodIn wsX1_fillCell (wsV RX1 111 RX1 yX1_stepOf wsX1_stepOf) := goodIn_app (goodIn_sub (List.forall_mem_cons.mpr ⟨(List.mem_cons_of_mem _ (List.mem_append_left _ (List.mem_append_left _ (List.mem_append_left _ (List.mem_append_left _ (List.mem_append_left _ (List.mem_append_left _ (List.mem_append_left _ lm6)))))))), List.forall_mem_cons.mpr ⟨(List.mem_cons_of_mem _ (List.mem_append_left _ (List.mem_append_left _ (List.mem_append_left _ (List.mem_append_left _ (List.mem_append_left _ (List.mem_append_left _ (List.mem_append_left _ lm7)))))))), List.forall_mem_cons.mpr ⟨(List.mem_cons_of_mem _ (List.mem_append_left _ (List.mem_append_left _ (List.mem_append_left _ (List.mem_append_left _ (List.mem_append_left _ (List.mem_append_left _ (List.mem_append_left _ lm8)))))))), List.forall_mem_cons.mpr ⟨(List.mem_cons_of_mem _ (List.mem_append_left _ (List.mem_append_left _ (List.mem_append_left _ (List.mem_append_left _ (List.mem_append_left _ (List.mem_append_left _ (List.mem_append_left _ lm9)))))))), (fun _ h => absurd h List.not_mem_nil)⟩⟩⟩⟩) (by decide +kernel)) (goodIn_sub (by unfold wsX1_stepOf; exact List.forall_mem_cons.mpr ⟨(List.mem_cons_of_mem _ (List.mem_append_left _ (List.mem_append_left _ (List.mem_append_left _ (List.mem_append_left _ (List.mem_append_left _ (List.mem_append_left _ (List.mem_append_left _ lm10)))))))), List.forall_mem_append.mpr ⟨List.forall_mem_append.mpr ⟨List.forall_mem_append.mpr ⟨List.forall_mem_append.mpr ⟨List.forall_mem_cons.mpr ⟨(List.mem_cons_of_mem _ (List.mem_append_left _ (List.mem_append_left _ (List.mem_append_left _ (List.mem_append_left _ (List.mem_append_left _ (List.mem_append_left _ (List.mem_append_left _ lm0)))))))), List.forall_mem_cons.mpr ⟨(List.mem_cons_of_mem _ (List.mem_append_left _ (List.mem_append_left _ (List.mem_append_left _ (List.mem_append_left _ (List.mem_append_left _ (List.mem_append_left _ (List.mem_append_left _ lm11)))))))), List.forall_mem_cons.mpr ⟨(List.mem_cons_of_mem _ (List.mem_append_left _ (List.mem_append_left _ (List.mem_append_left _ (List.mem_append_left _ (List.mem_append_left _ (List.mem_append_left _ (List.mem_append_left _ lm12)))))))), List.forall_mem_cons.mpr ⟨(List.mem_cons_of_mem _ (List.mem_append_left _ (List.mem_append_left _ (List.mem_append_left _ (List.mem_append_left _ (List.mem_append_left _ (List.mem_append_left _ (List.mem_append_left _ lm13)))))))), List.forall_mem_cons.mpr ⟨(List.mem_cons_of_mem _ (List.mem_append_left _ (List.mem_append_left _ (List.mem_append_left _ (List.mem_append_left _ (List.mem_append_left _ (List.mem_append_left _ (List.mem_append_left _ lm14)))))))), List.forall_mem_cons.mpr ⟨(List.mem_cons_of_mem _ (List.mem_append_left _ (List.mem_append_left _ (List.mem_append_left _ (List.mem_append_left _ (List.mem_append_left _ (List.mem_append_left _ (List.mem_append_left _ lm2)))))))), List.forall_mem_cons.mpr ⟨(List.mem_cons_of_mem _ (List.mem_append_left _ (List.mem_append_left _ (List.mem_append_left _ (List.mem_append_left _ (List.mem_append_left _ (List.mem_append_left _ (List.mem_append_left _ lm15)))))))), List.forall_mem_cons.mpr ⟨(List.mem_cons_of_mem _ (List.mem_append_left _ (List.mem_append_left _ (List.mem_append_left _ (List.mem_append_left _ (List.mem_append_left _ (List.mem_append_left _ (List.mem_append_left _ lm16)))))))), List.forall_mem_cons.mpr ⟨(List.mem_cons_of_mem _ (List.mem_append_left _ (List.mem_append_left _ (List.mem_append_left _ (List.mem_append_left _ (List.mem_append_left _ (List.mem_append_left _ (List.mem_append_left _ lm17)))))))), List.forall_mem_cons.mpr ⟨(List.mem_cons_of_mem _ (List.mem_append_left _ (List.mem_append_left _ (List.mem_append_left _ (List.mem_append_left _ (List.mem_append_left _ (List.mem_append_left _ (List.mem_append_left _ lm18)))))))), List.forall_mem_cons.mpr ⟨(List.mem_cons_of_mem _ (List.mem_append_left _ (List.mem_append_left _ (List.mem_append_left _ (List.mem_append_left _ (List.mem_append_left _ (List.mem_append_left _ (List.mem_append_left _ lm9)))))))), List.forall_mem_cons.mpr ⟨(List.mem_cons_of_mem _ (List.mem_append_left _ (List.mem_append_left _ (List.mem_append_left _ (List.mem_append_left _ (List.mem_append_left _ (List.mem_append_left _ (List.mem_append_left _ lm19)))))))), (fun _ h => absurd h List.not_mem_nil)⟩⟩⟩⟩⟩⟩⟩⟩⟩⟩⟩⟩, (fun _ h => (List.mem_cons_of_mem _ (List.mem_append_left _ (List.mem_append_left _ (List.mem_append_left _ (List.mem_append_left _ (List.mem_append_left _ (List.mem_append_right _ h))))))))⟩, (fun _ h => (List.mem_cons_of_mem _ (List.mem_append_left _ (List.mem_append_left _ (List.mem_append_left _ (List.mem_append_left _ (List.mem_append_right _ h)))))))⟩, (fun _ h => (List.mem_cons_of_mem _ (List.mem_append_left _ (List.mem_append_left _ (List.mem_append_left _ (List.mem_append_right _ h))))))⟩, (fun _ h => (List.mem_cons_of_mem _ (List.mem_append_left _ (List.mem_append_right _ h))))⟩⟩) gw_X1_stepOf)
theorem gX1_fillCell_X1_fill : GoodIn wsX1_fillCell (wsV RX1 126 RX1 yX1_fill wsX1_fill) := goodIn_app (goodIn_sub (List.forall_mem_cons.mpr ⟨(List.mem_cons_of_mem _ (List.mem_append_left _ (List.mem_append_left _ (List.mem_append_left _ (List.mem_append_left _ (List.mem_append_left _ (List.mem_append_left _ (List.mem_append_left _ lm20)))))))), List.forall_mem_cons.mpr ⟨(List.mem_cons_of_mem _ (List.mem_append_left _ (List.mem_append_left _ (List.mem_append_left _ (List.mem_append_left _ (List.mem_append_left _ (List.mem_append_left _ (List.mem_append_left _ lm21)))))))), List.forall_mem_cons.mpr ⟨(List.mem_cons_of_mem _ (List.mem_append_left _ (List.mem_append_left _ (List.mem_append_left _ (List.mem_append_left _ (List.mem_append_left _ (List.mem_append_left _ (List.mem_append_left _ lm22)))))))), List.forall_mem_cons.mpr ⟨(List.mem_cons_of_mem _ (List.mem_append_left _ (List.mem_append_left _ (List.mem_append_left _ (List.mem_append_left _ (List.mem_append_left _ (List.mem_append_left _ (List.mem_append_left _ lm9)))))))), (fun _ h => absurd h List.not_mem_nil)⟩⟩⟩⟩) (by decide +kernel)) (goodIn_sub (by unfold wsX1_fill; exact List.forall_mem_cons.mpr ⟨(List.mem_cons_of_mem _ (List.mem_append_left _ (List.mem_append_left _ (List.mem_append_left _ (List.mem_append_left _ (List.mem_append_left _ (List.mem_append_left _ (List.mem_append_left _ lm23)))))))), List.forall_mem_append.mpr ⟨List.forall_mem_append.mpr ⟨List.forall_mem_append.mpr ⟨List.forall_mem_append.mpr ⟨List.forall_mem_append.mpr ⟨List.forall_mem_append.mpr ⟨List.forall_mem_append.mpr ⟨List.forall_mem_cons.mpr ⟨(List.mem_cons_of_mem _ (List.mem_append_left _ (List.mem_append_left _ (List.mem_append_left _ (List.mem_append_left _ (List.mem_append_left _ (List.mem_append_left _ (List.mem_append_right _ lm0)))))))), List.forall_mem_cons.mpr ⟨(List.mem_cons_of_mem _ (List.mem_append_left _ (List.mem_append_left _ (List.mem_append_left _ (List.mem_append_left _ (List.mem_append_left _ (List.mem_append_left _ (List.mem_append_left _ lm13)))))))), List.forall_mem_cons.mpr ⟨(List.mem_cons_of_mem _ (List.mem_append_left _ (List.mem_append_left _ (List.mem_append_left _ (List.mem_append_left _ (List.mem_append_left _ (List.mem_append_left _ (List.mem_append_right _ lm1)))))))), List.forall_mem_cons.mpr ⟨(List.mem_cons_of_mem _ (List.mem_append_left _ (List.mem_append_left _ (List.mem_append_left _ (List.mem_append_left _ (List.mem_append_left _ (List.mem_append_left _ (List.mem_append_left _ lm0)))))))), List.forall_mem_cons.mpr ⟨(List.mem_cons_of_mem _ (List.mem_append_left _ (List.mem_append_left _ (List.mem_append_left _ (List.mem_append_left _ (List.mem_append_left _ (List.mem_append_left _ (List.mem_append_right _ lm2)))))))), List.forall_mem_cons.mpr ⟨(List.mem_cons_of_mem _ (List.mem_append_left _ (List.mem_append_left _ (List.mem_append_left _ (List.mem_append_left _ (List.mem_append_left _ (List.mem_append_left _ (List.mem_append_right _ lm3)))))))), List.forall_mem_cons.mpr ⟨(List.mem_cons_of_mem _ (List.mem_append_left _ (List.mem_append_left _ (List.mem_append_left _ (List.mem_append_left _ (List.mem_append_left _ (List.mem_append_left _ (List.mem_append_right _ lm4)))))))), List.forall_mem_cons.mpr ⟨(List.mem_cons_of_mem _ (List.mem_append_left _ (List.mem_append_left _ (List.mem_append_left _ (List.mem_append_left _ (List.mem_append_left _ (List.mem_append_left _ (List.mem_append_left _ lm4)))))))), List.forall_mem_cons.mpr ⟨(List.mem_cons_of_mem _ (List.mem_append_left _ (List.mem_append_left _ (List.mem_append_left _ (List.mem_append_left _ (List.mem_append_left _ (List.mem_append_left _ (List.mem_append_left _ lm5)))))))), List.forall_mem_cons.mpr ⟨(List.mem_cons_of_mem _ (List.mem_append_left _ (List.mem_append_left _ (List.mem_append_left _ (List.mem_append_left _ (List.mem_append_left _ (List.mem_append_left _ (List.mem_append_left _ lm16)))))))), List.forall_mem_cons.mpr ⟨(List.mem_cons_of_mem _ (List.mem_append_left _ (List.mem_append_left _ (List.mem_append_left _ (List.mem_append_left _ (List.mem_append_left _ (List.mem_append_left _ (List.mem_append_left _ lm17)))))))), List.forall_mem_cons.mpr ⟨(List.mem_cons_of_mem _ (List.mem_append_left _ (List.mem_append_left _ (List.mem_append_left _ (List.mem_append_left _ (List.mem_append_left _ (List.mem_append_left _ (List.mem_append_left _ lm18)))))))), List.forall_mem_cons.mpr ⟨(List.mem_cons_of_mem _ (List.mem_append_left _ (List.mem_append_left _ (List.mem_append_left _ (List.mem_append_left _ (List.mem_append_left _ (List.mem_append_left _ (List.mem_append_left _ lm9)))))))), List.forall_mem_cons.mpr ⟨(List.mem_cons_of_mem _ (List.mem_append_left _ (List.mem_append_left _ (List.mem_append_left _ (List.mem_append_left _ (List.mem_append_left _ (List.mem_append_left _ (List.mem_append_left _ lm19)))))))), List.forall_mem_cons.mpr ⟨(List.mem_cons_of_mem _ (List.mem_append_left _ (List.mem_append_left _ (List.mem_append_left _ (List.mem_append_left _ (List.mem_append_left _ (List.mem_append_left _ (List.mem_append_left _ lm11)))))))), List.forall_mem_cons.mpr ⟨(List.mem_cons_of_mem _ (List.mem_append_left _ (List.mem_append_left _ (List.mem_append_left _ (List.mem_append_left _ (List.mem_append_left _ (List.mem_append_left _ (List.mem_append_left _ lm12)))))))), List.forall_mem_cons.mpr ⟨(List.mem_cons_of_mem _ (List.mem_append_left _ (List.mem_append_left _ (List.mem_append_left _ (List.mem_append_left _ (List.mem_append_left _ (List.mem_append_left _ (List.mem_append_left _ lm15)))))))), List.forall_mem_cons.mpr ⟨(List.mem_cons_of_mem _ (List.mem_append_left _ (List.mem_append_left _ (List.mem_append_left _ (List.mem_append_left _ (List.mem_append_left _ (List.mem_append_left _ (List.mem_append_right _ lm5)))))))), List.forall_mem_cons.mpr ⟨(List.mem_cons_of_mem _ (List.mem_append_left _ (List.mem_append_left _ (List.mem_append_left _ (List.mem_append_left _ (List.mem_append_left _ (List.mem_append_left _ (List.mem_append_right _ lm6)))))))), List.forall_mem_cons.mpr ⟨(List.mem_cons_of_mem _ (List.mem_append_left _ (List.mem_append_left _ (List.mem_append_left _ (List.mem_append_left _ (List.mem_append_left _ (List.mem_append_left _ (List.mem_append_right _ lm7)))))))), List.forall_mem_cons.mpr ⟨(List.mem_cons_of_mem _ (List.mem_append_left _ (List.mem_append_left _ (List.mem_append_left _ (List.mem_append_left _ (List.mem_append_left _ (List.mem_append_left _ (List.mem_append_right _ lm8)))))))), List.forall_mem_cons.mpr ⟨(List.mem_cons_of_mem _ (List.mem_append_left _ (List.mem_append_left _ (List.mem_append_left _ (List.mem_append_left _ (List.mem_append_left _ (List.mem_append_left _ (List.mem_append_right _ lm9)))))))), List.forall_mem_cons.mpr ⟨(List.mem_cons_of_mem _ (List.mem_append_left _ (List.mem_append_left _ (List.mem_append_left _ (List.mem_append_left _ (List.mem_append_left _ (List.mem_append_left _ (List.mem_append_right _ lm10)))))))), List.forall_mem_cons.mpr ⟨(List.mem_cons_of_mem _ (List.mem_append_left _ (List.mem_append_left _ (List.mem_append_left _ (List.mem_append_left _ (List.mem_append_left _ (List.mem_append_left _ (List.mem_append_right _ lm11)))))))), (fun _ h => absurd h List.not_mem_nil)⟩⟩⟩⟩⟩⟩⟩⟩⟩⟩⟩⟩⟩⟩⟩⟩⟩⟩⟩⟩⟩⟩⟩⟩, List.forall_mem_cons.mpr ⟨(List.mem_cons_of_mem _ (List.mem_append_left _ (List.mem_append_left _ (List.mem_append_left _ (List.mem_append_left _ (List.mem_append_left _ (List.mem_append_left _ (List.mem_append_right _ lm12)))))))), List.forall_mem_cons.mpr ⟨(List.mem_cons_of_mem _ (List.mem_append_left _ (List.mem_append_left _ (List.mem_append_left _ (List.mem_append_left _ (List.mem_append_left _ (List.mem_append_left _ (List.mem_append_right _ lm13)))))))), List.forall_mem_cons.mpr ⟨(List.mem_cons_of_mem _ (List.mem_append_left _ (List.mem_append_left _ (List.mem_append_left _ (List.mem_append_left _ (List.mem_append_left _ (List.mem_append_left _ (List.mem_append_right _ lm14)))))))), List.forall_mem_cons.mpr ⟨(List.mem_cons_of_mem _ (List.mem_append_left _ (List.mem_append_left _ (List.mem_append_left _ (List.mem_append_left _ (List.mem_append_left _ (List.mem_append_left _ (List.mem_append_right _ lm15)))))))), List.forall_mem_cons.mpr ⟨(List.mem_cons_of_mem _ (List.mem_append_left _ (List.mem_append_left _ (List.mem_append_left _ (List.mem_append_left _ (List.mem_append_left _ (List.mem_append_left _ (List.mem_append_right _ lm16)))))))), List.forall_mem_cons.mpr ⟨(List.mem_cons_of_mem _ (List.mem_append_left _ (List.mem_append_left _ (List.mem_append_left _ (List.mem_append_left _ (List.mem_append_left _ (List.mem_append_left _ (List.mem_append_right _ lm17)))))))), List.forall_mem_cons.mpr ⟨(List.mem_cons_of_mem _ (List.mem_append_left _ (List.mem_append_left _ (List.mem_append_left _ (List.mem_append_left _ (List.mem_append_left _ (List.mem_append_left _ (List.mem_append_right _ lm18)))))))), List.forall_mem_cons.mpr ⟨(List.mem_cons_of_mem _ (List.mem_append_left _ (List.mem_append_left _ (List.mem_append_left _ (List.mem_append_left _ (List.mem_append_left _ (List.mem_append_left _ (List.mem_append_right _ lm19)))))))), List.forall_mem_cons.mpr ⟨(List.mem_cons_of_mem _ (List.mem_append_left _ (List.mem_append_left _ (List.mem_append_left _ (List.mem_append_left _ (List.mem_append_left _ (List.mem_append_left _ (List.mem_append_right _ lm20)))))))), (fun _ h => absurd h List.not_mem_nil)⟩⟩⟩⟩⟩⟩⟩⟩⟩⟩, (fun _ h => (List.mem_cons_of_mem _ (List.mem_append_left _ (List.mem_append_right _ h))))⟩, (fun _ h => (List.mem_cons_of_mem _ (List.mem_append_right _ h)))⟩, (fun _ h => (List.mem_cons_of_mem _ (List.mem_append_left _ (List.mem_append_left _ (List.mem_append_left _ (List.mem_append_left _ (List.mem_append_left _ (List.mem_append_right _ h))))))))⟩, (fun _ h => (List.mem_cons_of_mem _ (List.mem_append_left _ (List.mem_append_left _ (List.mem_append_left _ (List.mem_append_left _ (List.mem_append_right _ h)))))))⟩, (fun _ h => (List.mem_cons_of_mem _ (List.mem_append_left _ (List.mem_append_left _ (List.mem_append_right _ h)))))⟩, (fun _ h => (List.mem_cons_of_mem _ (List.mem_append_left _ (List.mem_append_left _ (List.mem_append_left _ (List.mem_append_right _ h))))))⟩⟩) gw_X1_fill)
set_option maxHeartbeats 2000000 in
set_option maxRecDepth 100000 in
theorem k_nameAt (l : Launch) (D : va_G) (g : Nat → Nat) (ka : Nat → ClassId) (ad : Nat → Nat) (i : Nat → Nat → Int32) (r : Nat → Nat → Nat) (L : Nat → Nat → Int64) (d : Nat → Nat → UInt64) (b : Nat) (x : Int32) (y : Int32) (hO : OkI i) (hR : RS r) (sz : Nat) (hPW : PW i) (hjb : b < 40) (hx0 : 0 ≤ x.toInt) (hx1 : x.toInt ≤ 600) (hy0 : 0 ≤ y.toInt) (hy1 : y.toInt ≤ 480) : Met l yX1_nameAt wsX1_nameAt ({ frames := 0, cells := 0, slots := 0, locals := 0 }) (va_Pc [.ref (g 13), .ref (g (96 + 3 * b)), .int x, .int y] (sj_B D (hwc g ka i r L d) (hT ka) sz (gx ad (va_A (hwc g ka i r L d) sz)))) (sj_Qi (S := Unit) D (fun v u => ((-1 : Int) ≤ v.toInt ∧ v.toInt ≤ 3)) (fun _ => hwc g ka i r L d) (fun _ => []) (va_A (hwc g ka i r L d) sz)) 0 0 (va_A (hwc g ka i r L d) sz) := by
  refine x_met (Ex := gx ad) (cc := cX1_nameAt) (maxL := 7) (ret := (some .int)) (by decide) rfl (Nat.le_of_ble_eq_true rfl) ?_
  intro p e s m below meth c A ls hx hb hr hml hts hown hlocks hA hS hH hK hE hl
  have hown : s.vm.findClass RX1 = some m.cls := hown
  have in1 : ∀ w ∈ wsX10, w ∈ wsX1_nameAt := (fun _ h => (List.mem_cons_of_mem _ (List.mem_append_left _ (List.mem_append_left _ (List.mem_append_left _ (List.mem_append_right _ h))))))
  have in3 : ∀ w ∈ wsX30, w ∈ wsX1_nameAt := (fun _ h => (List.mem_cons_of_mem _ (List.mem_append_left _ (List.mem_append_right _ h))))
  have in5 : ∀ w ∈ wsX50, w ∈ wsX1_nameAt := (fun _ h => (List.mem_cons_of_mem _ (List.mem_append_left _ (List.mem_append_left _ (List.mem_append_right _ h)))))
  have in6 : ∀ w ∈ wsX60, w ∈ wsX1_nameAt := (fun _ h => (List.mem_cons_of_mem _ (List.mem_append_right _ h)))
  have wd0 := hts (.fieldLink RX1 9 "StoryDesk$Cases" "reading" "LStoryDesk$Reading;") (List.mem_cons_of_mem _ (List.mem_append_left _ (List.mem_append_left _ (List.mem_append_left _ (List.mem_append_left _ lm0)))))
  have wd1 := hts (.fieldLink RX1 138 "StoryDesk$Reading" "source" "LStoryDesk$Letters;") (List.mem_cons_of_mem _ (List.mem_append_left _ (List.mem_append_left _ (List.mem_append_left _ (List.mem_append_left _ lm1)))))
  have wd2 := hts (.fieldLink RX1 141 "StoryDesk$Letters" "chars" "[C") (List.mem_cons_of_mem _ (List.mem_append_left _ (List.mem_append_left _ (List.mem_append_left _ (List.mem_append_left _ lm2)))))
  have wd3 := hts (.fieldLink RX1 115 "StoryDesk$Row" "width" "I") (List.mem_cons_of_mem _ (List.mem_append_left _ (List.mem_append_left _ (List.mem_append_left _ (List.mem_append_left _ lm3)))))
  have wd4 := hts (.fieldLink RX1 134 "StoryDesk$Row" "lengths" "[I") (List.mem_cons_of_mem _ (List.mem_append_left _ (List.mem_append_left _ (List.mem_append_left _ (List.mem_append_left _ lm4)))))
  have wd5 := hts (.fieldLink RX1 130 "StoryDesk$Row" "starts" "[I") (List.mem_cons_of_mem _ (List.mem_append_left _ (List.mem_append_left _ (List.mem_append_left _ (List.mem_append_left _ lm5)))))
  have hl : lv_has ls 7 [(0, .ref (g 13)), (1, .ref (g (96 + 3 * b))), (2, .int x), (3, .int y)] := hl
  have hK : va_K D vwCl (hT ka) s := hK
  refine lv_aload_n hx hb dX1_nameAt_0 rfl (lv_at hl 0 rfl) ?_
  refine h_getr (ci := 1) (C := RX1) (F := TX1) (N := 5) hx hb hts in1 hown hK hH (by decide) (rfl : kd 13 = 1) (by decide) rfl 0 (by decide) wd0 (fun _ h9 => h9) (by decide) rfl (t := 3) (hR 13 0 rfl) (by decide) dX1_nameAt_1 ?_
  refine h_getr (ci := 5) (C := RX5) (F := TX5) (N := 19) hx hb hts in5 hown hK hH (by decide) (rfl : kd 3 = 5) (by decide) rfl 0 (by decide) wd1 (fun _ h9 => h9) (by decide) rfl (t := 4) (hR 3 0 rfl) (by decide) dX1_nameAt_4 ?_
  refine h_getr (ci := 3) (C := RX3) (F := TX3) (N := 2) hx hb hts in3 hown hK hH (by decide) (rfl : kd 4 = 3) (by decide) rfl 0 (by decide) wd2 (fun _ h9 => h9) (by decide) rfl (t := 5) (hR 4 0 rfl) (by decide) dX1_nameAt_7 ?_
  refine lv_astore (lv' := [(4, .ref (g 5)), (0, .ref (g 13)), (1, .ref (g (96 + 3 * b))), (2, .int x), (3, .int y)]) hx hb dX1_nameAt_10 hl (by decide) rfl (fun ls hl => ?_)
  refine lv_iconst (v := 0) hx hb dX1_nameAt_12 (by decide) ?_
  refine lv_istore (lv' := [(5, .int 0), (4, .ref (g 5)), (0, .ref (g 13)), (1, .ref (g (96 + 3 * b))), (2, .int x), (3, .int y)]) hx hb dX1_nameAt_13 hl (by decide) rfl (fun ls hl => ?_)
  -- loop at 15
  have lp_1 : ∀ (fuel_lp_1 : Nat) (u : Int32) (H : Heap) (locs : List Loc) (ls : Array Slot), ((i (96 + 3 * b) 2).toInt - u.toInt).toNat < fuel_lp_1 → (0 : Int) ≤ u.toInt ∧ u.toInt ≤ 4 → lv_has ls 7 [(5, .int u), (4, .ref (g 5)), (0, .ref (g 13)), (1, .ref (g (96 + 3 * b))), (2, .int x), (3, .int y)] → sj_H D A (hwc g ka i r L d) H → va_S A s.heap H locs → W p l e (headSpec wsX1_nameAt ({ frames := 0, cells := 0, slots := 0, locals := 0 })).room s m ([.ref (g 13), .ref (g (96 + 3 * b)), .int x, .int y] : List Value).toArray below meth c H locs 0 0 (MQ below (sj_Qi (S := Unit) D (fun v u => ((-1 : Int) ≤ v.toInt ∧ v.toInt ≤ 3)) (fun _ => hwc g ka i r L d) (fun _ => []) A) ([.ref (g 13), .ref (g (96 + 3 * b)), .int x, .int y] : List Value).toArray s 0 0 A) (F0 m 15 ls []) := by
    intro fuel_lp_1
    induction fuel_lp_1 with
    | zero => intros; omega
    | succ fuel_lp_1 ih_lp_1 =>
      intro u H locs ls hm hr_u hl hH hS
      refine lv_iload hx hb dX1_nameAt_15 (lv_at hl 0 rfl) ?_
      refine lv_aload_n hx hb dX1_nameAt_17 rfl (lv_at hl 3 rfl) ?_
      have bx_2 : (0 : Int) ≤ (i (96 + 3 * b) 2).toInt ∧ (i (96 + 3 * b) 2).toInt ≤ 4 := by have h9 := hO (96 + 3 * b) 2; rw [bx_row hjb 2] at h9; exact h9
      refine h_geti (ci := 6) (C := RX6) (F := TX6) (N := 4) hx hb hts in6 hown hK hH (lt_nK (by omega)) (kd_row hjb) (by decide) rfl 2 (by decide) wd3 (fun _ h9 => h9) (by decide) rfl dX1_nameAt_18 ?_
      refine lv_icmp_ge (tgt := 117) hx hb dX1_nameAt_21 (by decide) (fun c_3 => ?_) (fun c_3 => ?_)
      · skip
        have h_4 := s_le (rfl : (i (96 + 3 * b) 2).toInt = _) (rfl : u.toInt = _) c_3
        refine lv_iconst (v := (-1)) hx hb dX1_nameAt_117 (by decide) ?_
        exact sj_zret hx hb hr hlocks rfl hS () ⟨by decide, by decide⟩ hH (sj_Knil hK) (Nat.le_of_ble_eq_true rfl) (Nat.le_of_ble_eq_true rfl) dX1_nameAt_118
      · skip
        have h_5 := s_nle (rfl : (i (96 + 3 * b) 2).toInt = _) (rfl : u.toInt = _) c_3
        refine lv_iconst (v := 0) hx hb dX1_nameAt_24 (by decide) ?_
        refine lv_istore (lv' := [(6, .int 0), (5, .int u), (4, .ref (g 5)), (0, .ref (g 13)), (1, .ref (g (96 + 3 * b))), (2, .int x), (3, .int y)]) hx hb dX1_nameAt_25 hl (by decide) rfl (fun ls hl => ?_)
        -- loop at 27
        have lp_6 : ∀ (fuel_lp_6 : Nat) (f : Int32) (H : Heap) (locs : List Loc) (ls : Array Slot), (60 - f.toInt).toNat < fuel_lp_6 → (0 : Int) ≤ f.toInt ∧ f.toInt ≤ 60 → lv_has ls 7 [(6, .int f), (5, .int u), (4, .ref (g 5)), (0, .ref (g 13)), (1, .ref (g (96 + 3 * b))), (2, .int x), (3, .int y)] → sj_H D A (hwc g ka i r L d) H → va_S A s.heap H locs → W p l e (headSpec wsX1_nameAt ({ frames := 0, cells := 0, slots := 0, locals := 0 })).room s m ([.ref (g 13), .ref (g (96 + 3 * b)), .int x, .int y] : List Value).toArray below meth c H locs 0 0 (MQ below (sj_Qi (S := Unit) D (fun v u => ((-1 : Int) ≤ v.toInt ∧ v.toInt ≤ 3)) (fun _ => hwc g ka i r L d) (fun _ => []) A) ([.ref (g 13), .ref (g (96 + 3 * b)), .int x, .int y] : List Value).toArray s 0 0 A) (F0 m 27 ls []) := by
          intro fuel_lp_6
          induction fuel_lp_6 with
          | zero => intros; omega
          | succ fuel_lp_6 ih_lp_6 =>
            intro f H locs ls hm hr_f hl hH hS
            refine lv_iload hx hb dX1_nameAt_27 (lv_at hl 0 rfl) ?_
            refine lv_aload_n hx hb dX1_nameAt_29 rfl (lv_at hl 4 rfl) ?_
            refine h_getr (ci := 6) (C := RX6) (F := TX6) (N := 4) hx hb hts in6 hown hK hH (lt_nK (by omega)) (kd_row hjb) (by decide) rfl 1 (by decide) wd4 (fun _ h9 => h9) (by decide) rfl (t := (96 + 3 * b + 2)) ((hR _ _ (by unfold dyn; simp <;> omega)).trans (sr_mid (by omega) (by omega))) (lt_nK (by omega)) dX1_nameAt_30 ?_
            refine lv_iload hx hb dX1_nameAt_33 (lv_at hl 1 rfl) ?_
            have bx_7 : (0 : Int) ≤ (i (96 + 3 * b + 2) (u.toInt).toNat).toInt ∧ (i (96 + 3 * b + 2) (u.toInt).toNat).toInt ≤ 60 := by have h9 := hO (96 + 3 * b + 2) (u.toInt).toNat; rw [bx_rowa2 hjb (u.toInt).toNat] at h9; exact h9
            have pw_8 := hPW b (u.toInt).toNat (by omega) (by omega)
            refine h_iald hx hb hK hH (lt_nK (by omega)) (kd_rowa hjb (by decide) (by decide)) (s_vin (N := 4) (rfl : u.toInt = _) (ln_rowa hjb (by decide)) (by omega) (by omega)) dX1_nameAt_35 ?_
            have ek_9 : u.toNatClampNeg = (u.toInt).toNat := (s_cl (show u.toInt = u.toInt by omega))
            refine sj_i (y := (i (96 + 3 * b + 2) (u.toInt).toNat)) (by rw [ek_9]) ?_
            refine lv_icmp_ge (tgt := 76) hx hb dX1_nameAt_36 (by decide) (fun c_10 => ?_) (fun c_10 => ?_)
            · skip
              have h_11 := s_le (rfl : (i (96 + 3 * b + 2) (u.toInt).toNat).toInt = _) (rfl : f.toInt = _) c_10
              refine lv_iload hx hb dX1_nameAt_76 (lv_at hl 0 rfl) ?_
              refine lv_aload_n hx hb dX1_nameAt_78 rfl (lv_at hl 4 rfl) ?_
              refine h_getr (ci := 6) (C := RX6) (F := TX6) (N := 4) hx hb hts in6 hown hK hH (lt_nK (by omega)) (kd_row hjb) (by decide) rfl 1 (by decide) wd4 (fun _ h9 => h9) (by decide) rfl (t := (96 + 3 * b + 2)) ((hR _ _ (by unfold dyn; simp <;> omega)).trans (sr_mid (by omega) (by omega))) (lt_nK (by omega)) dX1_nameAt_79 ?_
              refine lv_iload hx hb dX1_nameAt_82 (lv_at hl 1 rfl) ?_
              have pw_12 := hPW b (u.toInt).toNat (by omega) (by omega)
              refine h_iald hx hb hK hH (lt_nK (by omega)) (kd_rowa hjb (by decide) (by decide)) (s_vin (N := 4) (rfl : u.toInt = _) (ln_rowa hjb (by decide)) (by omega) (by omega)) dX1_nameAt_84 ?_
              have ek_13 : u.toNatClampNeg = (u.toInt).toNat := (s_cl (show u.toInt = u.toInt by omega))
              refine sj_i (y := (i (96 + 3 * b + 2) (u.toInt).toNat)) (by rw [ek_13]) ?_
              refine lv_icmp_ne (tgt := 111) hx hb dX1_nameAt_85 (by decide) (fun c_14 => ?_) (fun c_14 => ?_)
              · skip
                have h_15 := s_ne (rfl : f.toInt = _) (rfl : (i (96 + 3 * b + 2) (u.toInt).toNat).toInt = _) c_14
                obtain ⟨z_16, ez_16, hz_16⟩ := s_add (rfl : u.toInt = _) (show (1 : Int32).toInt = 1 from rfl) (by omega) (by omega)
                refine lv_iinc (v := z_16) (lv' := [(5, .int z_16), (6, .int f), (4, .ref (g 5)), (0, .ref (g 13)), (1, .ref (g (96 + 3 * b))), (2, .int x), (3, .int y)]) hx hb dX1_nameAt_111 hl (k := 1) rfl ez_16 (by decide) rfl (fun ls hl => ?_)
                refine lv_goto (tgt := 15) hx hb dX1_nameAt_114 (by decide) ?_
                exact ih_lp_1 z_16 _ _ ls (by omega) (by omega) (lv_sub hl [0, 2, 3, 4, 5, 6] rfl) hH hS
              · skip
                have h_17 := s_eq (rfl : f.toInt = _) (rfl : (i (96 + 3 * b + 2) (u.toInt).toNat).toInt = _) c_14
                refine lv_iload_n hx hb dX1_nameAt_88 rfl (lv_at hl 5 rfl) ?_
                refine lv_iload hx hb dX1_nameAt_89 (lv_at hl 0 rfl) ?_
                refine lv_iadd hx hb dX1_nameAt_91 ?_
                obtain ⟨z_18, ez_18, hz_18⟩ := s_add (rfl : x.toInt = _) (rfl : f.toInt = _) (by omega) (by omega)
                refine sj_i ez_18 ?_
                refine lv_iload_n hx hb dX1_nameAt_92 rfl (lv_at hl 6 rfl) ?_
                refine lv_icmp_ge (tgt := 111) hx hb dX1_nameAt_93 (by decide) (fun c_19 => ?_) (fun c_19 => ?_)
                · skip
                  have h_20 := s_le (rfl : y.toInt = _) (rfl : z_18.toInt = _) c_19
                  obtain ⟨z_21, ez_21, hz_21⟩ := s_add (rfl : u.toInt = _) (show (1 : Int32).toInt = 1 from rfl) (by omega) (by omega)
                  refine lv_iinc (v := z_21) (lv' := [(5, .int z_21), (6, .int f), (4, .ref (g 5)), (0, .ref (g 13)), (1, .ref (g (96 + 3 * b))), (2, .int x), (3, .int y)]) hx hb dX1_nameAt_111 hl (k := 1) rfl ez_21 (by decide) rfl (fun ls hl => ?_)
                  refine lv_goto (tgt := 15) hx hb dX1_nameAt_114 (by decide) ?_
                  exact ih_lp_1 z_21 _ _ ls (by omega) (by omega) (lv_sub hl [0, 2, 3, 4, 5, 6] rfl) hH hS
                · skip
                  have h_22 := s_nle (rfl : y.toInt = _) (rfl : z_18.toInt = _) c_19
                  refine lv_aload hx hb dX1_nameAt_96 (lv_at hl 2 rfl) ?_
                  refine lv_iload_n hx hb dX1_nameAt_98 rfl (lv_at hl 5 rfl) ?_
                  refine lv_iload hx hb dX1_nameAt_99 (lv_at hl 0 rfl) ?_
                  refine lv_iadd hx hb dX1_nameAt_101 ?_
                  obtain ⟨z_23, ez_23, hz_23⟩ := s_add (rfl : x.toInt = _) (rfl : f.toInt = _) (by omega) (by omega)
                  refine sj_i ez_23 ?_
                  have bx_24 : (0 : Int) ≤ (i 5 (f.toInt + x.toInt).toNat).toInt ∧ (i 5 (f.toInt + x.toInt).toNat).toInt ≤ 65535 := hO 5 (f.toInt + x.toInt).toNat
                  refine h_cald hx hb hK hH (by decide) (rfl : kd 5 = 14) (s_vin (N := 480) (rfl : z_23.toInt = _) (rfl : ln 5 = 480) (by omega) (by omega)) dX1_nameAt_102 ?_
                  have ek_25 : z_23.toNatClampNeg = (f.toInt + x.toInt).toNat := (s_cl (show z_23.toInt = f.toInt + x.toInt by omega))
                  refine sj_i (y := (i 5 (f.toInt + x.toInt).toNat)) (by rw [ek_25]) ?_
                  refine lv_bipush (v := 62) hx hb dX1_nameAt_103 (by decide) ?_
                  refine lv_icmp_ne (tgt := 111) hx hb dX1_nameAt_105 (by decide) (fun c_26 => ?_) (fun c_26 => ?_)
                  · skip
                    have h_27 := s_ne (rfl : (i 5 (f.toInt + x.toInt).toNat).toInt = _) (show (62 : Int32).toInt = 62 from rfl) c_26
                    obtain ⟨z_28, ez_28, hz_28⟩ := s_add (rfl : u.toInt = _) (show (1 : Int32).toInt = 1 from rfl) (by omega) (by omega)
                    refine lv_iinc (v := z_28) (lv' := [(5, .int z_28), (6, .int f), (4, .ref (g 5)), (0, .ref (g 13)), (1, .ref (g (96 + 3 * b))), (2, .int x), (3, .int y)]) hx hb dX1_nameAt_111 hl (k := 1) rfl ez_28 (by decide) rfl (fun ls hl => ?_)
                    refine lv_goto (tgt := 15) hx hb dX1_nameAt_114 (by decide) ?_
                    exact ih_lp_1 z_28 _ _ ls (by omega) (by omega) (lv_sub hl [0, 2, 3, 4, 5, 6] rfl) hH hS
                  · skip
                    have h_29 := s_eq (rfl : (i 5 (f.toInt + x.toInt).toNat).toInt = _) (show (62 : Int32).toInt = 62 from rfl) c_26
                    refine lv_iload hx hb dX1_nameAt_108 (lv_at hl 1 rfl) ?_
                    exact sj_zret hx hb hr hlocks rfl hS () ⟨by omega, by omega⟩ hH (sj_Knil hK) (Nat.le_of_ble_eq_true rfl) (Nat.le_of_ble_eq_true rfl) dX1_nameAt_110
            · skip
              have h_30 := s_nle (rfl : (i (96 + 3 * b + 2) (u.toInt).toNat).toInt = _) (rfl : f.toInt = _) c_10
              refine lv_iload_n hx hb dX1_nameAt_39 rfl (lv_at hl 5 rfl) ?_
              refine lv_iload hx hb dX1_nameAt_40 (lv_at hl 0 rfl) ?_
              refine lv_iadd hx hb dX1_nameAt_42 ?_
              obtain ⟨z_31, ez_31, hz_31⟩ := s_add (rfl : x.toInt = _) (rfl : f.toInt = _) (by omega) (by omega)
              refine sj_i ez_31 ?_
              refine lv_iload_n hx hb dX1_nameAt_43 rfl (lv_at hl 6 rfl) ?_
              refine lv_icmp_ge (tgt := 76) hx hb dX1_nameAt_44 (by decide) (fun c_32 => ?_) (fun c_32 => ?_)
              · skip
                have h_33 := s_le (rfl : y.toInt = _) (rfl : z_31.toInt = _) c_32
                refine lv_iload hx hb dX1_nameAt_76 (lv_at hl 0 rfl) ?_
                refine lv_aload_n hx hb dX1_nameAt_78 rfl (lv_at hl 4 rfl) ?_
                refine h_getr (ci := 6) (C := RX6) (F := TX6) (N := 4) hx hb hts in6 hown hK hH (lt_nK (by omega)) (kd_row hjb) (by decide) rfl 1 (by decide) wd4 (fun _ h9 => h9) (by decide) rfl (t := (96 + 3 * b + 2)) ((hR _ _ (by unfold dyn; simp <;> omega)).trans (sr_mid (by omega) (by omega))) (lt_nK (by omega)) dX1_nameAt_79 ?_
                refine lv_iload hx hb dX1_nameAt_82 (lv_at hl 1 rfl) ?_
                have pw_34 := hPW b (u.toInt).toNat (by omega) (by omega)
                refine h_iald hx hb hK hH (lt_nK (by omega)) (kd_rowa hjb (by decide) (by decide)) (s_vin (N := 4) (rfl : u.toInt = _) (ln_rowa hjb (by decide)) (by omega) (by omega)) dX1_nameAt_84 ?_
                have ek_35 : u.toNatClampNeg = (u.toInt).toNat := (s_cl (show u.toInt = u.toInt by omega))
                refine sj_i (y := (i (96 + 3 * b + 2) (u.toInt).toNat)) (by rw [ek_35]) ?_
                refine lv_icmp_ne (tgt := 111) hx hb dX1_nameAt_85 (by decide) (fun c_36 => ?_) (fun c_36 => ?_)
                · skip
                  have h_37 := s_ne (rfl : f.toInt = _) (rfl : (i (96 + 3 * b + 2) (u.toInt).toNat).toInt = _) c_36
                  obtain ⟨z_38, ez_38, hz_38⟩ := s_add (rfl : u.toInt = _) (show (1 : Int32).toInt = 1 from rfl) (by omega) (by omega)
                  refine lv_iinc (v := z_38) (lv' := [(5, .int z_38), (6, .int f), (4, .ref (g 5)), (0, .ref (g 13)), (1, .ref (g (96 + 3 * b))), (2, .int x), (3, .int y)]) hx hb dX1_nameAt_111 hl (k := 1) rfl ez_38 (by decide) rfl (fun ls hl => ?_)
                  refine lv_goto (tgt := 15) hx hb dX1_nameAt_114 (by decide) ?_
                  exact ih_lp_1 z_38 _ _ ls (by omega) (by omega) (lv_sub hl [0, 2, 3, 4, 5, 6] rfl) hH hS
                · skip
                  have h_39 := s_eq (rfl : f.toInt = _) (rfl : (i (96 + 3 * b + 2) (u.toInt).toNat).toInt = _) c_36
                  refine lv_iload_n hx hb dX1_nameAt_88 rfl (lv_at hl 5 rfl) ?_
                  refine lv_iload hx hb dX1_nameAt_89 (lv_at hl 0 rfl) ?_
                  refine lv_iadd hx hb dX1_nameAt_91 ?_
                  obtain ⟨z_40, ez_40, hz_40⟩ := s_add (rfl : x.toInt = _) (rfl : f.toInt = _) (by omega) (by omega)
                  refine sj_i ez_40 ?_
                  refine lv_iload_n hx hb dX1_nameAt_92 rfl (lv_at hl 6 rfl) ?_
                  refine lv_icmp_ge (tgt := 111) hx hb dX1_nameAt_93 (by decide) (fun c_41 => ?_) (fun c_41 => ?_)
                  · skip
                    have h_42 := s_le (rfl : y.toInt = _) (rfl : z_40.toInt = _) c_41
                    obtain ⟨z_43, ez_43, hz_43⟩ := s_add (rfl : u.toInt = _) (show (1 : Int32).toInt = 1 from rfl) (by omega) (by omega)
                    refine lv_iinc (v := z_43) (lv' := [(5, .int z_43), (6, .int f), (4, .ref (g 5)), (0, .ref (g 13)), (1, .ref (g (96 + 3 * b))), (2, .int x), (3, .int y)]) hx hb dX1_nameAt_111 hl (k := 1) rfl ez_43 (by decide) rfl (fun ls hl => ?_)
                    refine lv_goto (tgt := 15) hx hb dX1_nameAt_114 (by decide) ?_
                    exact ih_lp_1 z_43 _ _ ls (by omega) (by omega) (lv_sub hl [0, 2, 3, 4, 5, 6] rfl) hH hS
                  · skip
                    have h_44 := s_nle (rfl : y.toInt = _) (rfl : z_40.toInt = _) c_41
                    refine lv_aload hx hb dX1_nameAt_96 (lv_at hl 2 rfl) ?_
                    refine lv_iload_n hx hb dX1_nameAt_98 rfl (lv_at hl 5 rfl) ?_
                    refine lv_iload hx hb dX1_nameAt_99 (lv_at hl 0 rfl) ?_
                    refine lv_iadd hx hb dX1_nameAt_101 ?_
                    obtain ⟨z_45, ez_45, hz_45⟩ := s_add (rfl : x.toInt = _) (rfl : f.toInt = _) (by omega) (by omega)
                    refine sj_i ez_45 ?_
                    have bx_46 : (0 : Int) ≤ (i 5 (f.toInt + x.toInt).toNat).toInt ∧ (i 5 (f.toInt + x.toInt).toNat).toInt ≤ 65535 := hO 5 (f.toInt + x.toInt).toNat
                    refine h_cald hx hb hK hH (by decide) (rfl : kd 5 = 14) (s_vin (N := 480) (rfl : z_45.toInt = _) (rfl : ln 5 = 480) (by omega) (by omega)) dX1_nameAt_102 ?_
                    have ek_47 : z_45.toNatClampNeg = (f.toInt + x.toInt).toNat := (s_cl (show z_45.toInt = f.toInt + x.toInt by omega))
                    refine sj_i (y := (i 5 (f.toInt + x.toInt).toNat)) (by rw [ek_47]) ?_
                    refine lv_bipush (v := 62) hx hb dX1_nameAt_103 (by decide) ?_
                    refine lv_icmp_ne (tgt := 111) hx hb dX1_nameAt_105 (by decide) (fun c_48 => ?_) (fun c_48 => ?_)
                    · skip
                      have h_49 := s_ne (rfl : (i 5 (f.toInt + x.toInt).toNat).toInt = _) (show (62 : Int32).toInt = 62 from rfl) c_48
                      obtain ⟨z_50, ez_50, hz_50⟩ := s_add (rfl : u.toInt = _) (show (1 : Int32).toInt = 1 from rfl) (by omega) (by omega)
                      refine lv_iinc (v := z_50) (lv' := [(5, .int z_50), (6, .int f), (4, .ref (g 5)), (0, .ref (g 13)), (1, .ref (g (96 + 3 * b))), (2, .int x), (3, .int y)]) hx hb dX1_nameAt_111 hl (k := 1) rfl ez_50 (by decide) rfl (fun ls hl => ?_)
                      refine lv_goto (tgt := 15) hx hb dX1_nameAt_114 (by decide) ?_
                      exact ih_lp_1 z_50 _ _ ls (by omega) (by omega) (lv_sub hl [0, 2, 3, 4, 5, 6] rfl) hH hS
                    · skip
                      have h_51 := s_eq (rfl : (i 5 (f.toInt + x.toInt).toNat).toInt = _) (show (62 : Int32).toInt = 62 from rfl) c_48
                      refine lv_iload hx hb dX1_nameAt_108 (lv_at hl 1 rfl) ?_
                      exact sj_zret hx hb hr hlocks rfl hS () ⟨by omega, by omega⟩ hH (sj_Knil hK) (Nat.le_of_ble_eq_true rfl) (Nat.le_of_ble_eq_true rfl) dX1_nameAt_110
              · skip
                have h_52 := s_nle (rfl : y.toInt = _) (rfl : z_31.toInt = _) c_32
                refine lv_aload hx hb dX1_nameAt_47 (lv_at hl 2 rfl) ?_
                refine lv_aload_n hx hb dX1_nameAt_49 rfl (lv_at hl 4 rfl) ?_
                refine h_getr (ci := 6) (C := RX6) (F := TX6) (N := 4) hx hb hts in6 hown hK hH (lt_nK (by omega)) (kd_row hjb) (by decide) rfl 0 (by decide) wd5 (fun _ h9 => h9) (by decide) rfl (t := (96 + 3 * b + 1)) ((hR _ _ (by unfold dyn; simp <;> omega)).trans (sr_mid (by omega) (by omega))) (lt_nK (by omega)) dX1_nameAt_50 ?_
                refine lv_iload hx hb dX1_nameAt_53 (lv_at hl 1 rfl) ?_
                have bx_53 : (0 : Int) ≤ (i (96 + 3 * b + 1) (u.toInt).toNat).toInt ∧ (i (96 + 3 * b + 1) (u.toInt).toNat).toInt ≤ 480 := by have h9 := hO (96 + 3 * b + 1) (u.toInt).toNat; rw [bx_rowa1 hjb (u.toInt).toNat] at h9; exact h9
                have pw_54 := hPW b (u.toInt).toNat (by omega) (by omega)
                refine h_iald hx hb hK hH (lt_nK (by omega)) (kd_rowa hjb (by decide) (by decide)) (s_vin (N := 4) (rfl : u.toInt = _) (ln_rowa hjb (by decide)) (by omega) (by omega)) dX1_nameAt_55 ?_
                have ek_55 : u.toNatClampNeg = (u.toInt).toNat := (s_cl (show u.toInt = u.toInt by omega))
                refine sj_i (y := (i (96 + 3 * b + 1) (u.toInt).toNat)) (by rw [ek_55]) ?_
                refine lv_iload hx hb dX1_nameAt_56 (lv_at hl 0 rfl) ?_
                refine lv_iadd hx hb dX1_nameAt_58 ?_
                obtain ⟨z_56, ez_56, hz_56⟩ := s_add (rfl : (i (96 + 3 * b + 1) (u.toInt).toNat).toInt = _) (rfl : f.toInt = _) (by omega) (by omega)
                refine sj_i ez_56 ?_
                have bx_57 : (0 : Int) ≤ (i 5 ((i (96 + 3 * b + 1) (u.toInt).toNat).toInt + f.toInt).toNat).toInt ∧ (i 5 ((i (96 + 3 * b + 1) (u.toInt).toNat).toInt + f.toInt).toNat).toInt ≤ 65535 := hO 5 ((i (96 + 3 * b + 1) (u.toInt).toNat).toInt + f.toInt).toNat
                refine h_cald hx hb hK hH (by decide) (rfl : kd 5 = 14) (s_vin (N := 480) (rfl : z_56.toInt = _) (rfl : ln 5 = 480) (by omega) (by omega)) dX1_nameAt_59 ?_
                have ek_58 : z_56.toNatClampNeg = ((i (96 + 3 * b + 1) (u.toInt).toNat).toInt + f.toInt).toNat := (s_cl (show z_56.toInt = (i (96 + 3 * b + 1) (u.toInt).toNat).toInt + f.toInt by omega))
                refine sj_i (y := (i 5 ((i (96 + 3 * b + 1) (u.toInt).toNat).toInt + f.toInt).toNat)) (by rw [ek_58]) ?_
                refine lv_aload hx hb dX1_nameAt_60 (lv_at hl 2 rfl) ?_
                refine lv_iload_n hx hb dX1_nameAt_62 rfl (lv_at hl 5 rfl) ?_
                refine lv_iload hx hb dX1_nameAt_63 (lv_at hl 0 rfl) ?_
                refine lv_iadd hx hb dX1_nameAt_65 ?_
                obtain ⟨z_59, ez_59, hz_59⟩ := s_add (rfl : x.toInt = _) (rfl : f.toInt = _) (by omega) (by omega)
                refine sj_i ez_59 ?_
                have bx_60 : (0 : Int) ≤ (i 5 (f.toInt + x.toInt).toNat).toInt ∧ (i 5 (f.toInt + x.toInt).toNat).toInt ≤ 65535 := hO 5 (f.toInt + x.toInt).toNat
                refine h_cald hx hb hK hH (by decide) (rfl : kd 5 = 14) (s_vin (N := 480) (rfl : z_59.toInt = _) (rfl : ln 5 = 480) (by omega) (by omega)) dX1_nameAt_66 ?_
                have ek_61 : z_59.toNatClampNeg = (f.toInt + x.toInt).toNat := (s_cl (show z_59.toInt = f.toInt + x.toInt by omega))
                refine sj_i (y := (i 5 (f.toInt + x.toInt).toNat)) (by rw [ek_61]) ?_
                refine lv_icmp_ne (tgt := 76) hx hb dX1_nameAt_67 (by decide) (fun c_62 => ?_) (fun c_62 => ?_)
                · skip
                  have h_63 := s_ne (rfl : (i 5 ((i (96 + 3 * b + 1) (u.toInt).toNat).toInt + f.toInt).toNat).toInt = _) (rfl : (i 5 (f.toInt + x.toInt).toNat).toInt = _) c_62
                  refine lv_iload hx hb dX1_nameAt_76 (lv_at hl 0 rfl) ?_
                  refine lv_aload_n hx hb dX1_nameAt_78 rfl (lv_at hl 4 rfl) ?_
                  refine h_getr (ci := 6) (C := RX6) (F := TX6) (N := 4) hx hb hts in6 hown hK hH (lt_nK (by omega)) (kd_row hjb) (by decide) rfl 1 (by decide) wd4 (fun _ h9 => h9) (by decide) rfl (t := (96 + 3 * b + 2)) ((hR _ _ (by unfold dyn; simp <;> omega)).trans (sr_mid (by omega) (by omega))) (lt_nK (by omega)) dX1_nameAt_79 ?_
                  refine lv_iload hx hb dX1_nameAt_82 (lv_at hl 1 rfl) ?_
                  have pw_64 := hPW b (u.toInt).toNat (by omega) (by omega)
                  refine h_iald hx hb hK hH (lt_nK (by omega)) (kd_rowa hjb (by decide) (by decide)) (s_vin (N := 4) (rfl : u.toInt = _) (ln_rowa hjb (by decide)) (by omega) (by omega)) dX1_nameAt_84 ?_
                  have ek_65 : u.toNatClampNeg = (u.toInt).toNat := (s_cl (show u.toInt = u.toInt by omega))
                  refine sj_i (y := (i (96 + 3 * b + 2) (u.toInt).toNat)) (by rw [ek_65]) ?_
                  refine lv_icmp_ne (tgt := 111) hx hb dX1_nameAt_85 (by decide) (fun c_66 => ?_) (fun c_66 => ?_)
                  · skip
                    have h_67 := s_ne (rfl : f.toInt = _) (rfl : (i (96 + 3 * b + 2) (u.toInt).toNat).toInt = _) c_66
                    obtain ⟨z_68, ez_68, hz_68⟩ := s_add (rfl : u.toInt = _) (show (1 : Int32).toInt = 1 from rfl) (by omega) (by omega)
                    refine lv_iinc (v := z_68) (lv' := [(5, .int z_68), (6, .int f), (4, .ref (g 5)), (0, .ref (g 13)), (1, .ref (g (96 + 3 * b))), (2, .int x), (3, .int y)]) hx hb dX1_nameAt_111 hl (k := 1) rfl ez_68 (by decide) rfl (fun ls hl => ?_)
                    refine lv_goto (tgt := 15) hx hb dX1_nameAt_114 (by decide) ?_
                    exact ih_lp_1 z_68 _ _ ls (by omega) (by omega) (lv_sub hl [0, 2, 3, 4, 5, 6] rfl) hH hS
                  · skip
                    have h_69 := s_eq (rfl : f.toInt = _) (rfl : (i (96 + 3 * b + 2) (u.toInt).toNat).toInt = _) c_66
                    refine lv_iload_n hx hb dX1_nameAt_88 rfl (lv_at hl 5 rfl) ?_
                    refine lv_iload hx hb dX1_nameAt_89 (lv_at hl 0 rfl) ?_
                    refine lv_iadd hx hb dX1_nameAt_91 ?_
                    obtain ⟨z_70, ez_70, hz_70⟩ := s_add (rfl : x.toInt = _) (rfl : f.toInt = _) (by omega) (by omega)
                    refine sj_i ez_70 ?_
                    refine lv_iload_n hx hb dX1_nameAt_92 rfl (lv_at hl 6 rfl) ?_
                    refine lv_icmp_ge (tgt := 111) hx hb dX1_nameAt_93 (by decide) (fun c_71 => ?_) (fun c_71 => ?_)
                    · skip
                      have h_72 := s_le (rfl : y.toInt = _) (rfl : z_70.toInt = _) c_71
                      obtain ⟨z_73, ez_73, hz_73⟩ := s_add (rfl : u.toInt = _) (show (1 : Int32).toInt = 1 from rfl) (by omega) (by omega)
                      refine lv_iinc (v := z_73) (lv' := [(5, .int z_73), (6, .int f), (4, .ref (g 5)), (0, .ref (g 13)), (1, .ref (g (96 + 3 * b))), (2, .int x), (3, .int y)]) hx hb dX1_nameAt_111 hl (k := 1) rfl ez_73 (by decide) rfl (fun ls hl => ?_)
                      refine lv_goto (tgt := 15) hx hb dX1_nameAt_114 (by decide) ?_
                      exact ih_lp_1 z_73 _ _ ls (by omega) (by omega) (lv_sub hl [0, 2, 3, 4, 5, 6] rfl) hH hS
                    · skip
                      have h_74 := s_nle (rfl : y.toInt = _) (rfl : z_70.toInt = _) c_71
                      refine lv_aload hx hb dX1_nameAt_96 (lv_at hl 2 rfl) ?_
                      refine lv_iload_n hx hb dX1_nameAt_98 rfl (lv_at hl 5 rfl) ?_
                      refine lv_iload hx hb dX1_nameAt_99 (lv_at hl 0 rfl) ?_
                      refine lv_iadd hx hb dX1_nameAt_101 ?_
                      obtain ⟨z_75, ez_75, hz_75⟩ := s_add (rfl : x.toInt = _) (rfl : f.toInt = _) (by omega) (by omega)
                      refine sj_i ez_75 ?_
                      refine h_cald hx hb hK hH (by decide) (rfl : kd 5 = 14) (s_vin (N := 480) (rfl : z_75.toInt = _) (rfl : ln 5 = 480) (by omega) (by omega)) dX1_nameAt_102 ?_
                      have ek_76 : z_75.toNatClampNeg = (f.toInt + x.toInt).toNat := (s_cl (show z_75.toInt = f.toInt + x.toInt by omega))
                      refine sj_i (y := (i 5 (f.toInt + x.toInt).toNat)) (by rw [ek_76]) ?_
                      refine lv_bipush (v := 62) hx hb dX1_nameAt_103 (by decide) ?_
                      refine lv_icmp_ne (tgt := 111) hx hb dX1_nameAt_105 (by decide) (fun c_77 => ?_) (fun c_77 => ?_)
                      · skip
                        have h_78 := s_ne (rfl : (i 5 (f.toInt + x.toInt).toNat).toInt = _) (show (62 : Int32).toInt = 62 from rfl) c_77
                        obtain ⟨z_79, ez_79, hz_79⟩ := s_add (rfl : u.toInt = _) (show (1 : Int32).toInt = 1 from rfl) (by omega) (by omega)
                        refine lv_iinc (v := z_79) (lv' := [(5, .int z_79), (6, .int f), (4, .ref (g 5)), (0, .ref (g 13)), (1, .ref (g (96 + 3 * b))), (2, .int x), (3, .int y)]) hx hb dX1_nameAt_111 hl (k := 1) rfl ez_79 (by decide) rfl (fun ls hl => ?_)
                        refine lv_goto (tgt := 15) hx hb dX1_nameAt_114 (by decide) ?_
                        exact ih_lp_1 z_79 _ _ ls (by omega) (by omega) (lv_sub hl [0, 2, 3, 4, 5, 6] rfl) hH hS
                      · skip
                        have h_80 := s_eq (rfl : (i 5 (f.toInt + x.toInt).toNat).toInt = _) (show (62 : Int32).toInt = 62 from rfl) c_77
                        refine lv_iload hx hb dX1_nameAt_108 (lv_at hl 1 rfl) ?_
                        exact sj_zret hx hb hr hlocks rfl hS () ⟨by omega, by omega⟩ hH (sj_Knil hK) (Nat.le_of_ble_eq_true rfl) (Nat.le_of_ble_eq_true rfl) dX1_nameAt_110
                · skip
                  have h_81 := s_eq (rfl : (i 5 ((i (96 + 3 * b + 1) (u.toInt).toNat).toInt + f.toInt).toNat).toInt = _) (rfl : (i 5 (f.toInt + x.toInt).toNat).toInt = _) c_62
                  obtain ⟨z_82, ez_82, hz_82⟩ := s_add (rfl : f.toInt = _) (show (1 : Int32).toInt = 1 from rfl) (by omega) (by omega)
                  refine lv_iinc (v := z_82) (lv' := [(6, .int z_82), (5, .int u), (4, .ref (g 5)), (0, .ref (g 13)), (1, .ref (g (96 + 3 * b))), (2, .int x), (3, .int y)]) hx hb dX1_nameAt_70 hl (k := 0) rfl ez_82 (by decide) rfl (fun ls hl => ?_)
                  refine lv_goto (tgt := 27) hx hb dX1_nameAt_73 (by decide) ?_
                  exact ih_lp_6 z_82 _ _ ls (by omega) (by omega) (lv_sub hl [0, 1, 2, 3, 4, 5, 6] rfl) hH hS
        have hl_83 : (0 : Int32).toInt = 0 := rfl
        exact lp_6 _ 0 _ _ ls (Nat.lt_succ_self _) (by omega) (lv_sub hl [0, 1, 2, 3, 4, 5, 6] rfl) hH hS
  have hl_84 : (0 : Int32).toInt = 0 := rfl
  exact lp_1 _ 0 _ _ ls (Nat.lt_succ_self _) (by omega) (lv_sub hl [0, 1, 2, 3, 4, 5] rfl) hH hS
set_option maxHeartbeats 2000000 in
set_option maxRecDepth 100000 in
theorem k_fill_stepText (l : Launch) (D : va_G) (g : Nat → Nat) (ka : Nat → ClassId) (ad : Nat → Nat) (i : Nat → Nat → Int32) (r : Nat → Nat → Nat) (L : Nat → Nat → Int64) (d : Nat → Nat → UInt64) (j : Nat) (z : Int32) (x : Int32) (y : Int32) (hO : OkI i) (hR : RS r) (sz : Nat) (hPC : PC i r) (hj : j < 24) (hjc : (j : Int) < (i 13 4).toInt) (hPW : PW i) (hx0 : 0 ≤ x.toInt) (hy0 : 0 ≤ y.toInt) (hxy : x.toInt + y.toInt ≤ 480) : Met l yX1_fill wsX1_fill ({ frames := 1, cells := 0, slots := 0, locals := 26 }) (va_Pc [.ref (g 13), .ref (g 14), .ref (g (216 + 1 * j)), .int z, .int x, .int y] (sj_B D (hwc g ka i r L d) (hT ka) sz (gx ad (va_A (hwc g ka i r L d) sz)))) (sj_Qv (S := (Nat → Nat → Int32)) D (fun u => OkI u ∧ (∀ a, ¬ (a = 14 ∨ a = 15) → u a = i a)) (fun u => hwc g ka u r L d) (fun _ => []) (va_A (hwc g ka i r L d) sz)) 0 0 (va_A (hwc g ka i r L d) sz) := by
  refine x_met (Ex := gx ad) (cc := cX1_fill) (maxL := 11) (ret := none) (by decide) rfl (Nat.le_of_ble_eq_true rfl) ?_
  intro p e s m below meth c A ls hx hb hr hml hts hown hlocks hA hS hH hK hE hl
  have hown : s.vm.findClass RX1 = some m.cls := hown
  have in0 : ∀ w ∈ wsX00, w ∈ wsX1_fill := (fun _ h => (List.mem_cons_of_mem _ (List.mem_append_left _ (List.mem_append_left _ (List.mem_append_left _ (List.mem_append_left _ (List.mem_append_left _ (List.mem_append_right _ h))))))))
  have in1 : ∀ w ∈ wsX10, w ∈ wsX1_fill := (fun _ h => (List.mem_cons_of_mem _ (List.mem_append_left _ (List.mem_append_left _ (List.mem_append_left _ (List.mem_append_right _ h))))))
  have in3 : ∀ w ∈ wsX30, w ∈ wsX1_fill := (fun _ h => (List.mem_cons_of_mem _ (List.mem_append_left _ (List.mem_append_left _ (List.mem_append_left _ (List.mem_append_left _ (List.mem_append_right _ h)))))))
  have in5 : ∀ w ∈ wsX50, w ∈ wsX1_fill := (fun _ h => (List.mem_cons_of_mem _ (List.mem_append_left _ (List.mem_append_left _ (List.mem_append_right _ h)))))
  have in6 : ∀ w ∈ wsX60, w ∈ wsX1_fill := (fun _ h => (List.mem_cons_of_mem _ (List.mem_append_left _ (List.mem_append_right _ h))))
  have wd0 := hts (.fieldLink RX1 83 "StoryDesk$Case" "names" "LStoryDesk$Row;") (List.mem_cons_of_mem _ (List.mem_append_left _ (List.mem_append_left _ (List.mem_append_left _ (List.mem_append_left _ (List.mem_append_left _ (List.mem_append_left _ (List.mem_append_left _ lm0))))))))
  have wd1 := hts (.fieldLink RX1 137 "StoryDesk$Letters" "length" "I") (List.mem_cons_of_mem _ (List.mem_append_left _ (List.mem_append_left _ (List.mem_append_left _ (List.mem_append_left _ (List.mem_append_left _ (List.mem_append_left _ (List.mem_append_left _ lm2))))))))
  have wd2 := hts (.fieldLink RX1 9 "StoryDesk$Cases" "reading" "LStoryDesk$Reading;") (List.mem_cons_of_mem _ (List.mem_append_left _ (List.mem_append_left _ (List.mem_append_left _ (List.mem_append_left _ (List.mem_append_left _ (List.mem_append_left _ (List.mem_append_left _ lm3))))))))
  have wd3 := hts (.fieldLink RX1 138 "StoryDesk$Reading" "source" "LStoryDesk$Letters;") (List.mem_cons_of_mem _ (List.mem_append_left _ (List.mem_append_left _ (List.mem_append_left _ (List.mem_append_left _ (List.mem_append_left _ (List.mem_append_left _ (List.mem_append_left _ lm4))))))))
  have wd4 := hts (.fieldLink RX1 141 "StoryDesk$Letters" "chars" "[C") (List.mem_cons_of_mem _ (List.mem_append_left _ (List.mem_append_left _ (List.mem_append_left _ (List.mem_append_left _ (List.mem_append_left _ (List.mem_append_left _ (List.mem_append_left _ lm5))))))))
  have wd5 := hts (.fieldLink RX1 79 "StoryDesk$Case" "scenario" "LStoryDesk$Part;") (List.mem_cons_of_mem _ (List.mem_append_left _ (List.mem_append_left _ (List.mem_append_left _ (List.mem_append_left _ (List.mem_append_left _ (List.mem_append_left _ (List.mem_append_left _ lm1))))))))
  have wd6 := hts (.fieldLink RX1 87 "StoryDesk$Case" "values" "LStoryDesk$Row;") (List.mem_cons_of_mem _ (List.mem_append_left _ (List.mem_append_left _ (List.mem_append_left _ (List.mem_append_left _ (List.mem_append_left _ (List.mem_append_left _ (List.mem_append_left _ lm6))))))))
  have wd7 := hts (.fieldLink RX1 130 "StoryDesk$Row" "starts" "[I") (List.mem_cons_of_mem _ (List.mem_append_left _ (List.mem_append_left _ (List.mem_append_left _ (List.mem_append_left _ (List.mem_append_left _ (List.mem_append_left _ (List.mem_append_left _ lm7))))))))
  have wd8 := hts (.fieldLink RX1 134 "StoryDesk$Row" "lengths" "[I") (List.mem_cons_of_mem _ (List.mem_append_left _ (List.mem_append_left _ (List.mem_append_left _ (List.mem_append_left _ (List.mem_append_left _ (List.mem_append_left _ (List.mem_append_left _ lm8))))))))
  have hl : lv_has ls 11 [(0, .ref (g 13)), (1, .ref (g 14)), (2, .ref (g (216 + 1 * j))), (3, .int z), (4, .int x), (5, .int y)] := hl
  have hK : va_K D vwCl (hT ka) s := hK
  have hg_1 := s_rng z
  refine lv_aload_n hx hb dX1_fill_0 rfl (lv_at hl 2 rfl) ?_
  rcases (hPC j (by omega)).2 with ⟨nra_2, nrb_3⟩ | ⟨⟨ra_2, hra_2, era_2⟩, ⟨rb_3, hrb_3, erb_3⟩⟩
  · skip
    refine h_getq (ci := 0) (C := RX0) (F := TX0) (N := 5) hx hb hts in0 hown hK hH (lt_nK (by omega)) (kd_case (by omega) (by omega)) (by decide) rfl 1 (by decide) wd0 (fun _ h9 => h9) (by decide) rfl dX1_fill_1 ?_
    refine sj_v (y := .null) (rq_none nra_2) ?_
    refine lv_ifnullN (tgt := 23) hx hb dX1_fill_4 (by decide) ?_
    refine lv_iconst (v := 0) hx hb dX1_fill_23 (by decide) ?_
    refine lv_istore (lv' := [(6, .int 0), (0, .ref (g 13)), (1, .ref (g 14)), (2, .ref (g (216 + 1 * j))), (3, .int z), (4, .int x), (5, .int y)]) hx hb dX1_fill_24 hl (by decide) rfl (fun ls hl => ?_)
    refine lv_iload hx hb dX1_fill_26 (lv_at hl 5 rfl) ?_
    refine lv_iload hx hb dX1_fill_28 (lv_at hl 6 rfl) ?_
    refine lv_iadd hx hb dX1_fill_30 ?_
    obtain ⟨z_4, ez_4, hz_4⟩ := s_add (rfl : x.toInt = _) (rfl : y.toInt = _) (by omega) (by omega)
    refine sj_i ez_4 ?_
    refine lv_istore (lv' := [(7, .int z_4), (6, .int 0), (0, .ref (g 13)), (1, .ref (g 14)), (2, .ref (g (216 + 1 * j))), (3, .int z), (4, .int x), (5, .int y)]) hx hb dX1_fill_31 hl (by decide) rfl (fun ls hl => ?_)
    refine lv_aload_n hx hb dX1_fill_33 rfl (lv_at hl 3 rfl) ?_
    refine lv_iconst (v := 0) hx hb dX1_fill_34 (by decide) ?_
    have hO_5 := okp hO (n := 14) (k := 1) (v := 0) (show (0 : Int) ≤ (0 : Int32).toInt ∧ (0 : Int32).toInt ≤ 60 from ⟨by decide, by decide⟩)
    refine h_puti (ty := .int) (ci := 3) (C := RX3) (F := TX3) (N := 2) hx hb hts in3 tyX3 tyX3_ok nmX3 hown hK hH hS (by decide) (rfl : kd 14 = 3) (by decide) rfl 1 (by decide) wd1 (fun _ h9 => h9) rfl (by decide +kernel) rfl rfl (by decide) rfl dX1_fill_35 (fun H locs hH hS => ?_)
    refine lv_iload hx hb dX1_fill_38 (lv_at hl 6 rfl) ?_
    refine lv_istore (lv' := [(8, .int x), (7, .int z_4), (6, .int 0), (0, .ref (g 13)), (1, .ref (g 14)), (2, .ref (g (216 + 1 * j))), (3, .int z), (4, .int x), (5, .int y)]) hx hb dX1_fill_40 hl (by decide) rfl (fun ls hl => ?_)
    -- loop at 42
    have lp_6 : ∀ (fuel_lp_6 : Nat) (f : Int32) (j1 : Nat → Nat → Int32) (H : Heap) (locs : List Loc) (ls : Array Slot), (x.toInt + y.toInt - f.toInt).toNat < fuel_lp_6 → (0 : Int) ≤ f.toInt ∧ f.toInt ≤ 600 → OkI j1 → (∀ a, ¬ (a = 14 ∨ a = 15) → j1 a = (up2 i 14 1 0) a) → lv_has ls 11 [(8, .int f), (7, .int z_4), (6, .int 0), (0, .ref (g 13)), (1, .ref (g 14)), (2, .ref (g (216 + 1 * j))), (3, .int z), (4, .int x), (5, .int y)] → sj_H D A (hwc g ka j1 r L d) H → va_S A s.heap H locs → W p l e (headSpec wsX1_fill ({ frames := 1, cells := 0, slots := 0, locals := 26 })).room s m ([.ref (g 13), .ref (g 14), .ref (g (216 + 1 * j)), .int z, .int x, .int y] : List Value).toArray below meth c H locs 0 0 (MQ below (sj_Qv (S := (Nat → Nat → Int32)) D (fun u => OkI u ∧ (∀ a, ¬ (a = 14 ∨ a = 15) → u a = i a)) (fun u => hwc g ka u r L d) (fun _ => []) A) ([.ref (g 13), .ref (g 14), .ref (g (216 + 1 * j)), .int z, .int x, .int y] : List Value).toArray s 0 0 A) (F0 m 42 ls []) := by
      intro fuel_lp_6
      induction fuel_lp_6 with
      | zero => intros; omega
      | succ fuel_lp_6 ih_lp_6 =>
        intro f j1 H locs ls hm hr_f hO_j1 hfr_j1 hl hH hS
        refine lv_iload hx hb dX1_fill_42 (lv_at hl 0 rfl) ?_
        refine lv_iload hx hb dX1_fill_44 (lv_at hl 1 rfl) ?_
        refine lv_icmp_ge (tgt := 164) hx hb dX1_fill_46 (by decide) (fun c_7 => ?_) (fun c_7 => ?_)
        · skip
          have h_8 := s_le (rfl : z_4.toInt = _) (rfl : f.toInt = _) c_7
          exact sj_vret hx hb hr hlocks hS j1 ⟨hO_j1, (fun a ha => ((hfr_j1 a (by omega)).trans (up2_n _ _ (by omega))))⟩ hH (sj_Knil hK) (Nat.le_of_ble_eq_true rfl) (Nat.le_of_ble_eq_true rfl) dX1_fill_164
        · skip
          have h_9 := s_nle (rfl : z_4.toInt = _) (rfl : f.toInt = _) c_7
          refine lv_aload_n hx hb dX1_fill_49 rfl (lv_at hl 3 rfl) ?_
          refine h_getr (ci := 1) (C := RX1) (F := TX1) (N := 5) hx hb hts in1 hown hK hH (by decide) (rfl : kd 13 = 1) (by decide) rfl 0 (by decide) wd2 (fun _ h9 => h9) (by decide) rfl (t := 3) (hR 13 0 rfl) (by decide) dX1_fill_50 ?_
          refine h_getr (ci := 5) (C := RX5) (F := TX5) (N := 19) hx hb hts in5 hown hK hH (by decide) (rfl : kd 3 = 5) (by decide) rfl 0 (by decide) wd3 (fun _ h9 => h9) (by decide) rfl (t := 4) (hR 3 0 rfl) (by decide) dX1_fill_53 ?_
          refine h_getr (ci := 3) (C := RX3) (F := TX3) (N := 2) hx hb hts in3 hown hK hH (by decide) (rfl : kd 4 = 3) (by decide) rfl 0 (by decide) wd4 (fun _ h9 => h9) (by decide) rfl (t := 5) (hR 4 0 rfl) (by decide) dX1_fill_56 ?_
          refine lv_iload hx hb dX1_fill_59 (lv_at hl 0 rfl) ?_
          have bx_10 : (0 : Int) ≤ (i 5 (f.toInt).toNat).toInt ∧ (i 5 (f.toInt).toNat).toInt ≤ 65535 := hO 5 (f.toInt).toNat
          refine h_cald hx hb hK hH (by decide) (rfl : kd 5 = 14) (s_vin (N := 480) (rfl : f.toInt = _) (rfl : ln 5 = 480) (by omega) (by omega)) dX1_fill_61 ?_
          have ek_11 : f.toNatClampNeg = (f.toInt).toNat := (s_cl (show f.toInt = f.toInt by omega))
          refine sj_i (y := (i 5 (f.toInt).toNat)) (by rw [ek_11]; exact ((congrFun (hfr_j1 5 (by omega)) _).trans (congrFun (up2_n _ _ (by decide)) _))) ?_
          refine lv_istore (lv' := [(9, .int (i 5 (f.toInt).toNat)), (8, .int f), (7, .int z_4), (6, .int 0), (0, .ref (g 13)), (1, .ref (g 14)), (2, .ref (g (216 + 1 * j))), (3, .int z), (4, .int x), (5, .int y)]) hx hb dX1_fill_62 hl (by decide) rfl (fun ls hl => ?_)
          refine lv_iload hx hb dX1_fill_64 (lv_at hl 3 rfl) ?_
          refine lv_if_eq (tgt := 93) hx hb dX1_fill_66 (by decide) (fun _ => ?_) (fun h => absurd (by decide) h)
          refine lv_iconst (v := (-1)) hx hb dX1_fill_93 (by decide) ?_
          refine lv_istore (lv' := [(10, .int (-1)), (9, .int (i 5 (f.toInt).toNat)), (8, .int f), (7, .int z_4), (6, .int 0), (0, .ref (g 13)), (1, .ref (g 14)), (2, .ref (g (216 + 1 * j))), (3, .int z), (4, .int x), (5, .int y)]) hx hb dX1_fill_94 hl (by decide) rfl (fun ls hl => ?_)
          refine lv_iload hx hb dX1_fill_96 (lv_at hl 0 rfl) ?_
          refine lv_if_ge (tgt := 113) hx hb dX1_fill_98 (by decide) (fun h => absurd h (by decide)) (fun _ => ?_)
          refine lv_aload_n hx hb dX1_fill_101 rfl (lv_at hl 6 rfl) ?_
          refine lv_iload hx hb dX1_fill_102 (lv_at hl 1 rfl) ?_
          refine x_callv (va_runV (As := [.int (i 5 (f.toInt).toNat)]) (rest := []) ⟨hx, hb, hml, hown, hts⟩ (k_add_stepText l D g ka ad j1 r L d (i 5 (f.toInt).toNat) hO_j1 hR H.size ) (cwV 1 hts gX1_fill_X3_add rfl rfl rfl (by decide +kernel) ⟨(Nat.le_of_ble_eq_true rfl), (Nat.le_of_ble_eq_true rfl)⟩) (x_preV (q := (RX3, TX3, 2)) hH hK (q_obj (by decide) (rfl : kd 14 = 3) (by decide)) rfl gxb (gxw hE hS (x_F hH hS hA))) rfl rfl hl.1 rfl (lv_room (Nat.le_of_ble_eq_true rfl)) dX1_fill_104 ⟨(Nat.le_of_ble_eq_true rfl), (Nat.le_of_ble_eq_true rfl)⟩) hH hS hA rfl rfl (fun im_14 H locs hw_13 hH hS => ?_)
          have hH : sj_H D A (hwc g ka im_14 r L d) H := hH
          obtain ⟨hO_16, hfr_15⟩ := hw_13
          obtain ⟨z_17, ez_17, hz_17⟩ := s_add (rfl : f.toInt = _) (show (1 : Int32).toInt = 1 from rfl) (by omega) (by omega)
          refine lv_iinc (v := z_17) (lv' := [(8, .int z_17), (10, .int (-1)), (9, .int (i 5 (f.toInt).toNat)), (7, .int z_4), (6, .int 0), (0, .ref (g 13)), (1, .ref (g 14)), (2, .ref (g (216 + 1 * j))), (3, .int z), (4, .int x), (5, .int y)]) hx hb dX1_fill_107 hl (k := 2) rfl ez_17 (by decide) rfl (fun ls hl => ?_)
          refine lv_goto (tgt := 161) hx hb dX1_fill_110 (by decide) ?_
          refine lv_goto (tgt := 42) hx hb dX1_fill_161 (by decide) ?_
          exact ih_lp_6 z_17 _ _ _ ls (by omega) (by omega) hO_16 (fun a ha => ((hfr_15 a (by omega)).trans (hfr_j1 a (by omega)))) (lv_sub hl [0, 3, 4, 5, 6, 7, 8, 9, 10] rfl) hH hS
    exact lp_6 _ x _ _ _ ls (Nat.lt_succ_self _) (by omega) hO_5 (fun a ha => rfl) (lv_sub hl [0, 1, 2, 3, 4, 5, 6, 7, 8] rfl) hH hS
  · skip
    refine h_getr (ci := 0) (C := RX0) (F := TX0) (N := 5) hx hb hts in0 hown hK hH (lt_nK (by omega)) (kd_case (by omega) (by omega)) (by decide) rfl 1 (by decide) wd0 (fun _ h9 => h9) (by decide) rfl (t := (96 + 3 * ra_2)) era_2 (lt_nK (by omega)) dX1_fill_1 ?_
    refine lv_ifnull hx hb dX1_fill_4 ?_
    refine lv_iload_n hx hb dX1_fill_7 rfl (lv_at hl 3 rfl) ?_
    refine lv_aload_n hx hb dX1_fill_8 rfl (lv_at hl 0 rfl) ?_
    refine lv_aload_n hx hb dX1_fill_9 rfl (lv_at hl 2 rfl) ?_
    obtain ⟨q_18, eq_18, hq_18a, hq_18b⟩ : ∃ q, r (216 + 1 * j) 0 = q ∧ 42 ≤ q ∧ q < 54 := ⟨_, rfl, (hPC j (by omega)).1 (by omega)⟩
    have pb_19 := bxp hO (p := q_18) (by omega) (by omega)
    refine h_getr (ci := 0) (C := RX0) (F := TX0) (N := 5) hx hb hts in0 hown hK hH (lt_nK (by omega)) (kd_case (by omega) (by omega)) (by decide) rfl 0 (by decide) wd5 (fun _ h9 => h9) (by decide) rfl (t := q_18) eq_18 (lt_nK (by omega)) dX1_fill_10 ?_
    have pb_20 := bxp hO (p := q_18) (by omega) (by omega)
    refine x_calli (va_runV (As := [.ref (g q_18)]) (rest := [.int z]) ⟨hx, hb, hml, hown, hts⟩ (k_bgc l D g ka ad i r L d q_18 hO hR s.heap.size (by first | omega | decide) (by first | omega | decide)) (cwV 1 hts gX1_fill_X1_backgroundCount rfl rfl rfl (by decide +kernel) ⟨(Nat.le_of_ble_eq_true rfl), (Nat.le_of_ble_eq_true rfl)⟩) (x_preV (q := (RX1, TX1, 5)) hH hK (q_obj (by decide) (rfl : kd 13 = 1) (by decide)) rfl gxb (gxw hE hS (x_F hH hS hA))) rfl rfl hl.1 rfl (lv_room (Nat.le_of_ble_eq_true rfl)) dX1_fill_13 ⟨(Nat.le_of_ble_eq_true rfl), (Nat.le_of_ble_eq_true rfl)⟩) hH hS hA rfl rfl (fun r_21 _ H locs hw_22 hH hS => ?_)
    obtain ⟨hr_24, he_25⟩ := hw_22
    have hr_24 : (0 : Int) ≤ r_21.toInt ∧ r_21.toInt ≤ 80 := hr_24
    refine lv_icmp_lt (tgt := 23) hx hb dX1_fill_16 (by decide) (fun c_26 => ?_) (fun c_26 => ?_)
    · skip
      have h_27 := s_lt (rfl : z.toInt = _) (rfl : r_21.toInt = _) c_26
      refine lv_iconst (v := 0) hx hb dX1_fill_23 (by decide) ?_
      refine lv_istore (lv' := [(6, .int 0), (0, .ref (g 13)), (1, .ref (g 14)), (2, .ref (g (216 + 1 * j))), (3, .int z), (4, .int x), (5, .int y)]) hx hb dX1_fill_24 hl (by decide) rfl (fun ls hl => ?_)
      refine lv_iload hx hb dX1_fill_26 (lv_at hl 5 rfl) ?_
      refine lv_iload hx hb dX1_fill_28 (lv_at hl 6 rfl) ?_
      refine lv_iadd hx hb dX1_fill_30 ?_
      obtain ⟨z_28, ez_28, hz_28⟩ := s_add (rfl : x.toInt = _) (rfl : y.toInt = _) (by omega) (by omega)
      refine sj_i ez_28 ?_
      refine lv_istore (lv' := [(7, .int z_28), (6, .int 0), (0, .ref (g 13)), (1, .ref (g 14)), (2, .ref (g (216 + 1 * j))), (3, .int z), (4, .int x), (5, .int y)]) hx hb dX1_fill_31 hl (by decide) rfl (fun ls hl => ?_)
      refine lv_aload_n hx hb dX1_fill_33 rfl (lv_at hl 3 rfl) ?_
      refine lv_iconst (v := 0) hx hb dX1_fill_34 (by decide) ?_
      have hO_29 := okp hO (n := 14) (k := 1) (v := 0) (show (0 : Int) ≤ (0 : Int32).toInt ∧ (0 : Int32).toInt ≤ 60 from ⟨by decide, by decide⟩)
      refine h_puti (ty := .int) (ci := 3) (C := RX3) (F := TX3) (N := 2) hx hb hts in3 tyX3 tyX3_ok nmX3 hown hK hH hS (by decide) (rfl : kd 14 = 3) (by decide) rfl 1 (by decide) wd1 (fun _ h9 => h9) rfl (by decide +kernel) rfl rfl (by decide) rfl dX1_fill_35 (fun H locs hH hS => ?_)
      refine lv_iload hx hb dX1_fill_38 (lv_at hl 6 rfl) ?_
      refine lv_istore (lv' := [(8, .int x), (7, .int z_28), (6, .int 0), (0, .ref (g 13)), (1, .ref (g 14)), (2, .ref (g (216 + 1 * j))), (3, .int z), (4, .int x), (5, .int y)]) hx hb dX1_fill_40 hl (by decide) rfl (fun ls hl => ?_)
      -- loop at 42
      have lp_30 : ∀ (fuel_lp_30 : Nat) (f : Int32) (j1 : Nat → Nat → Int32) (H : Heap) (locs : List Loc) (ls : Array Slot), (x.toInt + y.toInt - f.toInt).toNat < fuel_lp_30 → (0 : Int) ≤ f.toInt ∧ f.toInt ≤ 600 → OkI j1 → (∀ a, ¬ (a = 14 ∨ a = 15) → j1 a = (up2 i 14 1 0) a) → lv_has ls 11 [(8, .int f), (7, .int z_28), (6, .int 0), (0, .ref (g 13)), (1, .ref (g 14)), (2, .ref (g (216 + 1 * j))), (3, .int z), (4, .int x), (5, .int y)] → sj_H D A (hwc g ka j1 r L d) H → va_S A s.heap H locs → W p l e (headSpec wsX1_fill ({ frames := 1, cells := 0, slots := 0, locals := 26 })).room s m ([.ref (g 13), .ref (g 14), .ref (g (216 + 1 * j)), .int z, .int x, .int y] : List Value).toArray below meth c H locs 0 0 (MQ below (sj_Qv (S := (Nat → Nat → Int32)) D (fun u => OkI u ∧ (∀ a, ¬ (a = 14 ∨ a = 15) → u a = i a)) (fun u => hwc g ka u r L d) (fun _ => []) A) ([.ref (g 13), .ref (g 14), .ref (g (216 + 1 * j)), .int z, .int x, .int y] : List Value).toArray s 0 0 A) (F0 m 42 ls []) := by
        intro fuel_lp_30
        induction fuel_lp_30 with
        | zero => intros; omega
        | succ fuel_lp_30 ih_lp_30 =>
          intro f j1 H locs ls hm hr_f hO_j1 hfr_j1 hl hH hS
          refine lv_iload hx hb dX1_fill_42 (lv_at hl 0 rfl) ?_
          refine lv_iload hx hb dX1_fill_44 (lv_at hl 1 rfl) ?_
          refine lv_icmp_ge (tgt := 164) hx hb dX1_fill_46 (by decide) (fun c_31 => ?_) (fun c_31 => ?_)
          · skip
            have h_32 := s_le (rfl : z_28.toInt = _) (rfl : f.toInt = _) c_31
            exact sj_vret hx hb hr hlocks hS j1 ⟨hO_j1, (fun a ha => ((hfr_j1 a (by omega)).trans (up2_n _ _ (by omega))))⟩ hH (sj_Knil hK) (Nat.le_of_ble_eq_true rfl) (Nat.le_of_ble_eq_true rfl) dX1_fill_164
          · skip
            have h_33 := s_nle (rfl : z_28.toInt = _) (rfl : f.toInt = _) c_31
            refine lv_aload_n hx hb dX1_fill_49 rfl (lv_at hl 3 rfl) ?_
            refine h_getr (ci := 1) (C := RX1) (F := TX1) (N := 5) hx hb hts in1 hown hK hH (by decide) (rfl : kd 13 = 1) (by decide) rfl 0 (by decide) wd2 (fun _ h9 => h9) (by decide) rfl (t := 3) (hR 13 0 rfl) (by decide) dX1_fill_50 ?_
            refine h_getr (ci := 5) (C := RX5) (F := TX5) (N := 19) hx hb hts in5 hown hK hH (by decide) (rfl : kd 3 = 5) (by decide) rfl 0 (by decide) wd3 (fun _ h9 => h9) (by decide) rfl (t := 4) (hR 3 0 rfl) (by decide) dX1_fill_53 ?_
            refine h_getr (ci := 3) (C := RX3) (F := TX3) (N := 2) hx hb hts in3 hown hK hH (by decide) (rfl : kd 4 = 3) (by decide) rfl 0 (by decide) wd4 (fun _ h9 => h9) (by decide) rfl (t := 5) (hR 4 0 rfl) (by decide) dX1_fill_56 ?_
            refine lv_iload hx hb dX1_fill_59 (lv_at hl 0 rfl) ?_
            have bx_34 : (0 : Int) ≤ (i 5 (f.toInt).toNat).toInt ∧ (i 5 (f.toInt).toNat).toInt ≤ 65535 := hO 5 (f.toInt).toNat
            refine h_cald hx hb hK hH (by decide) (rfl : kd 5 = 14) (s_vin (N := 480) (rfl : f.toInt = _) (rfl : ln 5 = 480) (by omega) (by omega)) dX1_fill_61 ?_
            have ek_35 : f.toNatClampNeg = (f.toInt).toNat := (s_cl (show f.toInt = f.toInt by omega))
            refine sj_i (y := (i 5 (f.toInt).toNat)) (by rw [ek_35]; exact ((congrFun (hfr_j1 5 (by omega)) _).trans (congrFun (up2_n _ _ (by decide)) _))) ?_
            refine lv_istore (lv' := [(9, .int (i 5 (f.toInt).toNat)), (8, .int f), (7, .int z_28), (6, .int 0), (0, .ref (g 13)), (1, .ref (g 14)), (2, .ref (g (216 + 1 * j))), (3, .int z), (4, .int x), (5, .int y)]) hx hb dX1_fill_62 hl (by decide) rfl (fun ls hl => ?_)
            refine lv_iload hx hb dX1_fill_64 (lv_at hl 3 rfl) ?_
            refine lv_if_eq (tgt := 93) hx hb dX1_fill_66 (by decide) (fun _ => ?_) (fun h => absurd (by decide) h)
            refine lv_iconst (v := (-1)) hx hb dX1_fill_93 (by decide) ?_
            refine lv_istore (lv' := [(10, .int (-1)), (9, .int (i 5 (f.toInt).toNat)), (8, .int f), (7, .int z_28), (6, .int 0), (0, .ref (g 13)), (1, .ref (g 14)), (2, .ref (g (216 + 1 * j))), (3, .int z), (4, .int x), (5, .int y)]) hx hb dX1_fill_94 hl (by decide) rfl (fun ls hl => ?_)
            refine lv_iload hx hb dX1_fill_96 (lv_at hl 0 rfl) ?_
            refine lv_if_ge (tgt := 113) hx hb dX1_fill_98 (by decide) (fun h => absurd h (by decide)) (fun _ => ?_)
            refine lv_aload_n hx hb dX1_fill_101 rfl (lv_at hl 6 rfl) ?_
            refine lv_iload hx hb dX1_fill_102 (lv_at hl 1 rfl) ?_
            refine x_callv (va_runV (As := [.int (i 5 (f.toInt).toNat)]) (rest := []) ⟨hx, hb, hml, hown, hts⟩ (k_add_stepText l D g ka ad j1 r L d (i 5 (f.toInt).toNat) hO_j1 hR H.size ) (cwV 1 hts gX1_fill_X3_add rfl rfl rfl (by decide +kernel) ⟨(Nat.le_of_ble_eq_true rfl), (Nat.le_of_ble_eq_true rfl)⟩) (x_preV (q := (RX3, TX3, 2)) hH hK (q_obj (by decide) (rfl : kd 14 = 3) (by decide)) rfl gxb (gxw hE hS (x_F hH hS hA))) rfl rfl hl.1 rfl (lv_room (Nat.le_of_ble_eq_true rfl)) dX1_fill_104 ⟨(Nat.le_of_ble_eq_true rfl), (Nat.le_of_ble_eq_true rfl)⟩) hH hS hA rfl rfl (fun im_38 H locs hw_37 hH hS => ?_)
            have hH : sj_H D A (hwc g ka im_38 r L d) H := hH
            obtain ⟨hO_40, hfr_39⟩ := hw_37
            obtain ⟨z_41, ez_41, hz_41⟩ := s_add (rfl : f.toInt = _) (show (1 : Int32).toInt = 1 from rfl) (by omega) (by omega)
            refine lv_iinc (v := z_41) (lv' := [(8, .int z_41), (10, .int (-1)), (9, .int (i 5 (f.toInt).toNat)), (7, .int z_28), (6, .int 0), (0, .ref (g 13)), (1, .ref (g 14)), (2, .ref (g (216 + 1 * j))), (3, .int z), (4, .int x), (5, .int y)]) hx hb dX1_fill_107 hl (k := 2) rfl ez_41 (by decide) rfl (fun ls hl => ?_)
            refine lv_goto (tgt := 161) hx hb dX1_fill_110 (by decide) ?_
            refine lv_goto (tgt := 42) hx hb dX1_fill_161 (by decide) ?_
            exact ih_lp_30 z_41 _ _ _ ls (by omega) (by omega) hO_40 (fun a ha => ((hfr_39 a (by omega)).trans (hfr_j1 a (by omega)))) (lv_sub hl [0, 3, 4, 5, 6, 7, 8, 9, 10] rfl) hH hS
      exact lp_30 _ x _ _ _ ls (Nat.lt_succ_self _) (by omega) hO_29 (fun a ha => rfl) (lv_sub hl [0, 1, 2, 3, 4, 5, 6, 7, 8] rfl) hH hS
    · skip
      have h_42 := s_nlt (rfl : z.toInt = _) (rfl : r_21.toInt = _) c_26
      refine lv_iconst (v := 1) hx hb dX1_fill_19 (by decide) ?_
      refine lv_goto (tgt := 24) hx hb dX1_fill_20 (by decide) ?_
      refine lv_istore (lv' := [(6, .int 1), (0, .ref (g 13)), (1, .ref (g 14)), (2, .ref (g (216 + 1 * j))), (3, .int z), (4, .int x), (5, .int y)]) hx hb dX1_fill_24 hl (by decide) rfl (fun ls hl => ?_)
      refine lv_iload hx hb dX1_fill_26 (lv_at hl 5 rfl) ?_
      refine lv_iload hx hb dX1_fill_28 (lv_at hl 6 rfl) ?_
      refine lv_iadd hx hb dX1_fill_30 ?_
      obtain ⟨z_43, ez_43, hz_43⟩ := s_add (rfl : x.toInt = _) (rfl : y.toInt = _) (by omega) (by omega)
      refine sj_i ez_43 ?_
      refine lv_istore (lv' := [(7, .int z_43), (6, .int 1), (0, .ref (g 13)), (1, .ref (g 14)), (2, .ref (g (216 + 1 * j))), (3, .int z), (4, .int x), (5, .int y)]) hx hb dX1_fill_31 hl (by decide) rfl (fun ls hl => ?_)
      refine lv_aload_n hx hb dX1_fill_33 rfl (lv_at hl 3 rfl) ?_
      refine lv_iconst (v := 0) hx hb dX1_fill_34 (by decide) ?_
      have hO_44 := okp hO (n := 14) (k := 1) (v := 0) (show (0 : Int) ≤ (0 : Int32).toInt ∧ (0 : Int32).toInt ≤ 60 from ⟨by decide, by decide⟩)
      refine h_puti (ty := .int) (ci := 3) (C := RX3) (F := TX3) (N := 2) hx hb hts in3 tyX3 tyX3_ok nmX3 hown hK hH hS (by decide) (rfl : kd 14 = 3) (by decide) rfl 1 (by decide) wd1 (fun _ h9 => h9) rfl (by decide +kernel) rfl rfl (by decide) rfl dX1_fill_35 (fun H locs hH hS => ?_)
      refine lv_iload hx hb dX1_fill_38 (lv_at hl 6 rfl) ?_
      refine lv_istore (lv' := [(8, .int x), (7, .int z_43), (6, .int 1), (0, .ref (g 13)), (1, .ref (g 14)), (2, .ref (g (216 + 1 * j))), (3, .int z), (4, .int x), (5, .int y)]) hx hb dX1_fill_40 hl (by decide) rfl (fun ls hl => ?_)
      -- loop at 42
      have lp_45 : ∀ (fuel_lp_45 : Nat) (f : Int32) (j1 : Nat → Nat → Int32) (H : Heap) (locs : List Loc) (ls : Array Slot), (x.toInt + y.toInt - f.toInt).toNat < fuel_lp_45 → (0 : Int) ≤ f.toInt ∧ f.toInt ≤ 600 → OkI j1 → (∀ a, ¬ (a = 14 ∨ a = 15) → j1 a = (up2 i 14 1 0) a) → lv_has ls 11 [(8, .int f), (7, .int z_43), (6, .int 1), (0, .ref (g 13)), (1, .ref (g 14)), (2, .ref (g (216 + 1 * j))), (3, .int z), (4, .int x), (5, .int y)] → sj_H D A (hwc g ka j1 r L d) H → va_S A s.heap H locs → W p l e (headSpec wsX1_fill ({ frames := 1, cells := 0, slots := 0, locals := 26 })).room s m ([.ref (g 13), .ref (g 14), .ref (g (216 + 1 * j)), .int z, .int x, .int y] : List Value).toArray below meth c H locs 0 0 (MQ below (sj_Qv (S := (Nat → Nat → Int32)) D (fun u => OkI u ∧ (∀ a, ¬ (a = 14 ∨ a = 15) → u a = i a)) (fun u => hwc g ka u r L d) (fun _ => []) A) ([.ref (g 13), .ref (g 14), .ref (g (216 + 1 * j)), .int z, .int x, .int y] : List Value).toArray s 0 0 A) (F0 m 42 ls []) := by
        intro fuel_lp_45
        induction fuel_lp_45 with
        | zero => intros; omega
        | succ fuel_lp_45 ih_lp_45 =>
          intro f j1 H locs ls hm hr_f hO_j1 hfr_j1 hl hH hS
          refine lv_iload hx hb dX1_fill_42 (lv_at hl 0 rfl) ?_
          refine lv_iload hx hb dX1_fill_44 (lv_at hl 1 rfl) ?_
          refine lv_icmp_ge (tgt := 164) hx hb dX1_fill_46 (by decide) (fun c_46 => ?_) (fun c_46 => ?_)
          · skip
            have h_47 := s_le (rfl : z_43.toInt = _) (rfl : f.toInt = _) c_46
            exact sj_vret hx hb hr hlocks hS j1 ⟨hO_j1, (fun a ha => ((hfr_j1 a (by omega)).trans (up2_n _ _ (by omega))))⟩ hH (sj_Knil hK) (Nat.le_of_ble_eq_true rfl) (Nat.le_of_ble_eq_true rfl) dX1_fill_164
          · skip
            have h_48 := s_nle (rfl : z_43.toInt = _) (rfl : f.toInt = _) c_46
            refine lv_aload_n hx hb dX1_fill_49 rfl (lv_at hl 3 rfl) ?_
            refine h_getr (ci := 1) (C := RX1) (F := TX1) (N := 5) hx hb hts in1 hown hK hH (by decide) (rfl : kd 13 = 1) (by decide) rfl 0 (by decide) wd2 (fun _ h9 => h9) (by decide) rfl (t := 3) (hR 13 0 rfl) (by decide) dX1_fill_50 ?_
            refine h_getr (ci := 5) (C := RX5) (F := TX5) (N := 19) hx hb hts in5 hown hK hH (by decide) (rfl : kd 3 = 5) (by decide) rfl 0 (by decide) wd3 (fun _ h9 => h9) (by decide) rfl (t := 4) (hR 3 0 rfl) (by decide) dX1_fill_53 ?_
            refine h_getr (ci := 3) (C := RX3) (F := TX3) (N := 2) hx hb hts in3 hown hK hH (by decide) (rfl : kd 4 = 3) (by decide) rfl 0 (by decide) wd4 (fun _ h9 => h9) (by decide) rfl (t := 5) (hR 4 0 rfl) (by decide) dX1_fill_56 ?_
            refine lv_iload hx hb dX1_fill_59 (lv_at hl 0 rfl) ?_
            have bx_49 : (0 : Int) ≤ (i 5 (f.toInt).toNat).toInt ∧ (i 5 (f.toInt).toNat).toInt ≤ 65535 := hO 5 (f.toInt).toNat
            refine h_cald hx hb hK hH (by decide) (rfl : kd 5 = 14) (s_vin (N := 480) (rfl : f.toInt = _) (rfl : ln 5 = 480) (by omega) (by omega)) dX1_fill_61 ?_
            have ek_50 : f.toNatClampNeg = (f.toInt).toNat := (s_cl (show f.toInt = f.toInt by omega))
            refine sj_i (y := (i 5 (f.toInt).toNat)) (by rw [ek_50]; exact ((congrFun (hfr_j1 5 (by omega)) _).trans (congrFun (up2_n _ _ (by decide)) _))) ?_
            refine lv_istore (lv' := [(9, .int (i 5 (f.toInt).toNat)), (8, .int f), (7, .int z_43), (6, .int 1), (0, .ref (g 13)), (1, .ref (g 14)), (2, .ref (g (216 + 1 * j))), (3, .int z), (4, .int x), (5, .int y)]) hx hb dX1_fill_62 hl (by decide) rfl (fun ls hl => ?_)
            refine lv_iload hx hb dX1_fill_64 (lv_at hl 3 rfl) ?_
            refine lv_if_eq (tgt := 93) hx hb dX1_fill_66 (by decide) (fun h => absurd h (by decide)) (fun _ => ?_)
            refine lv_iload hx hb dX1_fill_69 (lv_at hl 0 rfl) ?_
            refine lv_bipush (v := 60) hx hb dX1_fill_71 (by decide) ?_
            refine lv_icmp_ne (tgt := 93) hx hb dX1_fill_73 (by decide) (fun c_51 => ?_) (fun c_51 => ?_)
            · skip
              have h_52 := s_ne (rfl : (i 5 (f.toInt).toNat).toInt = _) (show (60 : Int32).toInt = 60 from rfl) c_51
              refine lv_iconst (v := (-1)) hx hb dX1_fill_93 (by decide) ?_
              refine lv_istore (lv' := [(10, .int (-1)), (9, .int (i 5 (f.toInt).toNat)), (8, .int f), (7, .int z_43), (6, .int 1), (0, .ref (g 13)), (1, .ref (g 14)), (2, .ref (g (216 + 1 * j))), (3, .int z), (4, .int x), (5, .int y)]) hx hb dX1_fill_94 hl (by decide) rfl (fun ls hl => ?_)
              refine lv_iload hx hb dX1_fill_96 (lv_at hl 0 rfl) ?_
              refine lv_if_ge (tgt := 113) hx hb dX1_fill_98 (by decide) (fun h => absurd h (by decide)) (fun _ => ?_)
              refine lv_aload_n hx hb dX1_fill_101 rfl (lv_at hl 6 rfl) ?_
              refine lv_iload hx hb dX1_fill_102 (lv_at hl 1 rfl) ?_
              refine x_callv (va_runV (As := [.int (i 5 (f.toInt).toNat)]) (rest := []) ⟨hx, hb, hml, hown, hts⟩ (k_add_stepText l D g ka ad j1 r L d (i 5 (f.toInt).toNat) hO_j1 hR H.size ) (cwV 1 hts gX1_fill_X3_add rfl rfl rfl (by decide +kernel) ⟨(Nat.le_of_ble_eq_true rfl), (Nat.le_of_ble_eq_true rfl)⟩) (x_preV (q := (RX3, TX3, 2)) hH hK (q_obj (by decide) (rfl : kd 14 = 3) (by decide)) rfl gxb (gxw hE hS (x_F hH hS hA))) rfl rfl hl.1 rfl (lv_room (Nat.le_of_ble_eq_true rfl)) dX1_fill_104 ⟨(Nat.le_of_ble_eq_true rfl), (Nat.le_of_ble_eq_true rfl)⟩) hH hS hA rfl rfl (fun im_55 H locs hw_54 hH hS => ?_)
              have hH : sj_H D A (hwc g ka im_55 r L d) H := hH
              obtain ⟨hO_57, hfr_56⟩ := hw_54
              obtain ⟨z_58, ez_58, hz_58⟩ := s_add (rfl : f.toInt = _) (show (1 : Int32).toInt = 1 from rfl) (by omega) (by omega)
              refine lv_iinc (v := z_58) (lv' := [(8, .int z_58), (10, .int (-1)), (9, .int (i 5 (f.toInt).toNat)), (7, .int z_43), (6, .int 1), (0, .ref (g 13)), (1, .ref (g 14)), (2, .ref (g (216 + 1 * j))), (3, .int z), (4, .int x), (5, .int y)]) hx hb dX1_fill_107 hl (k := 2) rfl ez_58 (by decide) rfl (fun ls hl => ?_)
              refine lv_goto (tgt := 161) hx hb dX1_fill_110 (by decide) ?_
              refine lv_goto (tgt := 42) hx hb dX1_fill_161 (by decide) ?_
              exact ih_lp_45 z_58 _ _ _ ls (by omega) (by omega) hO_57 (fun a ha => ((hfr_56 a (by omega)).trans (hfr_j1 a (by omega)))) (lv_sub hl [0, 3, 4, 5, 6, 7, 8, 9, 10] rfl) hH hS
            · skip
              have h_59 := s_eq (rfl : (i 5 (f.toInt).toNat).toInt = _) (show (60 : Int32).toInt = 60 from rfl) c_51
              refine lv_aload_n hx hb dX1_fill_76 rfl (lv_at hl 4 rfl) ?_
              refine lv_aload_n hx hb dX1_fill_77 rfl (lv_at hl 6 rfl) ?_
              refine h_getr (ci := 0) (C := RX0) (F := TX0) (N := 5) hx hb hts in0 hown hK hH (lt_nK (by omega)) (kd_case (by omega) (by omega)) (by decide) rfl 1 (by decide) wd0 (fun _ h9 => h9) (by decide) rfl (t := (96 + 3 * ra_2)) era_2 (lt_nK (by omega)) dX1_fill_78 ?_
              refine lv_iload hx hb dX1_fill_81 (lv_at hl 1 rfl) ?_
              refine lv_iconst (v := 1) hx hb dX1_fill_83 (by decide) ?_
              refine lv_iadd hx hb dX1_fill_84 ?_
              obtain ⟨z_60, ez_60, hz_60⟩ := s_add (rfl : f.toInt = _) (show (1 : Int32).toInt = 1 from rfl) (by omega) (by omega)
              refine sj_i ez_60 ?_
              refine lv_iload hx hb dX1_fill_85 (lv_at hl 2 rfl) ?_
              refine x_calli (va_runV (As := [.ref (g (96 + 3 * ra_2)), .int z_60, .int z_43]) (rest := []) ⟨hx, hb, hml, hown, hts⟩ (k_nameAt l D g ka ad j1 r L d ra_2 z_60 z_43 hO_j1 hR H.size (PW_fr hPW (fun a ha => ((hfr_j1 a (by omega)).trans (up2_n _ _ (by omega))))) (by first | omega | decide) (by first | omega | decide) (by first | omega | decide) (by first | omega | decide) (by first | omega | decide)) (cwV 3 hts gX1_fill_X1_nameAt rfl rfl rfl (by decide +kernel) ⟨(Nat.le_of_ble_eq_true rfl), (Nat.le_of_ble_eq_true rfl)⟩) (x_preV (q := (RX1, TX1, 5)) hH hK (q_obj (by decide) (rfl : kd 13 = 1) (by decide)) rfl gxb (gxw hE hS (x_F hH hS hA))) rfl rfl hl.1 rfl (lv_room (Nat.le_of_ble_eq_true rfl)) dX1_fill_87 ⟨(Nat.le_of_ble_eq_true rfl), (Nat.le_of_ble_eq_true rfl)⟩) hH hS hA rfl rfl (fun r_61 _ H locs hw_62 hH hS => ?_)
              have hr_64 := hw_62
              have hr_64 : (-1 : Int) ≤ r_61.toInt ∧ r_61.toInt ≤ 3 := hr_64
              refine lv_goto (tgt := 94) hx hb dX1_fill_90 (by decide) ?_
              refine lv_istore (lv' := [(10, .int r_61), (9, .int (i 5 (f.toInt).toNat)), (8, .int f), (7, .int z_43), (6, .int 1), (0, .ref (g 13)), (1, .ref (g 14)), (2, .ref (g (216 + 1 * j))), (3, .int z), (4, .int x), (5, .int y)]) hx hb dX1_fill_94 hl (by decide) rfl (fun ls hl => ?_)
              refine lv_iload hx hb dX1_fill_96 (lv_at hl 0 rfl) ?_
              refine lv_if_ge (tgt := 113) hx hb dX1_fill_98 (by decide) (fun c_65 => ?_) (fun c_65 => ?_)
              · skip
                have h_66 := s_le (show (0 : Int32).toInt = 0 from rfl) (rfl : r_61.toInt = _) c_65
                refine lv_aload_n hx hb dX1_fill_113 rfl (lv_at hl 6 rfl) ?_
                refine lv_aload_n hx hb dX1_fill_114 rfl (lv_at hl 5 rfl) ?_
                refine h_getr (ci := 1) (C := RX1) (F := TX1) (N := 5) hx hb hts in1 hown hK hH (by decide) (rfl : kd 13 = 1) (by decide) rfl 0 (by decide) wd2 (fun _ h9 => h9) (by decide) rfl (t := 3) (hR 13 0 rfl) (by decide) dX1_fill_115 ?_
                refine h_getr (ci := 5) (C := RX5) (F := TX5) (N := 19) hx hb hts in5 hown hK hH (by decide) (rfl : kd 3 = 5) (by decide) rfl 0 (by decide) wd3 (fun _ h9 => h9) (by decide) rfl (t := 4) (hR 3 0 rfl) (by decide) dX1_fill_118 ?_
                refine lv_aload_n hx hb dX1_fill_121 rfl (lv_at hl 7 rfl) ?_
                refine h_getr (ci := 0) (C := RX0) (F := TX0) (N := 5) hx hb hts in0 hown hK hH (lt_nK (by omega)) (kd_case (by omega) (by omega)) (by decide) rfl 2 (by decide) wd6 (fun _ h9 => h9) (by decide) rfl (t := (96 + 3 * rb_3)) erb_3 (lt_nK (by omega)) dX1_fill_122 ?_
                refine h_getr (ci := 6) (C := RX6) (F := TX6) (N := 4) hx hb hts in6 hown hK hH (lt_nK (by omega)) (kd_row hrb_3) (by decide) rfl 0 (by decide) wd7 (fun _ h9 => h9) (by decide) rfl (t := (96 + 3 * rb_3 + 1)) ((hR _ _ (by unfold dyn; simp <;> omega)).trans (sr_mid (by omega) (by omega))) (lt_nK (by omega)) dX1_fill_125 ?_
                refine lv_iload hx hb dX1_fill_128 (lv_at hl 0 rfl) ?_
                have bx_67 : (0 : Int) ≤ (i (96 + 3 * rb_3 + 1) (r_61.toInt).toNat).toInt ∧ (i (96 + 3 * rb_3 + 1) (r_61.toInt).toNat).toInt ≤ 480 := by have h9 := hO (96 + 3 * rb_3 + 1) (r_61.toInt).toNat; rw [bx_rowa1 hrb_3 (r_61.toInt).toNat] at h9; exact h9
                have pw_68 := hPW rb_3 (r_61.toInt).toNat (by omega) (by omega)
                refine h_iald hx hb hK hH (lt_nK (by omega)) (kd_rowa hrb_3 (by decide) (by decide)) (s_vin (N := 4) (rfl : r_61.toInt = _) (ln_rowa hrb_3 (by decide)) (by omega) (by omega)) dX1_fill_130 ?_
                have ek_69 : r_61.toNatClampNeg = (r_61.toInt).toNat := (s_cl (show r_61.toInt = r_61.toInt by omega))
                refine sj_i (y := (i (96 + 3 * rb_3 + 1) (r_61.toInt).toNat)) (by rw [ek_69]; exact ((congrFun (hfr_j1 (96 + 3 * rb_3 + 1) (by omega)) _).trans (congrFun (up2_n _ _ (by omega)) _))) ?_
                refine lv_aload_n hx hb dX1_fill_131 rfl (lv_at hl 7 rfl) ?_
                refine h_getr (ci := 0) (C := RX0) (F := TX0) (N := 5) hx hb hts in0 hown hK hH (lt_nK (by omega)) (kd_case (by omega) (by omega)) (by decide) rfl 2 (by decide) wd6 (fun _ h9 => h9) (by decide) rfl (t := (96 + 3 * rb_3)) erb_3 (lt_nK (by omega)) dX1_fill_132 ?_
                refine h_getr (ci := 6) (C := RX6) (F := TX6) (N := 4) hx hb hts in6 hown hK hH (lt_nK (by omega)) (kd_row hrb_3) (by decide) rfl 1 (by decide) wd8 (fun _ h9 => h9) (by decide) rfl (t := (96 + 3 * rb_3 + 2)) ((hR _ _ (by unfold dyn; simp <;> omega)).trans (sr_mid (by omega) (by omega))) (lt_nK (by omega)) dX1_fill_135 ?_
                refine lv_iload hx hb dX1_fill_138 (lv_at hl 0 rfl) ?_
                have bx_70 : (0 : Int) ≤ (i (96 + 3 * rb_3 + 2) (r_61.toInt).toNat).toInt ∧ (i (96 + 3 * rb_3 + 2) (r_61.toInt).toNat).toInt ≤ 60 := by have h9 := hO (96 + 3 * rb_3 + 2) (r_61.toInt).toNat; rw [bx_rowa2 hrb_3 (r_61.toInt).toNat] at h9; exact h9
                have pw_71 := hPW rb_3 (r_61.toInt).toNat (by omega) (by omega)
                refine h_iald hx hb hK hH (lt_nK (by omega)) (kd_rowa hrb_3 (by decide) (by decide)) (s_vin (N := 4) (rfl : r_61.toInt = _) (ln_rowa hrb_3 (by decide)) (by omega) (by omega)) dX1_fill_140 ?_
                have ek_72 : r_61.toNatClampNeg = (r_61.toInt).toNat := (s_cl (show r_61.toInt = r_61.toInt by omega))
                refine sj_i (y := (i (96 + 3 * rb_3 + 2) (r_61.toInt).toNat)) (by rw [ek_72]; exact ((congrFun (hfr_j1 (96 + 3 * rb_3 + 2) (by omega)) _).trans (congrFun (up2_n _ _ (by omega)) _))) ?_
                refine x_callv (va_runV (As := [.ref (g 4), .int (i (96 + 3 * rb_3 + 1) (r_61.toInt).toNat), .int (i (96 + 3 * rb_3 + 2) (r_61.toInt).toNat)]) (rest := []) ⟨hx, hb, hml, hown, hts⟩ (k_addPart_stepText l D g ka ad j1 r L d (i (96 + 3 * rb_3 + 1) (r_61.toInt).toNat) (i (96 + 3 * rb_3 + 2) (r_61.toInt).toNat) hO_j1 hR H.size (by first | omega | decide) (by first | omega | decide) (by first | omega | decide)) (cwV 3 hts gX1_fill_X3_addPart rfl rfl rfl (by decide +kernel) ⟨(Nat.le_of_ble_eq_true rfl), (Nat.le_of_ble_eq_true rfl)⟩) (x_preV (q := (RX3, TX3, 2)) hH hK (q_obj (by decide) (rfl : kd 14 = 3) (by decide)) rfl gxb (gxw hE hS (x_F hH hS hA))) rfl rfl hl.1 rfl (lv_room (Nat.le_of_ble_eq_true rfl)) dX1_fill_141 ⟨(Nat.le_of_ble_eq_true rfl), (Nat.le_of_ble_eq_true rfl)⟩) hH hS hA rfl rfl (fun im_75 H locs hw_74 hH hS => ?_)
                have hH : sj_H D A (hwc g ka im_75 r L d) H := hH
                obtain ⟨hO_77, hfr_76⟩ := hw_74
                refine lv_iload hx hb dX1_fill_144 (lv_at hl 2 rfl) ?_
                refine lv_aload_n hx hb dX1_fill_146 rfl (lv_at hl 7 rfl) ?_
                refine h_getr (ci := 0) (C := RX0) (F := TX0) (N := 5) hx hb hts in0 hown hK hH (lt_nK (by omega)) (kd_case (by omega) (by omega)) (by decide) rfl 1 (by decide) wd0 (fun _ h9 => h9) (by decide) rfl (t := (96 + 3 * ra_2)) era_2 (lt_nK (by omega)) dX1_fill_147 ?_
                refine h_getr (ci := 6) (C := RX6) (F := TX6) (N := 4) hx hb hts in6 hown hK hH (lt_nK (by omega)) (kd_row hra_2) (by decide) rfl 1 (by decide) wd8 (fun _ h9 => h9) (by decide) rfl (t := (96 + 3 * ra_2 + 2)) ((hR _ _ (by unfold dyn; simp <;> omega)).trans (sr_mid (by omega) (by omega))) (lt_nK (by omega)) dX1_fill_150 ?_
                refine lv_iload hx hb dX1_fill_153 (lv_at hl 0 rfl) ?_
                have bx_78 : (0 : Int) ≤ (i (96 + 3 * ra_2 + 2) (r_61.toInt).toNat).toInt ∧ (i (96 + 3 * ra_2 + 2) (r_61.toInt).toNat).toInt ≤ 60 := by have h9 := hO (96 + 3 * ra_2 + 2) (r_61.toInt).toNat; rw [bx_rowa2 hra_2 (r_61.toInt).toNat] at h9; exact h9
                have pw_79 := hPW ra_2 (r_61.toInt).toNat (by omega) (by omega)
                refine h_iald hx hb hK hH (lt_nK (by omega)) (kd_rowa hra_2 (by decide) (by decide)) (s_vin (N := 4) (rfl : r_61.toInt = _) (ln_rowa hra_2 (by decide)) (by omega) (by omega)) dX1_fill_155 ?_
                have ek_80 : r_61.toNatClampNeg = (r_61.toInt).toNat := (s_cl (show r_61.toInt = r_61.toInt by omega))
                refine sj_i (y := (i (96 + 3 * ra_2 + 2) (r_61.toInt).toNat)) (by rw [ek_80]; exact ((congrFun (hfr_76 (96 + 3 * ra_2 + 2) (by omega)) _).trans ((congrFun (hfr_j1 (96 + 3 * ra_2 + 2) (by omega)) _).trans (congrFun (up2_n _ _ (by omega)) _)))) ?_
                refine lv_iconst (v := 2) hx hb dX1_fill_156 (by decide) ?_
                refine lv_iadd hx hb dX1_fill_157 ?_
                obtain ⟨z_81, ez_81, hz_81⟩ := s_add (rfl : (i (96 + 3 * ra_2 + 2) (r_61.toInt).toNat).toInt = _) (show (2 : Int32).toInt = 2 from rfl) (by omega) (by omega)
                refine sj_i ez_81 ?_
                refine lv_iadd hx hb dX1_fill_158 ?_
                obtain ⟨z_82, ez_82, hz_82⟩ := s_add (rfl : f.toInt = _) (rfl : z_81.toInt = _) (by omega) (by omega)
                refine sj_i ez_82 ?_
                refine lv_istore (lv' := [(8, .int z_82), (10, .int r_61), (9, .int (i 5 (f.toInt).toNat)), (7, .int z_43), (6, .int 1), (0, .ref (g 13)), (1, .ref (g 14)), (2, .ref (g (216 + 1 * j))), (3, .int z), (4, .int x), (5, .int y)]) hx hb dX1_fill_159 hl (by decide) rfl (fun ls hl => ?_)
                refine lv_goto (tgt := 42) hx hb dX1_fill_161 (by decide) ?_
                exact ih_lp_45 z_82 _ _ _ ls (by omega) (by omega) hO_77 (fun a ha => ((hfr_76 a (by omega)).trans (hfr_j1 a (by omega)))) (lv_sub hl [0, 3, 4, 5, 6, 7, 8, 9, 10] rfl) hH hS
              · skip
                have h_83 := s_nle (show (0 : Int32).toInt = 0 from rfl) (rfl : r_61.toInt = _) c_65
                refine lv_aload_n hx hb dX1_fill_101 rfl (lv_at hl 6 rfl) ?_
                refine lv_iload hx hb dX1_fill_102 (lv_at hl 1 rfl) ?_
                refine x_callv (va_runV (As := [.int (i 5 (f.toInt).toNat)]) (rest := []) ⟨hx, hb, hml, hown, hts⟩ (k_add_stepText l D g ka ad j1 r L d (i 5 (f.toInt).toNat) hO_j1 hR H.size ) (cwV 1 hts gX1_fill_X3_add rfl rfl rfl (by decide +kernel) ⟨(Nat.le_of_ble_eq_true rfl), (Nat.le_of_ble_eq_true rfl)⟩) (x_preV (q := (RX3, TX3, 2)) hH hK (q_obj (by decide) (rfl : kd 14 = 3) (by decide)) rfl gxb (gxw hE hS (x_F hH hS hA))) rfl rfl hl.1 rfl (lv_room (Nat.le_of_ble_eq_true rfl)) dX1_fill_104 ⟨(Nat.le_of_ble_eq_true rfl), (Nat.le_of_ble_eq_true rfl)⟩) hH hS hA rfl rfl (fun im_86 H locs hw_85 hH hS => ?_)
                have hH : sj_H D A (hwc g ka im_86 r L d) H := hH
                obtain ⟨hO_88, hfr_87⟩ := hw_85
                obtain ⟨z_89, ez_89, hz_89⟩ := s_add (rfl : f.toInt = _) (show (1 : Int32).toInt = 1 from rfl) (by omega) (by omega)
                refine lv_iinc (v := z_89) (lv' := [(8, .int z_89), (10, .int r_61), (9, .int (i 5 (f.toInt).toNat)), (7, .int z_43), (6, .int 1), (0, .ref (g 13)), (1, .ref (g 14)), (2, .ref (g (216 + 1 * j))), (3, .int z), (4, .int x), (5, .int y)]) hx hb dX1_fill_107 hl (k := 2) rfl ez_89 (by decide) rfl (fun ls hl => ?_)
                refine lv_goto (tgt := 161) hx hb dX1_fill_110 (by decide) ?_
                refine lv_goto (tgt := 42) hx hb dX1_fill_161 (by decide) ?_
                exact ih_lp_45 z_89 _ _ _ ls (by omega) (by omega) hO_88 (fun a ha => ((hfr_87 a (by omega)).trans (hfr_j1 a (by omega)))) (lv_sub hl [0, 3, 4, 5, 6, 7, 8, 9, 10] rfl) hH hS
      exact lp_45 _ x _ _ _ ls (Nat.lt_succ_self _) (by omega) hO_44 (fun a ha => rfl) (lv_sub hl [0, 1, 2, 3, 4, 5, 6, 7, 8] rfl) hH hS
set_option maxHeartbeats 2000000 in
set_option maxRecDepth 100000 in
theorem k_fill_cellText (l : Launch) (D : va_G) (g : Nat → Nat) (ka : Nat → ClassId) (ad : Nat → Nat) (i : Nat → Nat → Int32) (r : Nat → Nat → Nat) (L : Nat → Nat → Int64) (d : Nat → Nat → UInt64) (j : Nat) (z : Int32) (x : Int32) (y : Int32) (hO : OkI i) (hR : RS r) (sz : Nat) (hPC : PC i r) (hj : j < 24) (hjc : (j : Int) < (i 13 4).toInt) (hPW : PW i) (hx0 : 0 ≤ x.toInt) (hy0 : 0 ≤ y.toInt) (hxy : x.toInt + y.toInt ≤ 480) : Met l yX1_fill wsX1_fill ({ frames := 1, cells := 0, slots := 0, locals := 26 }) (va_Pc [.ref (g 13), .ref (g 16), .ref (g (216 + 1 * j)), .int z, .int x, .int y] (sj_B D (hwc g ka i r L d) (hT ka) sz (gx ad (va_A (hwc g ka i r L d) sz)))) (sj_Qv (S := (Nat → Nat → Int32)) D (fun u => OkI u ∧ (∀ a, ¬ (a = 16 ∨ a = 17) → u a = i a)) (fun u => hwc g ka u r L d) (fun _ => []) (va_A (hwc g ka i r L d) sz)) 0 0 (va_A (hwc g ka i r L d) sz) := by
  refine x_met (Ex := gx ad) (cc := cX1_fill) (maxL := 11) (ret := none) (by decide) rfl (Nat.le_of_ble_eq_true rfl) ?_
  intro p e s m below meth c A ls hx hb hr hml hts hown hlocks hA hS hH hK hE hl
  have hown : s.vm.findClass RX1 = some m.cls := hown
  have in0 : ∀ w ∈ wsX00, w ∈ wsX1_fill := (fun _ h => (List.mem_cons_of_mem _ (List.mem_append_left _ (List.mem_append_left _ (List.mem_append_left _ (List.mem_append_left _ (List.mem_append_left _ (List.mem_append_right _ h))))))))
  have in1 : ∀ w ∈ wsX10, w ∈ wsX1_fill := (fun _ h => (List.mem_cons_of_mem _ (List.mem_append_left _ (List.mem_append_left _ (List.mem_append_left _ (List.mem_append_right _ h))))))
  have in3 : ∀ w ∈ wsX30, w ∈ wsX1_fill := (fun _ h => (List.mem_cons_of_mem _ (List.mem_append_left _ (List.mem_append_left _ (List.mem_append_left _ (List.mem_append_left _ (List.mem_append_right _ h)))))))
  have in5 : ∀ w ∈ wsX50, w ∈ wsX1_fill := (fun _ h => (List.mem_cons_of_mem _ (List.mem_append_left _ (List.mem_append_left _ (List.mem_append_right _ h)))))
  have in6 : ∀ w ∈ wsX60, w ∈ wsX1_fill := (fun _ h => (List.mem_cons_of_mem _ (List.mem_append_left _ (List.mem_append_right _ h))))
  have wd0 := hts (.fieldLink RX1 83 "StoryDesk$Case" "names" "LStoryDesk$Row;") (List.mem_cons_of_mem _ (List.mem_append_left _ (List.mem_append_left _ (List.mem_append_left _ (List.mem_append_left _ (List.mem_append_left _ (List.mem_append_left _ (List.mem_append_left _ lm0))))))))
  have wd1 := hts (.fieldLink RX1 137 "StoryDesk$Letters" "length" "I") (List.mem_cons_of_mem _ (List.mem_append_left _ (List.mem_append_left _ (List.mem_append_left _ (List.mem_append_left _ (List.mem_append_left _ (List.mem_append_left _ (List.mem_append_left _ lm2))))))))
  have wd2 := hts (.fieldLink RX1 9 "StoryDesk$Cases" "reading" "LStoryDesk$Reading;") (List.mem_cons_of_mem _ (List.mem_append_left _ (List.mem_append_left _ (List.mem_append_left _ (List.mem_append_left _ (List.mem_append_left _ (List.mem_append_left _ (List.mem_append_left _ lm3))))))))
  have wd3 := hts (.fieldLink RX1 138 "StoryDesk$Reading" "source" "LStoryDesk$Letters;") (List.mem_cons_of_mem _ (List.mem_append_left _ (List.mem_append_left _ (List.mem_append_left _ (List.mem_append_left _ (List.mem_append_left _ (List.mem_append_left _ (List.mem_append_left _ lm4))))))))
  have wd4 := hts (.fieldLink RX1 141 "StoryDesk$Letters" "chars" "[C") (List.mem_cons_of_mem _ (List.mem_append_left _ (List.mem_append_left _ (List.mem_append_left _ (List.mem_append_left _ (List.mem_append_left _ (List.mem_append_left _ (List.mem_append_left _ lm5))))))))
  have wd5 := hts (.fieldLink RX1 79 "StoryDesk$Case" "scenario" "LStoryDesk$Part;") (List.mem_cons_of_mem _ (List.mem_append_left _ (List.mem_append_left _ (List.mem_append_left _ (List.mem_append_left _ (List.mem_append_left _ (List.mem_append_left _ (List.mem_append_left _ lm1))))))))
  have wd6 := hts (.fieldLink RX1 87 "StoryDesk$Case" "values" "LStoryDesk$Row;") (List.mem_cons_of_mem _ (List.mem_append_left _ (List.mem_append_left _ (List.mem_append_left _ (List.mem_append_left _ (List.mem_append_left _ (List.mem_append_left _ (List.mem_append_left _ lm6))))))))
  have wd7 := hts (.fieldLink RX1 130 "StoryDesk$Row" "starts" "[I") (List.mem_cons_of_mem _ (List.mem_append_left _ (List.mem_append_left _ (List.mem_append_left _ (List.mem_append_left _ (List.mem_append_left _ (List.mem_append_left _ (List.mem_append_left _ lm7))))))))
  have wd8 := hts (.fieldLink RX1 134 "StoryDesk$Row" "lengths" "[I") (List.mem_cons_of_mem _ (List.mem_append_left _ (List.mem_append_left _ (List.mem_append_left _ (List.mem_append_left _ (List.mem_append_left _ (List.mem_append_left _ (List.mem_append_left _ lm8))))))))
  have hl : lv_has ls 11 [(0, .ref (g 13)), (1, .ref (g 16)), (2, .ref (g (216 + 1 * j))), (3, .int z), (4, .int x), (5, .int y)] := hl
  have hK : va_K D vwCl (hT ka) s := hK
  have hg_1 := s_rng z
  refine lv_aload_n hx hb dX1_fill_0 rfl (lv_at hl 2 rfl) ?_
  rcases (hPC j (by omega)).2 with ⟨nra_2, nrb_3⟩ | ⟨⟨ra_2, hra_2, era_2⟩, ⟨rb_3, hrb_3, erb_3⟩⟩
  · skip
    refine h_getq (ci := 0) (C := RX0) (F := TX0) (N := 5) hx hb hts in0 hown hK hH (lt_nK (by omega)) (kd_case (by omega) (by omega)) (by decide) rfl 1 (by decide) wd0 (fun _ h9 => h9) (by decide) rfl dX1_fill_1 ?_
    refine sj_v (y := .null) (rq_none nra_2) ?_
    refine lv_ifnullN (tgt := 23) hx hb dX1_fill_4 (by decide) ?_
    refine lv_iconst (v := 0) hx hb dX1_fill_23 (by decide) ?_
    refine lv_istore (lv' := [(6, .int 0), (0, .ref (g 13)), (1, .ref (g 16)), (2, .ref (g (216 + 1 * j))), (3, .int z), (4, .int x), (5, .int y)]) hx hb dX1_fill_24 hl (by decide) rfl (fun ls hl => ?_)
    refine lv_iload hx hb dX1_fill_26 (lv_at hl 5 rfl) ?_
    refine lv_iload hx hb dX1_fill_28 (lv_at hl 6 rfl) ?_
    refine lv_iadd hx hb dX1_fill_30 ?_
    obtain ⟨z_4, ez_4, hz_4⟩ := s_add (rfl : x.toInt = _) (rfl : y.toInt = _) (by omega) (by omega)
    refine sj_i ez_4 ?_
    refine lv_istore (lv' := [(7, .int z_4), (6, .int 0), (0, .ref (g 13)), (1, .ref (g 16)), (2, .ref (g (216 + 1 * j))), (3, .int z), (4, .int x), (5, .int y)]) hx hb dX1_fill_31 hl (by decide) rfl (fun ls hl => ?_)
    refine lv_aload_n hx hb dX1_fill_33 rfl (lv_at hl 3 rfl) ?_
    refine lv_iconst (v := 0) hx hb dX1_fill_34 (by decide) ?_
    have hO_5 := okp hO (n := 16) (k := 1) (v := 0) (show (0 : Int) ≤ (0 : Int32).toInt ∧ (0 : Int32).toInt ≤ 60 from ⟨by decide, by decide⟩)
    refine h_puti (ty := .int) (ci := 3) (C := RX3) (F := TX3) (N := 2) hx hb hts in3 tyX3 tyX3_ok nmX3 hown hK hH hS (by decide) (rfl : kd 16 = 3) (by decide) rfl 1 (by decide) wd1 (fun _ h9 => h9) rfl (by decide +kernel) rfl rfl (by decide) rfl dX1_fill_35 (fun H locs hH hS => ?_)
    refine lv_iload hx hb dX1_fill_38 (lv_at hl 6 rfl) ?_
    refine lv_istore (lv' := [(8, .int x), (7, .int z_4), (6, .int 0), (0, .ref (g 13)), (1, .ref (g 16)), (2, .ref (g (216 + 1 * j))), (3, .int z), (4, .int x), (5, .int y)]) hx hb dX1_fill_40 hl (by decide) rfl (fun ls hl => ?_)
    -- loop at 42
    have lp_6 : ∀ (fuel_lp_6 : Nat) (f : Int32) (j1 : Nat → Nat → Int32) (H : Heap) (locs : List Loc) (ls : Array Slot), (x.toInt + y.toInt - f.toInt).toNat < fuel_lp_6 → (0 : Int) ≤ f.toInt ∧ f.toInt ≤ 600 → OkI j1 → (∀ a, ¬ (a = 16 ∨ a = 17) → j1 a = (up2 i 16 1 0) a) → lv_has ls 11 [(8, .int f), (7, .int z_4), (6, .int 0), (0, .ref (g 13)), (1, .ref (g 16)), (2, .ref (g (216 + 1 * j))), (3, .int z), (4, .int x), (5, .int y)] → sj_H D A (hwc g ka j1 r L d) H → va_S A s.heap H locs → W p l e (headSpec wsX1_fill ({ frames := 1, cells := 0, slots := 0, locals := 26 })).room s m ([.ref (g 13), .ref (g 16), .ref (g (216 + 1 * j)), .int z, .int x, .int y] : List Value).toArray below meth c H locs 0 0 (MQ below (sj_Qv (S := (Nat → Nat → Int32)) D (fun u => OkI u ∧ (∀ a, ¬ (a = 16 ∨ a = 17) → u a = i a)) (fun u => hwc g ka u r L d) (fun _ => []) A) ([.ref (g 13), .ref (g 16), .ref (g (216 + 1 * j)), .int z, .int x, .int y] : List Value).toArray s 0 0 A) (F0 m 42 ls []) := by
      intro fuel_lp_6
      induction fuel_lp_6 with
      | zero => intros; omega
      | succ fuel_lp_6 ih_lp_6 =>
        intro f j1 H locs ls hm hr_f hO_j1 hfr_j1 hl hH hS
        refine lv_iload hx hb dX1_fill_42 (lv_at hl 0 rfl) ?_
        refine lv_iload hx hb dX1_fill_44 (lv_at hl 1 rfl) ?_
        refine lv_icmp_ge (tgt := 164) hx hb dX1_fill_46 (by decide) (fun c_7 => ?_) (fun c_7 => ?_)
        · skip
          have h_8 := s_le (rfl : z_4.toInt = _) (rfl : f.toInt = _) c_7
          exact sj_vret hx hb hr hlocks hS j1 ⟨hO_j1, (fun a ha => ((hfr_j1 a (by omega)).trans (up2_n _ _ (by omega))))⟩ hH (sj_Knil hK) (Nat.le_of_ble_eq_true rfl) (Nat.le_of_ble_eq_true rfl) dX1_fill_164
        · skip
          have h_9 := s_nle (rfl : z_4.toInt = _) (rfl : f.toInt = _) c_7
          refine lv_aload_n hx hb dX1_fill_49 rfl (lv_at hl 3 rfl) ?_
          refine h_getr (ci := 1) (C := RX1) (F := TX1) (N := 5) hx hb hts in1 hown hK hH (by decide) (rfl : kd 13 = 1) (by decide) rfl 0 (by decide) wd2 (fun _ h9 => h9) (by decide) rfl (t := 3) (hR 13 0 rfl) (by decide) dX1_fill_50 ?_
          refine h_getr (ci := 5) (C := RX5) (F := TX5) (N := 19) hx hb hts in5 hown hK hH (by decide) (rfl : kd 3 = 5) (by decide) rfl 0 (by decide) wd3 (fun _ h9 => h9) (by decide) rfl (t := 4) (hR 3 0 rfl) (by decide) dX1_fill_53 ?_
          refine h_getr (ci := 3) (C := RX3) (F := TX3) (N := 2) hx hb hts in3 hown hK hH (by decide) (rfl : kd 4 = 3) (by decide) rfl 0 (by decide) wd4 (fun _ h9 => h9) (by decide) rfl (t := 5) (hR 4 0 rfl) (by decide) dX1_fill_56 ?_
          refine lv_iload hx hb dX1_fill_59 (lv_at hl 0 rfl) ?_
          have bx_10 : (0 : Int) ≤ (i 5 (f.toInt).toNat).toInt ∧ (i 5 (f.toInt).toNat).toInt ≤ 65535 := hO 5 (f.toInt).toNat
          refine h_cald hx hb hK hH (by decide) (rfl : kd 5 = 14) (s_vin (N := 480) (rfl : f.toInt = _) (rfl : ln 5 = 480) (by omega) (by omega)) dX1_fill_61 ?_
          have ek_11 : f.toNatClampNeg = (f.toInt).toNat := (s_cl (show f.toInt = f.toInt by omega))
          refine sj_i (y := (i 5 (f.toInt).toNat)) (by rw [ek_11]; exact ((congrFun (hfr_j1 5 (by omega)) _).trans (congrFun (up2_n _ _ (by decide)) _))) ?_
          refine lv_istore (lv' := [(9, .int (i 5 (f.toInt).toNat)), (8, .int f), (7, .int z_4), (6, .int 0), (0, .ref (g 13)), (1, .ref (g 16)), (2, .ref (g (216 + 1 * j))), (3, .int z), (4, .int x), (5, .int y)]) hx hb dX1_fill_62 hl (by decide) rfl (fun ls hl => ?_)
          refine lv_iload hx hb dX1_fill_64 (lv_at hl 3 rfl) ?_
          refine lv_if_eq (tgt := 93) hx hb dX1_fill_66 (by decide) (fun _ => ?_) (fun h => absurd (by decide) h)
          refine lv_iconst (v := (-1)) hx hb dX1_fill_93 (by decide) ?_
          refine lv_istore (lv' := [(10, .int (-1)), (9, .int (i 5 (f.toInt).toNat)), (8, .int f), (7, .int z_4), (6, .int 0), (0, .ref (g 13)), (1, .ref (g 16)), (2, .ref (g (216 + 1 * j))), (3, .int z), (4, .int x), (5, .int y)]) hx hb dX1_fill_94 hl (by decide) rfl (fun ls hl => ?_)
          refine lv_iload hx hb dX1_fill_96 (lv_at hl 0 rfl) ?_
          refine lv_if_ge (tgt := 113) hx hb dX1_fill_98 (by decide) (fun h => absurd h (by decide)) (fun _ => ?_)
          refine lv_aload_n hx hb dX1_fill_101 rfl (lv_at hl 6 rfl) ?_
          refine lv_iload hx hb dX1_fill_102 (lv_at hl 1 rfl) ?_
          refine x_callv (va_runV (As := [.int (i 5 (f.toInt).toNat)]) (rest := []) ⟨hx, hb, hml, hown, hts⟩ (k_add_cellText l D g ka ad j1 r L d (i 5 (f.toInt).toNat) hO_j1 hR H.size ) (cwV 1 hts gX1_fill_X3_add rfl rfl rfl (by decide +kernel) ⟨(Nat.le_of_ble_eq_true rfl), (Nat.le_of_ble_eq_true rfl)⟩) (x_preV (q := (RX3, TX3, 2)) hH hK (q_obj (by decide) (rfl : kd 16 = 3) (by decide)) rfl gxb (gxw hE hS (x_F hH hS hA))) rfl rfl hl.1 rfl (lv_room (Nat.le_of_ble_eq_true rfl)) dX1_fill_104 ⟨(Nat.le_of_ble_eq_true rfl), (Nat.le_of_ble_eq_true rfl)⟩) hH hS hA rfl rfl (fun im_14 H locs hw_13 hH hS => ?_)
          have hH : sj_H D A (hwc g ka im_14 r L d) H := hH
          obtain ⟨hO_16, hfr_15⟩ := hw_13
          obtain ⟨z_17, ez_17, hz_17⟩ := s_add (rfl : f.toInt = _) (show (1 : Int32).toInt = 1 from rfl) (by omega) (by omega)
          refine lv_iinc (v := z_17) (lv' := [(8, .int z_17), (10, .int (-1)), (9, .int (i 5 (f.toInt).toNat)), (7, .int z_4), (6, .int 0), (0, .ref (g 13)), (1, .ref (g 16)), (2, .ref (g (216 + 1 * j))), (3, .int z), (4, .int x), (5, .int y)]) hx hb dX1_fill_107 hl (k := 2) rfl ez_17 (by decide) rfl (fun ls hl => ?_)
          refine lv_goto (tgt := 161) hx hb dX1_fill_110 (by decide) ?_
          refine lv_goto (tgt := 42) hx hb dX1_fill_161 (by decide) ?_
          exact ih_lp_6 z_17 _ _ _ ls (by omega) (by omega) hO_16 (fun a ha => ((hfr_15 a (by omega)).trans (hfr_j1 a (by omega)))) (lv_sub hl [0, 3, 4, 5, 6, 7, 8, 9, 10] rfl) hH hS
    exact lp_6 _ x _ _ _ ls (Nat.lt_succ_self _) (by omega) hO_5 (fun a ha => rfl) (lv_sub hl [0, 1, 2, 3, 4, 5, 6, 7, 8] rfl) hH hS
  · skip
    refine h_getr (ci := 0) (C := RX0) (F := TX0) (N := 5) hx hb hts in0 hown hK hH (lt_nK (by omega)) (kd_case (by omega) (by omega)) (by decide) rfl 1 (by decide) wd0 (fun _ h9 => h9) (by decide) rfl (t := (96 + 3 * ra_2)) era_2 (lt_nK (by omega)) dX1_fill_1 ?_
    refine lv_ifnull hx hb dX1_fill_4 ?_
    refine lv_iload_n hx hb dX1_fill_7 rfl (lv_at hl 3 rfl) ?_
    refine lv_aload_n hx hb dX1_fill_8 rfl (lv_at hl 0 rfl) ?_
    refine lv_aload_n hx hb dX1_fill_9 rfl (lv_at hl 2 rfl) ?_
    obtain ⟨q_18, eq_18, hq_18a, hq_18b⟩ : ∃ q, r (216 + 1 * j) 0 = q ∧ 42 ≤ q ∧ q < 54 := ⟨_, rfl, (hPC j (by omega)).1 (by omega)⟩
    have pb_19 := bxp hO (p := q_18) (by omega) (by omega)
    refine h_getr (ci := 0) (C := RX0) (F := TX0) (N := 5) hx hb hts in0 hown hK hH (lt_nK (by omega)) (kd_case (by omega) (by omega)) (by decide) rfl 0 (by decide) wd5 (fun _ h9 => h9) (by decide) rfl (t := q_18) eq_18 (lt_nK (by omega)) dX1_fill_10 ?_
    have pb_20 := bxp hO (p := q_18) (by omega) (by omega)
    refine x_calli (va_runV (As := [.ref (g q_18)]) (rest := [.int z]) ⟨hx, hb, hml, hown, hts⟩ (k_bgc l D g ka ad i r L d q_18 hO hR s.heap.size (by first | omega | decide) (by first | omega | decide)) (cwV 1 hts gX1_fill_X1_backgroundCount rfl rfl rfl (by decide +kernel) ⟨(Nat.le_of_ble_eq_true rfl), (Nat.le_of_ble_eq_true rfl)⟩) (x_preV (q := (RX1, TX1, 5)) hH hK (q_obj (by decide) (rfl : kd 13 = 1) (by decide)) rfl gxb (gxw hE hS (x_F hH hS hA))) rfl rfl hl.1 rfl (lv_room (Nat.le_of_ble_eq_true rfl)) dX1_fill_13 ⟨(Nat.le_of_ble_eq_true rfl), (Nat.le_of_ble_eq_true rfl)⟩) hH hS hA rfl rfl (fun r_21 _ H locs hw_22 hH hS => ?_)
    obtain ⟨hr_24, he_25⟩ := hw_22
    have hr_24 : (0 : Int) ≤ r_21.toInt ∧ r_21.toInt ≤ 80 := hr_24
    refine lv_icmp_lt (tgt := 23) hx hb dX1_fill_16 (by decide) (fun c_26 => ?_) (fun c_26 => ?_)
    · skip
      have h_27 := s_lt (rfl : z.toInt = _) (rfl : r_21.toInt = _) c_26
      refine lv_iconst (v := 0) hx hb dX1_fill_23 (by decide) ?_
      refine lv_istore (lv' := [(6, .int 0), (0, .ref (g 13)), (1, .ref (g 16)), (2, .ref (g (216 + 1 * j))), (3, .int z), (4, .int x), (5, .int y)]) hx hb dX1_fill_24 hl (by decide) rfl (fun ls hl => ?_)
      refine lv_iload hx hb dX1_fill_26 (lv_at hl 5 rfl) ?_
      refine lv_iload hx hb dX1_fill_28 (lv_at hl 6 rfl) ?_
      refine lv_iadd hx hb dX1_fill_30 ?_
      obtain ⟨z_28, ez_28, hz_28⟩ := s_add (rfl : x.toInt = _) (rfl : y.toInt = _) (by omega) (by omega)
      refine sj_i ez_28 ?_
      refine lv_istore (lv' := [(7, .int z_28), (6, .int 0), (0, .ref (g 13)), (1, .ref (g 16)), (2, .ref (g (216 + 1 * j))), (3, .int z), (4, .int x), (5, .int y)]) hx hb dX1_fill_31 hl (by decide) rfl (fun ls hl => ?_)
      refine lv_aload_n hx hb dX1_fill_33 rfl (lv_at hl 3 rfl) ?_
      refine lv_iconst (v := 0) hx hb dX1_fill_34 (by decide) ?_
      have hO_29 := okp hO (n := 16) (k := 1) (v := 0) (show (0 : Int) ≤ (0 : Int32).toInt ∧ (0 : Int32).toInt ≤ 60 from ⟨by decide, by decide⟩)
      refine h_puti (ty := .int) (ci := 3) (C := RX3) (F := TX3) (N := 2) hx hb hts in3 tyX3 tyX3_ok nmX3 hown hK hH hS (by decide) (rfl : kd 16 = 3) (by decide) rfl 1 (by decide) wd1 (fun _ h9 => h9) rfl (by decide +kernel) rfl rfl (by decide) rfl dX1_fill_35 (fun H locs hH hS => ?_)
      refine lv_iload hx hb dX1_fill_38 (lv_at hl 6 rfl) ?_
      refine lv_istore (lv' := [(8, .int x), (7, .int z_28), (6, .int 0), (0, .ref (g 13)), (1, .ref (g 16)), (2, .ref (g (216 + 1 * j))), (3, .int z), (4, .int x), (5, .int y)]) hx hb dX1_fill_40 hl (by decide) rfl (fun ls hl => ?_)
      -- loop at 42
      have lp_30 : ∀ (fuel_lp_30 : Nat) (f : Int32) (j1 : Nat → Nat → Int32) (H : Heap) (locs : List Loc) (ls : Array Slot), (x.toInt + y.toInt - f.toInt).toNat < fuel_lp_30 → (0 : Int) ≤ f.toInt ∧ f.toInt ≤ 600 → OkI j1 → (∀ a, ¬ (a = 16 ∨ a = 17) → j1 a = (up2 i 16 1 0) a) → lv_has ls 11 [(8, .int f), (7, .int z_28), (6, .int 0), (0, .ref (g 13)), (1, .ref (g 16)), (2, .ref (g (216 + 1 * j))), (3, .int z), (4, .int x), (5, .int y)] → sj_H D A (hwc g ka j1 r L d) H → va_S A s.heap H locs → W p l e (headSpec wsX1_fill ({ frames := 1, cells := 0, slots := 0, locals := 26 })).room s m ([.ref (g 13), .ref (g 16), .ref (g (216 + 1 * j)), .int z, .int x, .int y] : List Value).toArray below meth c H locs 0 0 (MQ below (sj_Qv (S := (Nat → Nat → Int32)) D (fun u => OkI u ∧ (∀ a, ¬ (a = 16 ∨ a = 17) → u a = i a)) (fun u => hwc g ka u r L d) (fun _ => []) A) ([.ref (g 13), .ref (g 16), .ref (g (216 + 1 * j)), .int z, .int x, .int y] : List Value).toArray s 0 0 A) (F0 m 42 ls []) := by
        intro fuel_lp_30
        induction fuel_lp_30 with
        | zero => intros; omega
        | succ fuel_lp_30 ih_lp_30 =>
          intro f j1 H locs ls hm hr_f hO_j1 hfr_j1 hl hH hS
          refine lv_iload hx hb dX1_fill_42 (lv_at hl 0 rfl) ?_
          refine lv_iload hx hb dX1_fill_44 (lv_at hl 1 rfl) ?_
          refine lv_icmp_ge (tgt := 164) hx hb dX1_fill_46 (by decide) (fun c_31 => ?_) (fun c_31 => ?_)
          · skip
            have h_32 := s_le (rfl : z_28.toInt = _) (rfl : f.toInt = _) c_31
            exact sj_vret hx hb hr hlocks hS j1 ⟨hO_j1, (fun a ha => ((hfr_j1 a (by omega)).trans (up2_n _ _ (by omega))))⟩ hH (sj_Knil hK) (Nat.le_of_ble_eq_true rfl) (Nat.le_of_ble_eq_true rfl) dX1_fill_164
          · skip
            have h_33 := s_nle (rfl : z_28.toInt = _) (rfl : f.toInt = _) c_31
            refine lv_aload_n hx hb dX1_fill_49 rfl (lv_at hl 3 rfl) ?_
            refine h_getr (ci := 1) (C := RX1) (F := TX1) (N := 5) hx hb hts in1 hown hK hH (by decide) (rfl : kd 13 = 1) (by decide) rfl 0 (by decide) wd2 (fun _ h9 => h9) (by decide) rfl (t := 3) (hR 13 0 rfl) (by decide) dX1_fill_50 ?_
            refine h_getr (ci := 5) (C := RX5) (F := TX5) (N := 19) hx hb hts in5 hown hK hH (by decide) (rfl : kd 3 = 5) (by decide) rfl 0 (by decide) wd3 (fun _ h9 => h9) (by decide) rfl (t := 4) (hR 3 0 rfl) (by decide) dX1_fill_53 ?_
            refine h_getr (ci := 3) (C := RX3) (F := TX3) (N := 2) hx hb hts in3 hown hK hH (by decide) (rfl : kd 4 = 3) (by decide) rfl 0 (by decide) wd4 (fun _ h9 => h9) (by decide) rfl (t := 5) (hR 4 0 rfl) (by decide) dX1_fill_56 ?_
            refine lv_iload hx hb dX1_fill_59 (lv_at hl 0 rfl) ?_
            have bx_34 : (0 : Int) ≤ (i 5 (f.toInt).toNat).toInt ∧ (i 5 (f.toInt).toNat).toInt ≤ 65535 := hO 5 (f.toInt).toNat
            refine h_cald hx hb hK hH (by decide) (rfl : kd 5 = 14) (s_vin (N := 480) (rfl : f.toInt = _) (rfl : ln 5 = 480) (by omega) (by omega)) dX1_fill_61 ?_
            have ek_35 : f.toNatClampNeg = (f.toInt).toNat := (s_cl (show f.toInt = f.toInt by omega))
            refine sj_i (y := (i 5 (f.toInt).toNat)) (by rw [ek_35]; exact ((congrFun (hfr_j1 5 (by omega)) _).trans (congrFun (up2_n _ _ (by decide)) _))) ?_
            refine lv_istore (lv' := [(9, .int (i 5 (f.toInt).toNat)), (8, .int f), (7, .int z_28), (6, .int 0), (0, .ref (g 13)), (1, .ref (g 16)), (2, .ref (g (216 + 1 * j))), (3, .int z), (4, .int x), (5, .int y)]) hx hb dX1_fill_62 hl (by decide) rfl (fun ls hl => ?_)
            refine lv_iload hx hb dX1_fill_64 (lv_at hl 3 rfl) ?_
            refine lv_if_eq (tgt := 93) hx hb dX1_fill_66 (by decide) (fun _ => ?_) (fun h => absurd (by decide) h)
            refine lv_iconst (v := (-1)) hx hb dX1_fill_93 (by decide) ?_
            refine lv_istore (lv' := [(10, .int (-1)), (9, .int (i 5 (f.toInt).toNat)), (8, .int f), (7, .int z_28), (6, .int 0), (0, .ref (g 13)), (1, .ref (g 16)), (2, .ref (g (216 + 1 * j))), (3, .int z), (4, .int x), (5, .int y)]) hx hb dX1_fill_94 hl (by decide) rfl (fun ls hl => ?_)
            refine lv_iload hx hb dX1_fill_96 (lv_at hl 0 rfl) ?_
            refine lv_if_ge (tgt := 113) hx hb dX1_fill_98 (by decide) (fun h => absurd h (by decide)) (fun _ => ?_)
            refine lv_aload_n hx hb dX1_fill_101 rfl (lv_at hl 6 rfl) ?_
            refine lv_iload hx hb dX1_fill_102 (lv_at hl 1 rfl) ?_
            refine x_callv (va_runV (As := [.int (i 5 (f.toInt).toNat)]) (rest := []) ⟨hx, hb, hml, hown, hts⟩ (k_add_cellText l D g ka ad j1 r L d (i 5 (f.toInt).toNat) hO_j1 hR H.size ) (cwV 1 hts gX1_fill_X3_add rfl rfl rfl (by decide +kernel) ⟨(Nat.le_of_ble_eq_true rfl), (Nat.le_of_ble_eq_true rfl)⟩) (x_preV (q := (RX3, TX3, 2)) hH hK (q_obj (by decide) (rfl : kd 16 = 3) (by decide)) rfl gxb (gxw hE hS (x_F hH hS hA))) rfl rfl hl.1 rfl (lv_room (Nat.le_of_ble_eq_true rfl)) dX1_fill_104 ⟨(Nat.le_of_ble_eq_true rfl), (Nat.le_of_ble_eq_true rfl)⟩) hH hS hA rfl rfl (fun im_38 H locs hw_37 hH hS => ?_)
            have hH : sj_H D A (hwc g ka im_38 r L d) H := hH
            obtain ⟨hO_40, hfr_39⟩ := hw_37
            obtain ⟨z_41, ez_41, hz_41⟩ := s_add (rfl : f.toInt = _) (show (1 : Int32).toInt = 1 from rfl) (by omega) (by omega)
            refine lv_iinc (v := z_41) (lv' := [(8, .int z_41), (10, .int (-1)), (9, .int (i 5 (f.toInt).toNat)), (7, .int z_28), (6, .int 0), (0, .ref (g 13)), (1, .ref (g 16)), (2, .ref (g (216 + 1 * j))), (3, .int z), (4, .int x), (5, .int y)]) hx hb dX1_fill_107 hl (k := 2) rfl ez_41 (by decide) rfl (fun ls hl => ?_)
            refine lv_goto (tgt := 161) hx hb dX1_fill_110 (by decide) ?_
            refine lv_goto (tgt := 42) hx hb dX1_fill_161 (by decide) ?_
            exact ih_lp_30 z_41 _ _ _ ls (by omega) (by omega) hO_40 (fun a ha => ((hfr_39 a (by omega)).trans (hfr_j1 a (by omega)))) (lv_sub hl [0, 3, 4, 5, 6, 7, 8, 9, 10] rfl) hH hS
      exact lp_30 _ x _ _ _ ls (Nat.lt_succ_self _) (by omega) hO_29 (fun a ha => rfl) (lv_sub hl [0, 1, 2, 3, 4, 5, 6, 7, 8] rfl) hH hS
    · skip
      have h_42 := s_nlt (rfl : z.toInt = _) (rfl : r_21.toInt = _) c_26
      refine lv_iconst (v := 1) hx hb dX1_fill_19 (by decide) ?_
      refine lv_goto (tgt := 24) hx hb dX1_fill_20 (by decide) ?_
      refine lv_istore (lv' := [(6, .int 1), (0, .ref (g 13)), (1, .ref (g 16)), (2, .ref (g (216 + 1 * j))), (3, .int z), (4, .int x), (5, .int y)]) hx hb dX1_fill_24 hl (by decide) rfl (fun ls hl => ?_)
      refine lv_iload hx hb dX1_fill_26 (lv_at hl 5 rfl) ?_
      refine lv_iload hx hb dX1_fill_28 (lv_at hl 6 rfl) ?_
      refine lv_iadd hx hb dX1_fill_30 ?_
      obtain ⟨z_43, ez_43, hz_43⟩ := s_add (rfl : x.toInt = _) (rfl : y.toInt = _) (by omega) (by omega)
      refine sj_i ez_43 ?_
      refine lv_istore (lv' := [(7, .int z_43), (6, .int 1), (0, .ref (g 13)), (1, .ref (g 16)), (2, .ref (g (216 + 1 * j))), (3, .int z), (4, .int x), (5, .int y)]) hx hb dX1_fill_31 hl (by decide) rfl (fun ls hl => ?_)
      refine lv_aload_n hx hb dX1_fill_33 rfl (lv_at hl 3 rfl) ?_
      refine lv_iconst (v := 0) hx hb dX1_fill_34 (by decide) ?_
      have hO_44 := okp hO (n := 16) (k := 1) (v := 0) (show (0 : Int) ≤ (0 : Int32).toInt ∧ (0 : Int32).toInt ≤ 60 from ⟨by decide, by decide⟩)
      refine h_puti (ty := .int) (ci := 3) (C := RX3) (F := TX3) (N := 2) hx hb hts in3 tyX3 tyX3_ok nmX3 hown hK hH hS (by decide) (rfl : kd 16 = 3) (by decide) rfl 1 (by decide) wd1 (fun _ h9 => h9) rfl (by decide +kernel) rfl rfl (by decide) rfl dX1_fill_35 (fun H locs hH hS => ?_)
      refine lv_iload hx hb dX1_fill_38 (lv_at hl 6 rfl) ?_
      refine lv_istore (lv' := [(8, .int x), (7, .int z_43), (6, .int 1), (0, .ref (g 13)), (1, .ref (g 16)), (2, .ref (g (216 + 1 * j))), (3, .int z), (4, .int x), (5, .int y)]) hx hb dX1_fill_40 hl (by decide) rfl (fun ls hl => ?_)
      -- loop at 42
      have lp_45 : ∀ (fuel_lp_45 : Nat) (f : Int32) (j1 : Nat → Nat → Int32) (H : Heap) (locs : List Loc) (ls : Array Slot), (x.toInt + y.toInt - f.toInt).toNat < fuel_lp_45 → (0 : Int) ≤ f.toInt ∧ f.toInt ≤ 600 → OkI j1 → (∀ a, ¬ (a = 16 ∨ a = 17) → j1 a = (up2 i 16 1 0) a) → lv_has ls 11 [(8, .int f), (7, .int z_43), (6, .int 1), (0, .ref (g 13)), (1, .ref (g 16)), (2, .ref (g (216 + 1 * j))), (3, .int z), (4, .int x), (5, .int y)] → sj_H D A (hwc g ka j1 r L d) H → va_S A s.heap H locs → W p l e (headSpec wsX1_fill ({ frames := 1, cells := 0, slots := 0, locals := 26 })).room s m ([.ref (g 13), .ref (g 16), .ref (g (216 + 1 * j)), .int z, .int x, .int y] : List Value).toArray below meth c H locs 0 0 (MQ below (sj_Qv (S := (Nat → Nat → Int32)) D (fun u => OkI u ∧ (∀ a, ¬ (a = 16 ∨ a = 17) → u a = i a)) (fun u => hwc g ka u r L d) (fun _ => []) A) ([.ref (g 13), .ref (g 16), .ref (g (216 + 1 * j)), .int z, .int x, .int y] : List Value).toArray s 0 0 A) (F0 m 42 ls []) := by
        intro fuel_lp_45
        induction fuel_lp_45 with
        | zero => intros; omega
        | succ fuel_lp_45 ih_lp_45 =>
          intro f j1 H locs ls hm hr_f hO_j1 hfr_j1 hl hH hS
          refine lv_iload hx hb dX1_fill_42 (lv_at hl 0 rfl) ?_
          refine lv_iload hx hb dX1_fill_44 (lv_at hl 1 rfl) ?_
          refine lv_icmp_ge (tgt := 164) hx hb dX1_fill_46 (by decide) (fun c_46 => ?_) (fun c_46 => ?_)
          · skip
            have h_47 := s_le (rfl : z_43.toInt = _) (rfl : f.toInt = _) c_46
            exact sj_vret hx hb hr hlocks hS j1 ⟨hO_j1, (fun a ha => ((hfr_j1 a (by omega)).trans (up2_n _ _ (by omega))))⟩ hH (sj_Knil hK) (Nat.le_of_ble_eq_true rfl) (Nat.le_of_ble_eq_true rfl) dX1_fill_164
          · skip
            have h_48 := s_nle (rfl : z_43.toInt = _) (rfl : f.toInt = _) c_46
            refine lv_aload_n hx hb dX1_fill_49 rfl (lv_at hl 3 rfl) ?_
            refine h_getr (ci := 1) (C := RX1) (F := TX1) (N := 5) hx hb hts in1 hown hK hH (by decide) (rfl : kd 13 = 1) (by decide) rfl 0 (by decide) wd2 (fun _ h9 => h9) (by decide) rfl (t := 3) (hR 13 0 rfl) (by decide) dX1_fill_50 ?_
            refine h_getr (ci := 5) (C := RX5) (F := TX5) (N := 19) hx hb hts in5 hown hK hH (by decide) (rfl : kd 3 = 5) (by decide) rfl 0 (by decide) wd3 (fun _ h9 => h9) (by decide) rfl (t := 4) (hR 3 0 rfl) (by decide) dX1_fill_53 ?_
            refine h_getr (ci := 3) (C := RX3) (F := TX3) (N := 2) hx hb hts in3 hown hK hH (by decide) (rfl : kd 4 = 3) (by decide) rfl 0 (by decide) wd4 (fun _ h9 => h9) (by decide) rfl (t := 5) (hR 4 0 rfl) (by decide) dX1_fill_56 ?_
            refine lv_iload hx hb dX1_fill_59 (lv_at hl 0 rfl) ?_
            have bx_49 : (0 : Int) ≤ (i 5 (f.toInt).toNat).toInt ∧ (i 5 (f.toInt).toNat).toInt ≤ 65535 := hO 5 (f.toInt).toNat
            refine h_cald hx hb hK hH (by decide) (rfl : kd 5 = 14) (s_vin (N := 480) (rfl : f.toInt = _) (rfl : ln 5 = 480) (by omega) (by omega)) dX1_fill_61 ?_
            have ek_50 : f.toNatClampNeg = (f.toInt).toNat := (s_cl (show f.toInt = f.toInt by omega))
            refine sj_i (y := (i 5 (f.toInt).toNat)) (by rw [ek_50]; exact ((congrFun (hfr_j1 5 (by omega)) _).trans (congrFun (up2_n _ _ (by decide)) _))) ?_
            refine lv_istore (lv' := [(9, .int (i 5 (f.toInt).toNat)), (8, .int f), (7, .int z_43), (6, .int 1), (0, .ref (g 13)), (1, .ref (g 16)), (2, .ref (g (216 + 1 * j))), (3, .int z), (4, .int x), (5, .int y)]) hx hb dX1_fill_62 hl (by decide) rfl (fun ls hl => ?_)
            refine lv_iload hx hb dX1_fill_64 (lv_at hl 3 rfl) ?_
            refine lv_if_eq (tgt := 93) hx hb dX1_fill_66 (by decide) (fun h => absurd h (by decide)) (fun _ => ?_)
            refine lv_iload hx hb dX1_fill_69 (lv_at hl 0 rfl) ?_
            refine lv_bipush (v := 60) hx hb dX1_fill_71 (by decide) ?_
            refine lv_icmp_ne (tgt := 93) hx hb dX1_fill_73 (by decide) (fun c_51 => ?_) (fun c_51 => ?_)
            · skip
              have h_52 := s_ne (rfl : (i 5 (f.toInt).toNat).toInt = _) (show (60 : Int32).toInt = 60 from rfl) c_51
              refine lv_iconst (v := (-1)) hx hb dX1_fill_93 (by decide) ?_
              refine lv_istore (lv' := [(10, .int (-1)), (9, .int (i 5 (f.toInt).toNat)), (8, .int f), (7, .int z_43), (6, .int 1), (0, .ref (g 13)), (1, .ref (g 16)), (2, .ref (g (216 + 1 * j))), (3, .int z), (4, .int x), (5, .int y)]) hx hb dX1_fill_94 hl (by decide) rfl (fun ls hl => ?_)
              refine lv_iload hx hb dX1_fill_96 (lv_at hl 0 rfl) ?_
              refine lv_if_ge (tgt := 113) hx hb dX1_fill_98 (by decide) (fun h => absurd h (by decide)) (fun _ => ?_)
              refine lv_aload_n hx hb dX1_fill_101 rfl (lv_at hl 6 rfl) ?_
              refine lv_iload hx hb dX1_fill_102 (lv_at hl 1 rfl) ?_
              refine x_callv (va_runV (As := [.int (i 5 (f.toInt).toNat)]) (rest := []) ⟨hx, hb, hml, hown, hts⟩ (k_add_cellText l D g ka ad j1 r L d (i 5 (f.toInt).toNat) hO_j1 hR H.size ) (cwV 1 hts gX1_fill_X3_add rfl rfl rfl (by decide +kernel) ⟨(Nat.le_of_ble_eq_true rfl), (Nat.le_of_ble_eq_true rfl)⟩) (x_preV (q := (RX3, TX3, 2)) hH hK (q_obj (by decide) (rfl : kd 16 = 3) (by decide)) rfl gxb (gxw hE hS (x_F hH hS hA))) rfl rfl hl.1 rfl (lv_room (Nat.le_of_ble_eq_true rfl)) dX1_fill_104 ⟨(Nat.le_of_ble_eq_true rfl), (Nat.le_of_ble_eq_true rfl)⟩) hH hS hA rfl rfl (fun im_55 H locs hw_54 hH hS => ?_)
              have hH : sj_H D A (hwc g ka im_55 r L d) H := hH
              obtain ⟨hO_57, hfr_56⟩ := hw_54
              obtain ⟨z_58, ez_58, hz_58⟩ := s_add (rfl : f.toInt = _) (show (1 : Int32).toInt = 1 from rfl) (by omega) (by omega)
              refine lv_iinc (v := z_58) (lv' := [(8, .int z_58), (10, .int (-1)), (9, .int (i 5 (f.toInt).toNat)), (7, .int z_43), (6, .int 1), (0, .ref (g 13)), (1, .ref (g 16)), (2, .ref (g (216 + 1 * j))), (3, .int z), (4, .int x), (5, .int y)]) hx hb dX1_fill_107 hl (k := 2) rfl ez_58 (by decide) rfl (fun ls hl => ?_)
              refine lv_goto (tgt := 161) hx hb dX1_fill_110 (by decide) ?_
              refine lv_goto (tgt := 42) hx hb dX1_fill_161 (by decide) ?_
              exact ih_lp_45 z_58 _ _ _ ls (by omega) (by omega) hO_57 (fun a ha => ((hfr_56 a (by omega)).trans (hfr_j1 a (by omega)))) (lv_sub hl [0, 3, 4, 5, 6, 7, 8, 9, 10] rfl) hH hS
            · skip
              have h_59 := s_eq (rfl : (i 5 (f.toInt).toNat).toInt = _) (show (60 : Int32).toInt = 60 from rfl) c_51
              refine lv_aload_n hx hb dX1_fill_76 rfl (lv_at hl 4 rfl) ?_
              refine lv_aload_n hx hb dX1_fill_77 rfl (lv_at hl 6 rfl) ?_
              refine h_getr (ci := 0) (C := RX0) (F := TX0) (N := 5) hx hb hts in0 hown hK hH (lt_nK (by omega)) (kd_case (by omega) (by omega)) (by decide) rfl 1 (by decide) wd0 (fun _ h9 => h9) (by decide) rfl (t := (96 + 3 * ra_2)) era_2 (lt_nK (by omega)) dX1_fill_78 ?_
              refine lv_iload hx hb dX1_fill_81 (lv_at hl 1 rfl) ?_
              refine lv_iconst (v := 1) hx hb dX1_fill_83 (by decide) ?_
              refine lv_iadd hx hb dX1_fill_84 ?_
              obtain ⟨z_60, ez_60, hz_60⟩ := s_add (rfl : f.toInt = _) (show (1 : Int32).toInt = 1 from rfl) (by omega) (by omega)
              refine sj_i ez_60 ?_
              refine lv_iload hx hb dX1_fill_85 (lv_at hl 2 rfl) ?_
              refine x_calli (va_runV (As := [.ref (g (96 + 3 * ra_2)), .int z_60, .int z_43]) (rest := []) ⟨hx, hb, hml, hown, hts⟩ (k_nameAt l D g ka ad j1 r L d ra_2 z_60 z_43 hO_j1 hR H.size (PW_fr hPW (fun a ha => ((hfr_j1 a (by omega)).trans (up2_n _ _ (by omega))))) (by first | omega | decide) (by first | omega | decide) (by first | omega | decide) (by first | omega | decide) (by first | omega | decide)) (cwV 3 hts gX1_fill_X1_nameAt rfl rfl rfl (by decide +kernel) ⟨(Nat.le_of_ble_eq_true rfl), (Nat.le_of_ble_eq_true rfl)⟩) (x_preV (q := (RX1, TX1, 5)) hH hK (q_obj (by decide) (rfl : kd 13 = 1) (by decide)) rfl gxb (gxw hE hS (x_F hH hS hA))) rfl rfl hl.1 rfl (lv_room (Nat.le_of_ble_eq_true rfl)) dX1_fill_87 ⟨(Nat.le_of_ble_eq_true rfl), (Nat.le_of_ble_eq_true rfl)⟩) hH hS hA rfl rfl (fun r_61 _ H locs hw_62 hH hS => ?_)
              have hr_64 := hw_62
              have hr_64 : (-1 : Int) ≤ r_61.toInt ∧ r_61.toInt ≤ 3 := hr_64
              refine lv_goto (tgt := 94) hx hb dX1_fill_90 (by decide) ?_
              refine lv_istore (lv' := [(10, .int r_61), (9, .int (i 5 (f.toInt).toNat)), (8, .int f), (7, .int z_43), (6, .int 1), (0, .ref (g 13)), (1, .ref (g 16)), (2, .ref (g (216 + 1 * j))), (3, .int z), (4, .int x), (5, .int y)]) hx hb dX1_fill_94 hl (by decide) rfl (fun ls hl => ?_)
              refine lv_iload hx hb dX1_fill_96 (lv_at hl 0 rfl) ?_
              refine lv_if_ge (tgt := 113) hx hb dX1_fill_98 (by decide) (fun c_65 => ?_) (fun c_65 => ?_)
              · skip
                have h_66 := s_le (show (0 : Int32).toInt = 0 from rfl) (rfl : r_61.toInt = _) c_65
                refine lv_aload_n hx hb dX1_fill_113 rfl (lv_at hl 6 rfl) ?_
                refine lv_aload_n hx hb dX1_fill_114 rfl (lv_at hl 5 rfl) ?_
                refine h_getr (ci := 1) (C := RX1) (F := TX1) (N := 5) hx hb hts in1 hown hK hH (by decide) (rfl : kd 13 = 1) (by decide) rfl 0 (by decide) wd2 (fun _ h9 => h9) (by decide) rfl (t := 3) (hR 13 0 rfl) (by decide) dX1_fill_115 ?_
                refine h_getr (ci := 5) (C := RX5) (F := TX5) (N := 19) hx hb hts in5 hown hK hH (by decide) (rfl : kd 3 = 5) (by decide) rfl 0 (by decide) wd3 (fun _ h9 => h9) (by decide) rfl (t := 4) (hR 3 0 rfl) (by decide) dX1_fill_118 ?_
                refine lv_aload_n hx hb dX1_fill_121 rfl (lv_at hl 7 rfl) ?_
                refine h_getr (ci := 0) (C := RX0) (F := TX0) (N := 5) hx hb hts in0 hown hK hH (lt_nK (by omega)) (kd_case (by omega) (by omega)) (by decide) rfl 2 (by decide) wd6 (fun _ h9 => h9) (by decide) rfl (t := (96 + 3 * rb_3)) erb_3 (lt_nK (by omega)) dX1_fill_122 ?_
                refine h_getr (ci := 6) (C := RX6) (F := TX6) (N := 4) hx hb hts in6 hown hK hH (lt_nK (by omega)) (kd_row hrb_3) (by decide) rfl 0 (by decide) wd7 (fun _ h9 => h9) (by decide) rfl (t := (96 + 3 * rb_3 + 1)) ((hR _ _ (by unfold dyn; simp <;> omega)).trans (sr_mid (by omega) (by omega))) (lt_nK (by omega)) dX1_fill_125 ?_
                refine lv_iload hx hb dX1_fill_128 (lv_at hl 0 rfl) ?_
                have bx_67 : (0 : Int) ≤ (i (96 + 3 * rb_3 + 1) (r_61.toInt).toNat).toInt ∧ (i (96 + 3 * rb_3 + 1) (r_61.toInt).toNat).toInt ≤ 480 := by have h9 := hO (96 + 3 * rb_3 + 1) (r_61.toInt).toNat; rw [bx_rowa1 hrb_3 (r_61.toInt).toNat] at h9; exact h9
                have pw_68 := hPW rb_3 (r_61.toInt).toNat (by omega) (by omega)
                refine h_iald hx hb hK hH (lt_nK (by omega)) (kd_rowa hrb_3 (by decide) (by decide)) (s_vin (N := 4) (rfl : r_61.toInt = _) (ln_rowa hrb_3 (by decide)) (by omega) (by omega)) dX1_fill_130 ?_
                have ek_69 : r_61.toNatClampNeg = (r_61.toInt).toNat := (s_cl (show r_61.toInt = r_61.toInt by omega))
                refine sj_i (y := (i (96 + 3 * rb_3 + 1) (r_61.toInt).toNat)) (by rw [ek_69]; exact ((congrFun (hfr_j1 (96 + 3 * rb_3 + 1) (by omega)) _).trans (congrFun (up2_n _ _ (by omega)) _))) ?_
                refine lv_aload_n hx hb dX1_fill_131 rfl (lv_at hl 7 rfl) ?_
                refine h_getr (ci := 0) (C := RX0) (F := TX0) (N := 5) hx hb hts in0 hown hK hH (lt_nK (by omega)) (kd_case (by omega) (by omega)) (by decide) rfl 2 (by decide) wd6 (fun _ h9 => h9) (by decide) rfl (t := (96 + 3 * rb_3)) erb_3 (lt_nK (by omega)) dX1_fill_132 ?_
                refine h_getr (ci := 6) (C := RX6) (F := TX6) (N := 4) hx hb hts in6 hown hK hH (lt_nK (by omega)) (kd_row hrb_3) (by decide) rfl 1 (by decide) wd8 (fun _ h9 => h9) (by decide) rfl (t := (96 + 3 * rb_3 + 2)) ((hR _ _ (by unfold dyn; simp <;> omega)).trans (sr_mid (by omega) (by omega))) (lt_nK (by omega)) dX1_fill_135 ?_
                refine lv_iload hx hb dX1_fill_138 (lv_at hl 0 rfl) ?_
                have bx_70 : (0 : Int) ≤ (i (96 + 3 * rb_3 + 2) (r_61.toInt).toNat).toInt ∧ (i (96 + 3 * rb_3 + 2) (r_61.toInt).toNat).toInt ≤ 60 := by have h9 := hO (96 + 3 * rb_3 + 2) (r_61.toInt).toNat; rw [bx_rowa2 hrb_3 (r_61.toInt).toNat] at h9; exact h9
                have pw_71 := hPW rb_3 (r_61.toInt).toNat (by omega) (by omega)
                refine h_iald hx hb hK hH (lt_nK (by omega)) (kd_rowa hrb_3 (by decide) (by decide)) (s_vin (N := 4) (rfl : r_61.toInt = _) (ln_rowa hrb_3 (by decide)) (by omega) (by omega)) dX1_fill_140 ?_
                have ek_72 : r_61.toNatClampNeg = (r_61.toInt).toNat := (s_cl (show r_61.toInt = r_61.toInt by omega))
                refine sj_i (y := (i (96 + 3 * rb_3 + 2) (r_61.toInt).toNat)) (by rw [ek_72]; exact ((congrFun (hfr_j1 (96 + 3 * rb_3 + 2) (by omega)) _).trans (congrFun (up2_n _ _ (by omega)) _))) ?_
                refine x_callv (va_runV (As := [.ref (g 4), .int (i (96 + 3 * rb_3 + 1) (r_61.toInt).toNat), .int (i (96 + 3 * rb_3 + 2) (r_61.toInt).toNat)]) (rest := []) ⟨hx, hb, hml, hown, hts⟩ (k_addPart_cellText l D g ka ad j1 r L d (i (96 + 3 * rb_3 + 1) (r_61.toInt).toNat) (i (96 + 3 * rb_3 + 2) (r_61.toInt).toNat) hO_j1 hR H.size (by first | omega | decide) (by first | omega | decide) (by first | omega | decide)) (cwV 3 hts gX1_fill_X3_addPart rfl rfl rfl (by decide +kernel) ⟨(Nat.le_of_ble_eq_true rfl), (Nat.le_of_ble_eq_true rfl)⟩) (x_preV (q := (RX3, TX3, 2)) hH hK (q_obj (by decide) (rfl : kd 16 = 3) (by decide)) rfl gxb (gxw hE hS (x_F hH hS hA))) rfl rfl hl.1 rfl (lv_room (Nat.le_of_ble_eq_true rfl)) dX1_fill_141 ⟨(Nat.le_of_ble_eq_true rfl), (Nat.le_of_ble_eq_true rfl)⟩) hH hS hA rfl rfl (fun im_75 H locs hw_74 hH hS => ?_)
                have hH : sj_H D A (hwc g ka im_75 r L d) H := hH
                obtain ⟨hO_77, hfr_76⟩ := hw_74
                refine lv_iload hx hb dX1_fill_144 (lv_at hl 2 rfl) ?_
                refine lv_aload_n hx hb dX1_fill_146 rfl (lv_at hl 7 rfl) ?_
                refine h_getr (ci := 0) (C := RX0) (F := TX0) (N := 5) hx hb hts in0 hown hK hH (lt_nK (by omega)) (kd_case (by omega) (by omega)) (by decide) rfl 1 (by decide) wd0 (fun _ h9 => h9) (by decide) rfl (t := (96 + 3 * ra_2)) era_2 (lt_nK (by omega)) dX1_fill_147 ?_
                refine h_getr (ci := 6) (C := RX6) (F := TX6) (N := 4) hx hb hts in6 hown hK hH (lt_nK (by omega)) (kd_row hra_2) (by decide) rfl 1 (by decide) wd8 (fun _ h9 => h9) (by decide) rfl (t := (96 + 3 * ra_2 + 2)) ((hR _ _ (by unfold dyn; simp <;> omega)).trans (sr_mid (by omega) (by omega))) (lt_nK (by omega)) dX1_fill_150 ?_
                refine lv_iload hx hb dX1_fill_153 (lv_at hl 0 rfl) ?_
                have bx_78 : (0 : Int) ≤ (i (96 + 3 * ra_2 + 2) (r_61.toInt).toNat).toInt ∧ (i (96 + 3 * ra_2 + 2) (r_61.toInt).toNat).toInt ≤ 60 := by have h9 := hO (96 + 3 * ra_2 + 2) (r_61.toInt).toNat; rw [bx_rowa2 hra_2 (r_61.toInt).toNat] at h9; exact h9
                have pw_79 := hPW ra_2 (r_61.toInt).toNat (by omega) (by omega)
                refine h_iald hx hb hK hH (lt_nK (by omega)) (kd_rowa hra_2 (by decide) (by decide)) (s_vin (N := 4) (rfl : r_61.toInt = _) (ln_rowa hra_2 (by decide)) (by omega) (by omega)) dX1_fill_155 ?_
                have ek_80 : r_61.toNatClampNeg = (r_61.toInt).toNat := (s_cl (show r_61.toInt = r_61.toInt by omega))
                refine sj_i (y := (i (96 + 3 * ra_2 + 2) (r_61.toInt).toNat)) (by rw [ek_80]; exact ((congrFun (hfr_76 (96 + 3 * ra_2 + 2) (by omega)) _).trans ((congrFun (hfr_j1 (96 + 3 * ra_2 + 2) (by omega)) _).trans (congrFun (up2_n _ _ (by omega)) _)))) ?_
                refine lv_iconst (v := 2) hx hb dX1_fill_156 (by decide) ?_
                refine lv_iadd hx hb dX1_fill_157 ?_
                obtain ⟨z_81, ez_81, hz_81⟩ := s_add (rfl : (i (96 + 3 * ra_2 + 2) (r_61.toInt).toNat).toInt = _) (show (2 : Int32).toInt = 2 from rfl) (by omega) (by omega)
                refine sj_i ez_81 ?_
                refine lv_iadd hx hb dX1_fill_158 ?_
                obtain ⟨z_82, ez_82, hz_82⟩ := s_add (rfl : f.toInt = _) (rfl : z_81.toInt = _) (by omega) (by omega)
                refine sj_i ez_82 ?_
                refine lv_istore (lv' := [(8, .int z_82), (10, .int r_61), (9, .int (i 5 (f.toInt).toNat)), (7, .int z_43), (6, .int 1), (0, .ref (g 13)), (1, .ref (g 16)), (2, .ref (g (216 + 1 * j))), (3, .int z), (4, .int x), (5, .int y)]) hx hb dX1_fill_159 hl (by decide) rfl (fun ls hl => ?_)
                refine lv_goto (tgt := 42) hx hb dX1_fill_161 (by decide) ?_
                exact ih_lp_45 z_82 _ _ _ ls (by omega) (by omega) hO_77 (fun a ha => ((hfr_76 a (by omega)).trans (hfr_j1 a (by omega)))) (lv_sub hl [0, 3, 4, 5, 6, 7, 8, 9, 10] rfl) hH hS
              · skip
                have h_83 := s_nle (show (0 : Int32).toInt = 0 from rfl) (rfl : r_61.toInt = _) c_65
                refine lv_aload_n hx hb dX1_fill_101 rfl (lv_at hl 6 rfl) ?_
                refine lv_iload hx hb dX1_fill_102 (lv_at hl 1 rfl) ?_
                refine x_callv (va_runV (As := [.int (i 5 (f.toInt).toNat)]) (rest := []) ⟨hx, hb, hml, hown, hts⟩ (k_add_cellText l D g ka ad j1 r L d (i 5 (f.toInt).toNat) hO_j1 hR H.size ) (cwV 1 hts gX1_fill_X3_add rfl rfl rfl (by decide +kernel) ⟨(Nat.le_of_ble_eq_true rfl), (Nat.le_of_ble_eq_true rfl)⟩) (x_preV (q := (RX3, TX3, 2)) hH hK (q_obj (by decide) (rfl : kd 16 = 3) (by decide)) rfl gxb (gxw hE hS (x_F hH hS hA))) rfl rfl hl.1 rfl (lv_room (Nat.le_of_ble_eq_true rfl)) dX1_fill_104 ⟨(Nat.le_of_ble_eq_true rfl), (Nat.le_of_ble_eq_true rfl)⟩) hH hS hA rfl rfl (fun im_86 H locs hw_85 hH hS => ?_)
                have hH : sj_H D A (hwc g ka im_86 r L d) H := hH
                obtain ⟨hO_88, hfr_87⟩ := hw_85
                obtain ⟨z_89, ez_89, hz_89⟩ := s_add (rfl : f.toInt = _) (show (1 : Int32).toInt = 1 from rfl) (by omega) (by omega)
                refine lv_iinc (v := z_89) (lv' := [(8, .int z_89), (10, .int r_61), (9, .int (i 5 (f.toInt).toNat)), (7, .int z_43), (6, .int 1), (0, .ref (g 13)), (1, .ref (g 16)), (2, .ref (g (216 + 1 * j))), (3, .int z), (4, .int x), (5, .int y)]) hx hb dX1_fill_107 hl (k := 2) rfl ez_89 (by decide) rfl (fun ls hl => ?_)
                refine lv_goto (tgt := 161) hx hb dX1_fill_110 (by decide) ?_
                refine lv_goto (tgt := 42) hx hb dX1_fill_161 (by decide) ?_
                exact ih_lp_45 z_89 _ _ _ ls (by omega) (by omega) hO_88 (fun a ha => ((hfr_87 a (by omega)).trans (hfr_j1 a (by omega)))) (lv_sub hl [0, 3, 4, 5, 6, 7, 8, 9, 10] rfl) hH hS
      exact lp_45 _ x _ _ _ ls (Nat.lt_succ_self _) (by omega) hO_44 (fun a ha => rfl) (lv_sub hl [0, 1, 2, 3, 4, 5, 6, 7, 8] rfl) hH hS
set_option maxHeartbeats 2000000 in
set_option maxRecDepth 100000 in
theorem k_fillStep (l : Launch) (D : va_G) (g : Nat → Nat) (ka : Nat → ClassId) (ad : Nat → Nat) (i : Nat → Nat → Int32) (r : Nat → Nat → Nat) (L : Nat → Nat → Int64) (d : Nat → Nat → UInt64) (j : Nat) (y : Int32) (hO : OkI i) (hR : RS r) (sz : Nat) (hPC : PC i r) (hj : j < 24) (hjc : (j : Int) < (i 13 4).toInt) (hPO : PO i) (hy0 : 0 ≤ y.toInt) (hy1 : y.toInt < scn i (r (216 + 1 * j) 0)) (hPW : PW i) : Met l yX1_fillStep wsX1_fillStep ({ frames := 2, cells := 0, slots := 0, locals := 56 }) (va_Pc [.ref (g 13), .ref (g (216 + 1 * j)), .int y] (sj_B D (hwc g ka i r L d) (hT ka) sz (gx ad (va_A (hwc g ka i r L d) sz)))) (sj_Qv (S := (Nat → Nat → Int32)) D (fun u => OkI u ∧ (∀ a, ¬ (a = 14 ∨ a = 15) → u a = i a)) (fun u => hwc g ka u r L d) (fun _ => []) (va_A (hwc g ka i r L d) sz)) 0 0 (va_A (hwc g ka i r L d) sz) := by
  refine x_met (Ex := gx ad) (cc := cX1_fillStep) (maxL := 4) (ret := none) (by decide) rfl (Nat.le_of_ble_eq_true rfl) ?_
  intro p e s m below meth c A ls hx hb hr hml hts hown hlocks hA hS hH hK hE hl
  have hown : s.vm.findClass RX1 = some m.cls := hown
  have in1 : ∀ w ∈ wsX10, w ∈ wsX1_fillStep := (fun _ h => (List.mem_cons_of_mem _ (List.mem_append_left _ (List.mem_append_left _ (List.mem_append_left _ (List.mem_append_left _ (List.mem_append_left _ (List.mem_append_right _ h))))))))
  have in4 : ∀ w ∈ wsX40, w ∈ wsX1_fillStep := (fun _ h => (List.mem_cons_of_mem _ (List.mem_append_left _ (List.mem_append_left _ (List.mem_append_left _ (List.mem_append_left _ (List.mem_append_right _ h)))))))
  have wd0 := hts (.fieldLink RX1 20 "StoryDesk$Cases" "stepText" "LStoryDesk$Letters;") (List.mem_cons_of_mem _ (List.mem_append_left _ (List.mem_append_left _ (List.mem_append_left _ (List.mem_append_left _ (List.mem_append_left _ (List.mem_append_left _ (List.mem_append_left _ lm0))))))))
  have wd1 := hts (.fieldLink RX1 120 "StoryDesk$Part" "start" "I") (List.mem_cons_of_mem _ (List.mem_append_left _ (List.mem_append_left _ (List.mem_append_left _ (List.mem_append_left _ (List.mem_append_left _ (List.mem_append_left _ (List.mem_append_left _ lm1))))))))
  have wd2 := hts (.fieldLink RX1 123 "StoryDesk$Part" "length" "I") (List.mem_cons_of_mem _ (List.mem_append_left _ (List.mem_append_left _ (List.mem_append_left _ (List.mem_append_left _ (List.mem_append_left _ (List.mem_append_left _ (List.mem_append_left _ lm2))))))))
  have hl : lv_has ls 4 [(0, .ref (g 13)), (1, .ref (g (216 + 1 * j))), (2, .int y)] := hl
  have hK : va_K D vwCl (hT ka) s := hK
  have hg_1 := s_rng y
  refine lv_aload_n hx hb dX1_fillStep_0 rfl (lv_at hl 0 rfl) ?_
  refine lv_aload_n hx hb dX1_fillStep_1 rfl (lv_at hl 1 rfl) ?_
  refine lv_iload_n hx hb dX1_fillStep_2 rfl (lv_at hl 2 rfl) ?_
  refine x_callq (va_runV (As := [.ref (g (216 + 1 * j)), .int y]) (rest := []) ⟨hx, hb, hml, hown, hts⟩ (k_stepOf l D g ka ad i r L d j y hO hR s.heap.size hPC (by first | omega | decide) (by first | omega | decide) hPO (by first | omega | decide) (by first | omega | decide)) (cwV 2 hts gX1_fillStep_X1_stepOf rfl rfl rfl (by decide +kernel) ⟨(Nat.le_of_ble_eq_true rfl), (Nat.le_of_ble_eq_true rfl)⟩) (x_preV (q := (RX1, TX1, 5)) hH hK (q_obj (by decide) (rfl : kd 13 = 1) (by decide)) rfl gxb (gxw hE hS (x_F hH hS hA))) rfl rfl hl.1 rfl (lv_room (Nat.le_of_ble_eq_true rfl)) dX1_fillStep_3 ⟨(Nat.le_of_ble_eq_true rfl), (Nat.le_of_ble_eq_true rfl)⟩) hH hS hA rfl rfl (fun r_2 _ H locs hw_3 hH hS => ?_)
  have he_5 := hw_3
  obtain ⟨q_6, eq_6, hq_6a, hq_6b, rfl⟩ := he_5
  refine sj_v (y := .ref (g q_6)) rfl ?_
  have pb_7 := bxp hO (p := q_6) (by omega) (by omega)
  have po_8 := hPO q_6 (by omega) (by omega)
  refine lv_astore_n (lv' := [(3, .ref (g q_6)), (0, .ref (g 13)), (1, .ref (g (216 + 1 * j))), (2, .int y)]) hx hb dX1_fillStep_6 rfl hl (by decide) rfl (fun ls hl => ?_)
  refine lv_aload_n hx hb dX1_fillStep_7 rfl (lv_at hl 1 rfl) ?_
  refine lv_aload_n hx hb dX1_fillStep_8 rfl (lv_at hl 1 rfl) ?_
  refine h_getr (ci := 1) (C := RX1) (F := TX1) (N := 5) hx hb hts in1 hown hK hH (by decide) (rfl : kd 13 = 1) (by decide) rfl 1 (by decide) wd0 (fun _ h9 => h9) (by decide) rfl (t := 14) (hR 13 1 rfl) (by decide) dX1_fillStep_9 ?_
  refine lv_aload_n hx hb dX1_fillStep_12 rfl (lv_at hl 2 rfl) ?_
  refine lv_iload_n hx hb dX1_fillStep_13 rfl (lv_at hl 3 rfl) ?_
  refine lv_aload_n hx hb dX1_fillStep_14 rfl (lv_at hl 0 rfl) ?_
  have bx_9 : (0 : Int) ≤ (i q_6 4).toInt ∧ (i q_6 4).toInt ≤ 480 := by have h9 := hO q_6 4; rw [bx_part (by omega) (by omega) 4] at h9; exact h9
  refine h_geti (ci := 4) (C := RX4) (F := TX4) (N := 9) hx hb hts in4 hown hK hH (lt_nK (by omega)) (kd_part (by omega) (by omega)) (by decide) rfl 4 (by decide) wd1 (fun _ h9 => h9) (by decide) rfl dX1_fillStep_15 ?_
  refine lv_aload_n hx hb dX1_fillStep_18 rfl (lv_at hl 0 rfl) ?_
  have bx_10 : (0 : Int) ≤ (i q_6 5).toInt ∧ (i q_6 5).toInt ≤ 60 := by have h9 := hO q_6 5; rw [bx_part (by omega) (by omega) 5] at h9; exact h9
  refine h_geti (ci := 4) (C := RX4) (F := TX4) (N := 9) hx hb hts in4 hown hK hH (lt_nK (by omega)) (kd_part (by omega) (by omega)) (by decide) rfl 5 (by decide) wd2 (fun _ h9 => h9) (by decide) rfl dX1_fillStep_19 ?_
  refine x_callv (va_runV (As := [.ref (g 14), .ref (g (216 + 1 * j)), .int y, .int (i q_6 4), .int (i q_6 5)]) (rest := []) ⟨hx, hb, hml, hown, hts⟩ (k_fill_stepText l D g ka ad i r L d j y (i q_6 4) (i q_6 5) hO hR H.size hPC (by first | omega | decide) (by first | omega | decide) hPW (by first | omega | decide) (by first | omega | decide) (by first | omega | decide)) (cwV 5 hts gX1_fillStep_X1_fill rfl rfl rfl (by decide +kernel) ⟨(Nat.le_of_ble_eq_true rfl), (Nat.le_of_ble_eq_true rfl)⟩) (x_preV (q := (RX1, TX1, 5)) hH hK (q_obj (by decide) (rfl : kd 13 = 1) (by decide)) rfl gxb (gxw hE hS (x_F hH hS hA))) rfl rfl hl.1 rfl (lv_room (Nat.le_of_ble_eq_true rfl)) dX1_fillStep_22 ⟨(Nat.le_of_ble_eq_true rfl), (Nat.le_of_ble_eq_true rfl)⟩) hH hS hA rfl rfl (fun im_13 H locs hw_12 hH hS => ?_)
  have hH : sj_H D A (hwc g ka im_13 r L d) H := hH
  obtain ⟨hO_15, hfr_14⟩ := hw_12
  exact sj_vret hx hb hr hlocks hS im_13 ⟨hO_15, (fun a ha => (hfr_14 a (by omega)))⟩ hH (sj_Knil hK) (Nat.le_of_ble_eq_true rfl) (Nat.le_of_ble_eq_true rfl) dX1_fillStep_25
set_option maxHeartbeats 2000000 in
set_option maxRecDepth 100000 in
theorem k_hasCell (l : Launch) (D : va_G) (g : Nat → Nat) (ka : Nat → ClassId) (ad : Nat → Nat) (i : Nat → Nat → Int32) (r : Nat → Nat → Nat) (L : Nat → Nat → Int64) (d : Nat → Nat → UInt64) (j : Nat) (y : Int32) (x : Int32) (z : Int32) (hO : OkI i) (hR : RS r) (sz : Nat) (hPC : PC i r) (hj : j < 24) (hjc : (j : Int) < (i 13 4).toInt) (hPO : PO i) (hy0 : 0 ≤ y.toInt) (hy1 : y.toInt < scn i (r (216 + 1 * j) 0)) : Met l yX1_hasCell wsX1_hasCell ({ frames := 2, cells := 0, slots := 0, locals := 46 }) (va_Pc [.ref (g 13), .ref (g (216 + 1 * j)), .int y, .int x, .int z] (sj_B D (hwc g ka i r L d) (hT ka) sz (gx ad (va_A (hwc g ka i r L d) sz)))) (sj_Qi (S := Unit) D (fun v u => ((0 : Int) ≤ v.toInt ∧ v.toInt ≤ 1) ∧ (v.toInt = 1 → (0 ≤ x.toInt ∧ x.toInt < (i (54 + stp i (r (216 + 1 * j) 0) y.toInt).toNat 3).toInt ∧ 0 ≤ z.toInt ∧ z.toInt ≤ 3))) (fun _ => hwc g ka i r L d) (fun _ => []) (va_A (hwc g ka i r L d) sz)) 0 0 (va_A (hwc g ka i r L d) sz) := by
  refine x_met (Ex := gx ad) (cc := cX1_hasCell) (maxL := 6) (ret := (some .boolean)) (by decide) rfl (Nat.le_of_ble_eq_true rfl) ?_
  intro p e s m below meth c A ls hx hb hr hml hts hown hlocks hA hS hH hK hE hl
  have hown : s.vm.findClass RX1 = some m.cls := hown
  have in1 : ∀ w ∈ wsX10, w ∈ wsX1_hasCell := (fun _ h => (List.mem_cons_of_mem _ (List.mem_append_left _ (List.mem_append_left _ (List.mem_append_left _ (List.mem_append_right _ h))))))
  have in4 : ∀ w ∈ wsX40, w ∈ wsX1_hasCell := (fun _ h => (List.mem_cons_of_mem _ (List.mem_append_left _ (List.mem_append_left _ (List.mem_append_left _ (List.mem_append_left _ (List.mem_append_right _ h)))))))
  have in5 : ∀ w ∈ wsX50, w ∈ wsX1_hasCell := (fun _ h => (List.mem_cons_of_mem _ (List.mem_append_left _ (List.mem_append_left _ (List.mem_append_right _ h)))))
  have in6 : ∀ w ∈ wsX60, w ∈ wsX1_hasCell := (fun _ h => (List.mem_cons_of_mem _ (List.mem_append_left _ (List.mem_append_right _ h))))
  have wd0 := hts (.fieldLink RX1 68 "StoryDesk$Part" "count" "I") (List.mem_cons_of_mem _ (List.mem_append_left _ (List.mem_append_left _ (List.mem_append_left _ (List.mem_append_left _ (List.mem_append_left _ lm0))))))
  have wd1 := hts (.fieldLink RX1 9 "StoryDesk$Cases" "reading" "LStoryDesk$Reading;") (List.mem_cons_of_mem _ (List.mem_append_left _ (List.mem_append_left _ (List.mem_append_left _ (List.mem_append_left _ (List.mem_append_left _ lm1))))))
  have wd2 := hts (.fieldLink RX1 72 "StoryDesk$Reading" "rows" "[LStoryDesk$Row;") (List.mem_cons_of_mem _ (List.mem_append_left _ (List.mem_append_left _ (List.mem_append_left _ (List.mem_append_left _ (List.mem_append_left _ lm2))))))
  have wd3 := hts (.fieldLink RX1 76 "StoryDesk$Part" "first" "I") (List.mem_cons_of_mem _ (List.mem_append_left _ (List.mem_append_left _ (List.mem_append_left _ (List.mem_append_left _ (List.mem_append_left _ lm3))))))
  have wd4 := hts (.fieldLink RX1 115 "StoryDesk$Row" "width" "I") (List.mem_cons_of_mem _ (List.mem_append_left _ (List.mem_append_left _ (List.mem_append_left _ (List.mem_append_left _ (List.mem_append_left _ lm4))))))
  have hl : lv_has ls 6 [(0, .ref (g 13)), (1, .ref (g (216 + 1 * j))), (2, .int y), (3, .int x), (4, .int z)] := hl
  have hK : va_K D vwCl (hT ka) s := hK
  have hg_1 := s_rng y
  have hg_2 := s_rng x
  have hg_3 := s_rng z
  refine lv_aload_n hx hb dX1_hasCell_0 rfl (lv_at hl 0 rfl) ?_
  refine lv_aload_n hx hb dX1_hasCell_1 rfl (lv_at hl 1 rfl) ?_
  refine lv_iload_n hx hb dX1_hasCell_2 rfl (lv_at hl 2 rfl) ?_
  refine x_callq (va_runV (As := [.ref (g (216 + 1 * j)), .int y]) (rest := []) ⟨hx, hb, hml, hown, hts⟩ (k_stepOf l D g ka ad i r L d j y hO hR s.heap.size hPC (by first | omega | decide) (by first | omega | decide) hPO (by first | omega | decide) (by first | omega | decide)) (cwV 2 hts gX1_hasCell_X1_stepOf rfl rfl rfl (by decide +kernel) ⟨(Nat.le_of_ble_eq_true rfl), (Nat.le_of_ble_eq_true rfl)⟩) (x_preV (q := (RX1, TX1, 5)) hH hK (q_obj (by decide) (rfl : kd 13 = 1) (by decide)) rfl gxb (gxw hE hS (x_F hH hS hA))) rfl rfl hl.1 rfl (lv_room (Nat.le_of_ble_eq_true rfl)) dX1_hasCell_3 ⟨(Nat.le_of_ble_eq_true rfl), (Nat.le_of_ble_eq_true rfl)⟩) hH hS hA rfl rfl (fun r_4 _ H locs hw_5 hH hS => ?_)
  have he_7 := hw_5
  obtain ⟨q_8, eq_8, hq_8a, hq_8b, rfl⟩ := he_7
  refine sj_v (y := .ref (g q_8)) rfl ?_
  have pb_9 := bxp hO (p := q_8) (by omega) (by omega)
  have po_10 := hPO q_8 (by omega) (by omega)
  have hsq : (54 + stp i (r (216 + 1 * j) 0) y.toInt).toNat = q_8 := by omega
  refine lv_astore (lv' := [(5, .ref (g q_8)), (0, .ref (g 13)), (1, .ref (g (216 + 1 * j))), (2, .int y), (3, .int x), (4, .int z)]) hx hb dX1_hasCell_6 hl (by decide) rfl (fun ls hl => ?_)
  refine lv_iload_n hx hb dX1_hasCell_8 rfl (lv_at hl 4 rfl) ?_
  refine lv_if_lt (tgt := 53) hx hb dX1_hasCell_9 (by decide) (fun c_11 => ?_) (fun c_11 => ?_)
  · skip
    have h_12 := s_lt (rfl : x.toInt = _) (show (0 : Int32).toInt = 0 from rfl) c_11
    refine lv_iconst (v := 0) hx hb dX1_hasCell_53 (by decide) ?_
    have hlv_13 : (0 : Int32).toInt = 0 := rfl
    exact sj_zret hx hb hr hlocks (by decide +kernel) hS () ⟨⟨by decide, by decide⟩, (fun h => absurd h (by decide))⟩ hH (sj_Knil hK) (Nat.le_of_ble_eq_true rfl) (Nat.le_of_ble_eq_true rfl) dX1_hasCell_54
  · skip
    have h_14 := s_nlt (rfl : x.toInt = _) (show (0 : Int32).toInt = 0 from rfl) c_11
    refine lv_iload_n hx hb dX1_hasCell_12 rfl (lv_at hl 4 rfl) ?_
    refine lv_aload hx hb dX1_hasCell_13 (lv_at hl 0 rfl) ?_
    have bx_15 : (0 : Int) ≤ (i q_8 3).toInt ∧ (i q_8 3).toInt ≤ 40 := by have h9 := hO q_8 3; rw [bx_part (by omega) (by omega) 3] at h9; exact h9
    refine h_geti (ci := 4) (C := RX4) (F := TX4) (N := 9) hx hb hts in4 hown hK hH (lt_nK (by omega)) (kd_part (by omega) (by omega)) (by decide) rfl 3 (by decide) wd0 (fun _ h9 => h9) (by decide) rfl dX1_hasCell_15 ?_
    refine lv_icmp_ge (tgt := 53) hx hb dX1_hasCell_18 (by decide) (fun c_16 => ?_) (fun c_16 => ?_)
    · skip
      have h_17 := s_le (rfl : (i q_8 3).toInt = _) (rfl : x.toInt = _) c_16
      refine lv_iconst (v := 0) hx hb dX1_hasCell_53 (by decide) ?_
      have hlv_18 : (0 : Int32).toInt = 0 := rfl
      exact sj_zret hx hb hr hlocks (by decide +kernel) hS () ⟨⟨by decide, by decide⟩, (fun h => absurd h (by decide))⟩ hH (sj_Knil hK) (Nat.le_of_ble_eq_true rfl) (Nat.le_of_ble_eq_true rfl) dX1_hasCell_54
    · skip
      have h_19 := s_nle (rfl : (i q_8 3).toInt = _) (rfl : x.toInt = _) c_16
      refine lv_iload hx hb dX1_hasCell_21 (lv_at hl 5 rfl) ?_
      refine lv_if_lt (tgt := 53) hx hb dX1_hasCell_23 (by decide) (fun c_20 => ?_) (fun c_20 => ?_)
      · skip
        have h_21 := s_lt (rfl : z.toInt = _) (show (0 : Int32).toInt = 0 from rfl) c_20
        refine lv_iconst (v := 0) hx hb dX1_hasCell_53 (by decide) ?_
        have hlv_22 : (0 : Int32).toInt = 0 := rfl
        exact sj_zret hx hb hr hlocks (by decide +kernel) hS () ⟨⟨by decide, by decide⟩, (fun h => absurd h (by decide))⟩ hH (sj_Knil hK) (Nat.le_of_ble_eq_true rfl) (Nat.le_of_ble_eq_true rfl) dX1_hasCell_54
      · skip
        have h_23 := s_nlt (rfl : z.toInt = _) (show (0 : Int32).toInt = 0 from rfl) c_20
        refine lv_iload hx hb dX1_hasCell_26 (lv_at hl 5 rfl) ?_
        refine lv_aload_n hx hb dX1_hasCell_28 rfl (lv_at hl 1 rfl) ?_
        refine h_getr (ci := 1) (C := RX1) (F := TX1) (N := 5) hx hb hts in1 hown hK hH (by decide) (rfl : kd 13 = 1) (by decide) rfl 0 (by decide) wd1 (fun _ h9 => h9) (by decide) rfl (t := 3) (hR 13 0 rfl) (by decide) dX1_hasCell_29 ?_
        refine h_getr (ci := 5) (C := RX5) (F := TX5) (N := 19) hx hb hts in5 hown hK hH (by decide) (rfl : kd 3 = 5) (by decide) rfl 13 (by decide) wd2 (fun _ h9 => h9) (by decide) rfl (t := 12) (hR 3 13 rfl) (by decide) dX1_hasCell_32 ?_
        refine lv_aload hx hb dX1_hasCell_35 (lv_at hl 0 rfl) ?_
        have bx_24 : (0 : Int) ≤ (i q_8 2).toInt ∧ (i q_8 2).toInt ≤ 40 := by have h9 := hO q_8 2; rw [bx_part (by omega) (by omega) 2] at h9; exact h9
        refine h_geti (ci := 4) (C := RX4) (F := TX4) (N := 9) hx hb hts in4 hown hK hH (lt_nK (by omega)) (kd_part (by omega) (by omega)) (by decide) rfl 2 (by decide) wd3 (fun _ h9 => h9) (by decide) rfl dX1_hasCell_37 ?_
        refine lv_iload_n hx hb dX1_hasCell_40 rfl (lv_at hl 4 rfl) ?_
        refine lv_iadd hx hb dX1_hasCell_41 ?_
        obtain ⟨z_25, ez_25, hz_25⟩ := s_add (rfl : (i q_8 2).toInt = _) (rfl : x.toInt = _) (by omega) (by omega)
        refine sj_i ez_25 ?_
        obtain ⟨j_26, ej_26, hj_26⟩ : ∃ j : Nat, (z_25).toNatClampNeg = j ∧ (j : Int) = z_25.toInt := ⟨_, rfl, by rw [s_cl (rfl : z_25.toInt = _)]; omega⟩
        have lj_26 : j_26 < 40 := by omega
        refine h_qald hx hb hK hH (by decide) (rfl : kd 12 = 24) (by decide) rfl (s_vin (N := 40) (rfl : z_25.toInt = _) (rfl : ln 12 = 40) (by omega) (by omega)) (t := (96 + 3 * j_26)) (by rw [ej_26]; exact (hR 12 j_26 rfl)) (lt_nK (by omega)) dX1_hasCell_42 ?_
        have bx_27 : (0 : Int) ≤ (i (96 + 3 * j_26) 2).toInt ∧ (i (96 + 3 * j_26) 2).toInt ≤ 4 := by have h9 := hO (96 + 3 * j_26) 2; rw [bx_row lj_26 2] at h9; exact h9
        refine h_geti (ci := 6) (C := RX6) (F := TX6) (N := 4) hx hb hts in6 hown hK hH (lt_nK (by omega)) (kd_row lj_26) (by decide) rfl 2 (by decide) wd4 (fun _ h9 => h9) (by decide) rfl dX1_hasCell_43 ?_
        refine lv_icmp_ge (tgt := 53) hx hb dX1_hasCell_46 (by decide) (fun c_28 => ?_) (fun c_28 => ?_)
        · skip
          have h_29 := s_le (rfl : (i (96 + 3 * j_26) 2).toInt = _) (rfl : z.toInt = _) c_28
          refine lv_iconst (v := 0) hx hb dX1_hasCell_53 (by decide) ?_
          have hlv_30 : (0 : Int32).toInt = 0 := rfl
          exact sj_zret hx hb hr hlocks (by decide +kernel) hS () ⟨⟨by decide, by decide⟩, (fun h => absurd h (by decide))⟩ hH (sj_Knil hK) (Nat.le_of_ble_eq_true rfl) (Nat.le_of_ble_eq_true rfl) dX1_hasCell_54
        · skip
          have h_31 := s_nle (rfl : (i (96 + 3 * j_26) 2).toInt = _) (rfl : z.toInt = _) c_28
          refine lv_iconst (v := 1) hx hb dX1_hasCell_49 (by decide) ?_
          refine lv_goto (tgt := 54) hx hb dX1_hasCell_50 (by decide) ?_
          have hlv_32 : (1 : Int32).toInt = 1 := rfl
          exact sj_zret hx hb hr hlocks (by decide +kernel) hS () ⟨⟨by decide, by decide⟩, (fun _ => by rw [hsq]; omega)⟩ hH (sj_Knil hK) (Nat.le_of_ble_eq_true rfl) (Nat.le_of_ble_eq_true rfl) dX1_hasCell_54
set_option maxHeartbeats 2000000 in
set_option maxRecDepth 100000 in
theorem k_fillCell (l : Launch) (D : va_G) (g : Nat → Nat) (ka : Nat → ClassId) (ad : Nat → Nat) (i : Nat → Nat → Int32) (r : Nat → Nat → Nat) (L : Nat → Nat → Int64) (d : Nat → Nat → UInt64) (j : Nat) (y : Int32) (x : Int32) (z : Int32) (hO : OkI i) (hR : RS r) (sz : Nat) (hPC : PC i r) (hj : j < 24) (hjc : (j : Int) < (i 13 4).toInt) (hPO : PO i) (hy0 : 0 ≤ y.toInt) (hy1 : y.toInt < scn i (r (216 + 1 * j) 0)) (hPW : PW i) (hx0 : 0 ≤ x.toInt) (hx1 : x.toInt < (i (54 + stp i (r (216 + 1 * j) 0) y.toInt).toNat 3).toInt) (hz0 : 0 ≤ z.toInt) (hz1 : z.toInt ≤ 3) : Met l yX1_fillCell wsX1_fillCell ({ frames := 2, cells := 0, slots := 0, locals := 56 }) (va_Pc [.ref (g 13), .ref (g (216 + 1 * j)), .int y, .int x, .int z] (sj_B D (hwc g ka i r L d) (hT ka) sz (gx ad (va_A (hwc g ka i r L d) sz)))) (sj_Qv (S := (Nat → Nat → Int32)) D (fun u => OkI u ∧ (∀ a, ¬ (a = 16 ∨ a = 17) → u a = i a)) (fun u => hwc g ka u r L d) (fun _ => []) (va_A (hwc g ka i r L d) sz)) 0 0 (va_A (hwc g ka i r L d) sz) := by
  refine x_met (Ex := gx ad) (cc := cX1_fillCell) (maxL := 6) (ret := none) (by decide) rfl (Nat.le_of_ble_eq_true rfl) ?_
  intro p e s m below meth c A ls hx hb hr hml hts hown hlocks hA hS hH hK hE hl
  have hown : s.vm.findClass RX1 = some m.cls := hown
  have in1 : ∀ w ∈ wsX10, w ∈ wsX1_fillCell := (fun _ h => (List.mem_cons_of_mem _ (List.mem_append_left _ (List.mem_append_left _ (List.mem_append_left _ (List.mem_append_left _ (List.mem_append_left _ (List.mem_append_right _ h))))))))
  have in4 : ∀ w ∈ wsX40, w ∈ wsX1_fillCell := (fun _ h => (List.mem_cons_of_mem _ (List.mem_append_left _ (List.mem_append_left _ (List.mem_append_left _ (List.mem_append_right _ h))))))
  have in5 : ∀ w ∈ wsX50, w ∈ wsX1_fillCell := (fun _ h => (List.mem_cons_of_mem _ (List.mem_append_left _ (List.mem_append_left _ (List.mem_append_left _ (List.mem_append_left _ (List.mem_append_right _ h)))))))
  have in6 : ∀ w ∈ wsX60, w ∈ wsX1_fillCell := (fun _ h => (List.mem_cons_of_mem _ (List.mem_append_left _ (List.mem_append_left _ (List.mem_append_right _ h)))))
  have wd0 := hts (.fieldLink RX1 9 "StoryDesk$Cases" "reading" "LStoryDesk$Reading;") (List.mem_cons_of_mem _ (List.mem_append_left _ (List.mem_append_left _ (List.mem_append_left _ (List.mem_append_left _ (List.mem_append_left _ (List.mem_append_left _ (List.mem_append_left _ lm0))))))))
  have wd1 := hts (.fieldLink RX1 72 "StoryDesk$Reading" "rows" "[LStoryDesk$Row;") (List.mem_cons_of_mem _ (List.mem_append_left _ (List.mem_append_left _ (List.mem_append_left _ (List.mem_append_left _ (List.mem_append_left _ (List.mem_append_left _ (List.mem_append_left _ lm1))))))))
  have wd2 := hts (.fieldLink RX1 76 "StoryDesk$Part" "first" "I") (List.mem_cons_of_mem _ (List.mem_append_left _ (List.mem_append_left _ (List.mem_append_left _ (List.mem_append_left _ (List.mem_append_left _ (List.mem_append_left _ (List.mem_append_left _ lm2))))))))
  have wd3 := hts (.fieldLink RX1 24 "StoryDesk$Cases" "cellText" "LStoryDesk$Letters;") (List.mem_cons_of_mem _ (List.mem_append_left _ (List.mem_append_left _ (List.mem_append_left _ (List.mem_append_left _ (List.mem_append_left _ (List.mem_append_left _ (List.mem_append_left _ lm3))))))))
  have wd4 := hts (.fieldLink RX1 130 "StoryDesk$Row" "starts" "[I") (List.mem_cons_of_mem _ (List.mem_append_left _ (List.mem_append_left _ (List.mem_append_left _ (List.mem_append_left _ (List.mem_append_left _ (List.mem_append_left _ (List.mem_append_left _ lm4))))))))
  have wd5 := hts (.fieldLink RX1 134 "StoryDesk$Row" "lengths" "[I") (List.mem_cons_of_mem _ (List.mem_append_left _ (List.mem_append_left _ (List.mem_append_left _ (List.mem_append_left _ (List.mem_append_left _ (List.mem_append_left _ (List.mem_append_left _ lm5))))))))
  have hl : lv_has ls 6 [(0, .ref (g 13)), (1, .ref (g (216 + 1 * j))), (2, .int y), (3, .int x), (4, .int z)] := hl
  have hK : va_K D vwCl (hT ka) s := hK
  have hg_1 := s_rng y
  refine lv_aload_n hx hb dX1_fillCell_0 rfl (lv_at hl 0 rfl) ?_
  refine h_getr (ci := 1) (C := RX1) (F := TX1) (N := 5) hx hb hts in1 hown hK hH (by decide) (rfl : kd 13 = 1) (by decide) rfl 0 (by decide) wd0 (fun _ h9 => h9) (by decide) rfl (t := 3) (hR 13 0 rfl) (by decide) dX1_fillCell_1 ?_
  refine h_getr (ci := 5) (C := RX5) (F := TX5) (N := 19) hx hb hts in5 hown hK hH (by decide) (rfl : kd 3 = 5) (by decide) rfl 13 (by decide) wd1 (fun _ h9 => h9) (by decide) rfl (t := 12) (hR 3 13 rfl) (by decide) dX1_fillCell_4 ?_
  refine lv_aload_n hx hb dX1_fillCell_7 rfl (lv_at hl 0 rfl) ?_
  refine lv_aload_n hx hb dX1_fillCell_8 rfl (lv_at hl 1 rfl) ?_
  refine lv_iload_n hx hb dX1_fillCell_9 rfl (lv_at hl 2 rfl) ?_
  refine x_callq (va_runV (As := [.ref (g (216 + 1 * j)), .int y]) (rest := [.ref (g 12)]) ⟨hx, hb, hml, hown, hts⟩ (k_stepOf l D g ka ad i r L d j y hO hR s.heap.size hPC (by first | omega | decide) (by first | omega | decide) hPO (by first | omega | decide) (by first | omega | decide)) (cwV 2 hts gX1_fillCell_X1_stepOf rfl rfl rfl (by decide +kernel) ⟨(Nat.le_of_ble_eq_true rfl), (Nat.le_of_ble_eq_true rfl)⟩) (x_preV (q := (RX1, TX1, 5)) hH hK (q_obj (by decide) (rfl : kd 13 = 1) (by decide)) rfl gxb (gxw hE hS (x_F hH hS hA))) rfl rfl hl.1 rfl (lv_room (Nat.le_of_ble_eq_true rfl)) dX1_fillCell_10 ⟨(Nat.le_of_ble_eq_true rfl), (Nat.le_of_ble_eq_true rfl)⟩) hH hS hA rfl rfl (fun r_2 _ H locs hw_3 hH hS => ?_)
  have he_5 := hw_3
  obtain ⟨q_6, eq_6, hq_6a, hq_6b, rfl⟩ := he_5
  refine sj_v (y := .ref (g q_6)) rfl ?_
  have pb_7 := bxp hO (p := q_6) (by omega) (by omega)
  have po_8 := hPO q_6 (by omega) (by omega)
  have hsq : (54 + stp i (r (216 + 1 * j) 0) y.toInt).toNat = q_6 := by omega
  rw [hsq] at hx1
  have bx_9 : (0 : Int) ≤ (i q_6 2).toInt ∧ (i q_6 2).toInt ≤ 40 := by have h9 := hO q_6 2; rw [bx_part (by omega) (by omega) 2] at h9; exact h9
  refine h_geti (ci := 4) (C := RX4) (F := TX4) (N := 9) hx hb hts in4 hown hK hH (lt_nK (by omega)) (kd_part (by omega) (by omega)) (by decide) rfl 2 (by decide) wd2 (fun _ h9 => h9) (by decide) rfl dX1_fillCell_13 ?_
  refine lv_iload_n hx hb dX1_fillCell_16 rfl (lv_at hl 3 rfl) ?_
  refine lv_iadd hx hb dX1_fillCell_17 ?_
  obtain ⟨z_10, ez_10, hz_10⟩ := s_add (rfl : (i q_6 2).toInt = _) (rfl : x.toInt = _) (by omega) (by omega)
  refine sj_i ez_10 ?_
  obtain ⟨j_11, ej_11, hj_11⟩ : ∃ j : Nat, (z_10).toNatClampNeg = j ∧ (j : Int) = z_10.toInt := ⟨_, rfl, by rw [s_cl (rfl : z_10.toInt = _)]; omega⟩
  have lj_11 : j_11 < 40 := by omega
  refine h_qald hx hb hK hH (by decide) (rfl : kd 12 = 24) (by decide) rfl (s_vin (N := 40) (rfl : z_10.toInt = _) (rfl : ln 12 = 40) (by omega) (by omega)) (t := (96 + 3 * j_11)) (by rw [ej_11]; exact (hR 12 j_11 rfl)) (lt_nK (by omega)) dX1_fillCell_18 ?_
  refine lv_astore (lv' := [(5, .ref (g (96 + 3 * j_11))), (0, .ref (g 13)), (1, .ref (g (216 + 1 * j))), (2, .int y), (3, .int x), (4, .int z)]) hx hb dX1_fillCell_19 hl (by decide) rfl (fun ls hl => ?_)
  refine lv_aload_n hx hb dX1_fillCell_21 rfl (lv_at hl 1 rfl) ?_
  refine lv_aload_n hx hb dX1_fillCell_22 rfl (lv_at hl 1 rfl) ?_
  refine h_getr (ci := 1) (C := RX1) (F := TX1) (N := 5) hx hb hts in1 hown hK hH (by decide) (rfl : kd 13 = 1) (by decide) rfl 2 (by decide) wd3 (fun _ h9 => h9) (by decide) rfl (t := 16) (hR 13 2 rfl) (by decide) dX1_fillCell_23 ?_
  refine lv_aload_n hx hb dX1_fillCell_26 rfl (lv_at hl 2 rfl) ?_
  refine lv_iload_n hx hb dX1_fillCell_27 rfl (lv_at hl 3 rfl) ?_
  refine lv_aload hx hb dX1_fillCell_28 (lv_at hl 0 rfl) ?_
  refine h_getr (ci := 6) (C := RX6) (F := TX6) (N := 4) hx hb hts in6 hown hK hH (lt_nK (by omega)) (kd_row lj_11) (by decide) rfl 0 (by decide) wd4 (fun _ h9 => h9) (by decide) rfl (t := (96 + 3 * j_11 + 1)) ((hR _ _ (by unfold dyn; simp <;> omega)).trans (sr_mid (by omega) (by omega))) (lt_nK (by omega)) dX1_fillCell_30 ?_
  refine lv_iload hx hb dX1_fillCell_33 (lv_at hl 5 rfl) ?_
  have bx_12 : (0 : Int) ≤ (i (96 + 3 * j_11 + 1) (z.toInt).toNat).toInt ∧ (i (96 + 3 * j_11 + 1) (z.toInt).toNat).toInt ≤ 480 := by have h9 := hO (96 + 3 * j_11 + 1) (z.toInt).toNat; rw [bx_rowa1 lj_11 (z.toInt).toNat] at h9; exact h9
  have pw_13 := hPW j_11 (z.toInt).toNat (by omega) (by omega)
  refine h_iald hx hb hK hH (lt_nK (by omega)) (kd_rowa lj_11 (by decide) (by decide)) (s_vin (N := 4) (rfl : z.toInt = _) (ln_rowa lj_11 (by decide)) (by omega) (by omega)) dX1_fillCell_35 ?_
  have ek_14 : z.toNatClampNeg = (z.toInt).toNat := (s_cl (show z.toInt = z.toInt by omega))
  refine sj_i (y := (i (96 + 3 * j_11 + 1) (z.toInt).toNat)) (by rw [ek_14]) ?_
  refine lv_aload hx hb dX1_fillCell_36 (lv_at hl 0 rfl) ?_
  refine h_getr (ci := 6) (C := RX6) (F := TX6) (N := 4) hx hb hts in6 hown hK hH (lt_nK (by omega)) (kd_row lj_11) (by decide) rfl 1 (by decide) wd5 (fun _ h9 => h9) (by decide) rfl (t := (96 + 3 * j_11 + 2)) ((hR _ _ (by unfold dyn; simp <;> omega)).trans (sr_mid (by omega) (by omega))) (lt_nK (by omega)) dX1_fillCell_38 ?_
  refine lv_iload hx hb dX1_fillCell_41 (lv_at hl 5 rfl) ?_
  have bx_15 : (0 : Int) ≤ (i (96 + 3 * j_11 + 2) (z.toInt).toNat).toInt ∧ (i (96 + 3 * j_11 + 2) (z.toInt).toNat).toInt ≤ 60 := by have h9 := hO (96 + 3 * j_11 + 2) (z.toInt).toNat; rw [bx_rowa2 lj_11 (z.toInt).toNat] at h9; exact h9
  have pw_16 := hPW j_11 (z.toInt).toNat (by omega) (by omega)
  refine h_iald hx hb hK hH (lt_nK (by omega)) (kd_rowa lj_11 (by decide) (by decide)) (s_vin (N := 4) (rfl : z.toInt = _) (ln_rowa lj_11 (by decide)) (by omega) (by omega)) dX1_fillCell_43 ?_
  have ek_17 : z.toNatClampNeg = (z.toInt).toNat := (s_cl (show z.toInt = z.toInt by omega))
  refine sj_i (y := (i (96 + 3 * j_11 + 2) (z.toInt).toNat)) (by rw [ek_17]) ?_
  refine x_callv (va_runV (As := [.ref (g 16), .ref (g (216 + 1 * j)), .int y, .int (i (96 + 3 * j_11 + 1) (z.toInt).toNat), .int (i (96 + 3 * j_11 + 2) (z.toInt).toNat)]) (rest := []) ⟨hx, hb, hml, hown, hts⟩ (k_fill_cellText l D g ka ad i r L d j y (i (96 + 3 * j_11 + 1) (z.toInt).toNat) (i (96 + 3 * j_11 + 2) (z.toInt).toNat) hO hR H.size hPC (by first | omega | decide) (by first | omega | decide) hPW (by first | omega | decide) (by first | omega | decide) (by first | omega | decide)) (cwV 5 hts gX1_fillCell_X1_fill rfl rfl rfl (by decide +kernel) ⟨(Nat.le_of_ble_eq_true rfl), (Nat.le_of_ble_eq_true rfl)⟩) (x_preV (q := (RX1, TX1, 5)) hH hK (q_obj (by decide) (rfl : kd 13 = 1) (by decide)) rfl gxb (gxw hE hS (x_F hH hS hA))) rfl rfl hl.1 rfl (lv_room (Nat.le_of_ble_eq_true rfl)) dX1_fillCell_44 ⟨(Nat.le_of_ble_eq_true rfl), (Nat.le_of_ble_eq_true rfl)⟩) hH hS hA rfl rfl (fun im_20 H locs hw_19 hH hS => ?_)
  have hH : sj_H D A (hwc g ka im_20 r L d) H := hH
  obtain ⟨hO_22, hfr_21⟩ := hw_19
  exact sj_vret hx hb hr hlocks hS im_20 ⟨hO_22, (fun a ha => (hfr_21 a (by omega)))⟩ hH (sj_Knil hK) (Nat.le_of_ble_eq_true rfl) (Nat.le_of_ble_eq_true rfl) dX1_fillCell_47
