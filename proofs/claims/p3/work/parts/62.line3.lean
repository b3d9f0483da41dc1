/-- EXAMPLES have room at their SCENARIO -/
def okO (i : Nat → Nat → Int32) (o : Nat) (k : Int) : Prop := k = 7 → (i o 8).toInt < 12
theorem dX4_begin_0 : decode cX4_begin 0 = .ok (.aload_n 0, 1) := by decide +kernel
theorem dX4_begin_1 : decode cX4_begin 1 = .ok (.iload_n 1, 1) := by decide +kernel
theorem dX4_begin_2 : decode cX4_begin 2 = .ok (.putfield 7, 3) := by decide +kernel
theorem dX4_begin_5 : decode cX4_begin 5 = .ok (.aload_n 0, 1) := by decide +kernel
theorem dX4_begin_6 : decode cX4_begin 6 = .ok (.iload_n 2, 1) := by decide +kernel
theorem dX4_begin_7 : decode cX4_begin 7 = .ok (.putfield 13, 3) := by decide +kernel
theorem dX4_begin_10 : decode cX4_begin 10 = .ok (.aload_n 0, 1) := by decide +kernel
theorem dX4_begin_11 : decode cX4_begin 11 = .ok (.iload_n 3, 1) := by decide +kernel
theorem dX4_begin_12 : decode cX4_begin 12 = .ok (.putfield 16, 3) := by decide +kernel
theorem dX4_begin_15 : decode cX4_begin 15 = .ok (.aload_n 0, 1) := by decide +kernel
theorem dX4_begin_16 : decode cX4_begin 16 = .ok (.iconst 0, 1) := by decide +kernel
theorem dX4_begin_17 : decode cX4_begin 17 = .ok (.putfield 19, 3) := by decide +kernel
theorem dX4_begin_20 : decode cX4_begin 20 = .ok (.aload_n 0, 1) := by decide +kernel
theorem dX4_begin_21 : decode cX4_begin 21 = .ok (.iconst 0, 1) := by decide +kernel
theorem dX4_begin_22 : decode cX4_begin 22 = .ok (.putfield 22, 3) := by decide +kernel
theorem dX4_begin_25 : decode cX4_begin 25 = .ok (.return_, 1) := by decide +kernel
theorem dX5_addError_0 : decode cX5_addError 0 = .ok (.aload_n 0, 1) := by decide +kernel
theorem dX5_addError_1 : decode cX5_addError 1 = .ok (.getfield 91, 3) := by decide +kernel
theorem dX5_addError_4 : decode cX5_addError 4 = .ok (.bipush 20, 2) := by decide +kernel
theorem dX5_addError_6 : decode cX5_addError 6 = .ok (.if_icmp .ge 33, 3) := by decide +kernel
theorem dX5_addError_39 : decode cX5_addError 39 = .ok (.return_, 1) := by decide +kernel
theorem dX5_addError_9 : decode cX5_addError 9 = .ok (.aload_n 0, 1) := by decide +kernel
theorem dX5_addError_10 : decode cX5_addError 10 = .ok (.getfield 20, 3) := by decide +kernel
theorem dX5_addError_13 : decode cX5_addError 13 = .ok (.aload_n 0, 1) := by decide +kernel
theorem dX5_addError_14 : decode cX5_addError 14 = .ok (.getfield 91, 3) := by decide +kernel
theorem dX5_addError_17 : decode cX5_addError 17 = .ok (.iload_n 1, 1) := by decide +kernel
theorem dX5_addError_18 : decode cX5_addError 18 = .ok (.iastore, 1) := by decide +kernel
theorem dX5_addError_19 : decode cX5_addError 19 = .ok (.aload_n 0, 1) := by decide +kernel
theorem dX5_addError_20 : decode cX5_addError 20 = .ok (.getfield 24, 3) := by decide +kernel
theorem dX5_addError_23 : decode cX5_addError 23 = .ok (.aload_n 0, 1) := by decide +kernel
theorem dX5_addError_24 : decode cX5_addError 24 = .ok (.getfield 91, 3) := by decide +kernel
theorem dX5_addError_27 : decode cX5_addError 27 = .ok (.iload_n 2, 1) := by decide +kernel
theorem dX5_addError_28 : decode cX5_addError 28 = .ok (.iastore, 1) := by decide +kernel
theorem dX5_addError_29 : decode cX5_addError 29 = .ok (.aload_n 0, 1) := by decide +kernel
theorem dX5_addError_30 : decode cX5_addError 30 = .ok (.dup, 1) := by decide +kernel
theorem dX5_addError_31 : decode cX5_addError 31 = .ok (.getfield 91, 3) := by decide +kernel
theorem dX5_addError_34 : decode cX5_addError 34 = .ok (.iconst 1, 1) := by decide +kernel
theorem dX5_addError_35 : decode cX5_addError 35 = .ok (.iadd, 1) := by decide +kernel
theorem dX5_addError_36 : decode cX5_addError 36 = .ok (.putfield 91, 3) := by decide +kernel
theorem dX5_kindOf_0 : decode cX5_kindOf 0 = .ok (.iload_n 1, 1) := by decide +kernel
theorem dX5_kindOf_1 : decode cX5_kindOf 1 = .ok (.iload_n 2, 1) := by decide +kernel
theorem dX5_kindOf_2 : decode cX5_kindOf 2 = .ok (.if_icmp .lt 5, 3) := by decide +kernel
theorem dX5_kindOf_7 : decode cX5_kindOf 7 = .ok (.aload_n 0, 1) := by decide +kernel
theorem dX5_kindOf_8 : decode cX5_kindOf 8 = .ok (.getfield 16, 3) := by decide +kernel
theorem dX5_kindOf_11 : decode cX5_kindOf 11 = .ok (.getfield 60, 3) := by decide +kernel
theorem dX5_kindOf_14 : decode cX5_kindOf 14 = .ok (.iload_n 1, 1) := by decide +kernel
theorem dX5_kindOf_15 : decode cX5_kindOf 15 = .ok (.caload, 1) := by decide +kernel
theorem dX5_kindOf_16 : decode cX5_kindOf 16 = .ok (.istore_n 3, 1) := by decide +kernel
theorem dX5_kindOf_17 : decode cX5_kindOf 17 = .ok (.iload_n 3, 1) := by decide +kernel
theorem dX5_kindOf_18 : decode cX5_kindOf 18 = .ok (.bipush 35, 2) := by decide +kernel
theorem dX5_kindOf_20 : decode cX5_kindOf 20 = .ok (.if_icmp .ne 5, 3) := by decide +kernel
theorem dX5_kindOf_25 : decode cX5_kindOf 25 = .ok (.iload_n 3, 1) := by decide +kernel
theorem dX5_kindOf_26 : decode cX5_kindOf 26 = .ok (.bipush 64, 2) := by decide +kernel
theorem dX5_kindOf_28 : decode cX5_kindOf 28 = .ok (.if_icmp .ne 5, 3) := by decide +kernel
theorem dX5_kindOf_33 : decode cX5_kindOf 33 = .ok (.iload_n 3, 1) := by decide +kernel
theorem dX5_kindOf_34 : decode cX5_kindOf 34 = .ok (.bipush 124, 2) := by decide +kernel
theorem dX5_kindOf_36 : decode cX5_kindOf 36 = .ok (.if_icmp .ne 5, 3) := by decide +kernel
theorem dX5_kindOf_41 : decode cX5_kindOf 41 = .ok (.iload_n 1, 1) := by decide +kernel
theorem dX5_kindOf_42 : decode cX5_kindOf 42 = .ok (.iconst 1, 1) := by decide +kernel
theorem dX5_kindOf_43 : decode cX5_kindOf 43 = .ok (.iadd, 1) := by decide +kernel
theorem dX5_kindOf_44 : decode cX5_kindOf 44 = .ok (.iload_n 2, 1) := by decide +kernel
theorem dX5_kindOf_45 : decode cX5_kindOf 45 = .ok (.if_icmp .ge 16, 3) := by decide +kernel
theorem dX5_kindOf_61 : decode cX5_kindOf 61 = .ok (.iconst (-1), 1) := by decide +kernel
theorem dX5_kindOf_62 : decode cX5_kindOf 62 = .ok (.istore 4, 2) := by decide +kernel
theorem dX5_kindOf_64 : decode cX5_kindOf 64 = .ok (.aload_n 0, 1) := by decide +kernel
theorem dX5_kindOf_65 : decode cX5_kindOf 65 = .ok (.getfield 88, 3) := by decide +kernel
theorem dX5_kindOf_68 : decode cX5_kindOf 68 = .ok (.iconst 1, 1) := by decide +kernel
theorem dX5_kindOf_69 : decode cX5_kindOf 69 = .ok (.if_icmp .ne 8, 3) := by decide +kernel
theorem dX5_kindOf_77 : decode cX5_kindOf 77 = .ok (.ldc 141, 2) := by decide +kernel
theorem dX5_kindOf_79 : decode cX5_kindOf 79 = .ok (.iload_n 3, 1) := by decide +kernel
theorem dX5_kindOf_80 : decode cX5_kindOf 80 = .ok (.invokevirtual 143, 3) := by decide +kernel
theorem dX5_kindOf_83 : decode cX5_kindOf 83 = .ok (.istore 5, 2) := by decide +kernel
theorem dX5_kindOf_85 : decode cX5_kindOf 85 = .ok (.iload 4, 2) := by decide +kernel
theorem dX5_kindOf_87 : decode cX5_kindOf 87 = .ok (.bipush 58, 2) := by decide +kernel
theorem dX5_kindOf_89 : decode cX5_kindOf 89 = .ok (.if_icmp .ne 13, 3) := by decide +kernel
theorem dX5_kindOf_102 : decode cX5_kindOf 102 = .ok (.iload 4, 2) := by decide +kernel
theorem dX5_kindOf_104 : decode cX5_kindOf 104 = .ok (.bipush 32, 2) := by decide +kernel
theorem dX5_kindOf_106 : decode cX5_kindOf 106 = .ok (.if_icmp .ne 28, 3) := by decide +kernel
theorem dX5_kindOf_134 : decode cX5_kindOf 134 = .ok (.bipush 9, 2) := by decide +kernel
theorem dX5_kindOf_136 : decode cX5_kindOf 136 = .ok (.ireturn, 1) := by decide +kernel
theorem dX5_kindOf_72 : decode cX5_kindOf 72 = .ok (.ldc 139, 2) := by decide +kernel
theorem dX5_kindOf_74 : decode cX5_kindOf 74 = .ok (.goto 5, 3) := by decide +kernel
theorem dX5_kindOf_48 : decode cX5_kindOf 48 = .ok (.aload_n 0, 1) := by decide +kernel
theorem dX5_kindOf_49 : decode cX5_kindOf 49 = .ok (.getfield 16, 3) := by decide +kernel
theorem dX5_kindOf_52 : decode cX5_kindOf 52 = .ok (.iload_n 1, 1) := by decide +kernel
theorem dX5_kindOf_53 : decode cX5_kindOf 53 = .ok (.iconst 1, 1) := by decide +kernel
theorem dX5_kindOf_54 : decode cX5_kindOf 54 = .ok (.iadd, 1) := by decide +kernel
theorem dX5_kindOf_55 : decode cX5_kindOf 55 = .ok (.invokevirtual 116, 3) := by decide +kernel
theorem dX5_kindOf_58 : decode cX5_kindOf 58 = .ok (.goto 4, 3) := by decide +kernel
theorem dX5_kindOf_109 : decode cX5_kindOf 109 = .ok (.aload_n 0, 1) := by decide +kernel
theorem dX5_kindOf_110 : decode cX5_kindOf 110 = .ok (.getfield 88, 3) := by decide +kernel
theorem dX5_kindOf_113 : decode cX5_kindOf 113 = .ok (.iconst 1, 1) := by decide +kernel
theorem dX5_kindOf_114 : decode cX5_kindOf 114 = .ok (.if_icmp .ne 8, 3) := by decide +kernel
theorem dX5_kindOf_122 : decode cX5_kindOf 122 = .ok (.ldc 150, 2) := by decide +kernel
theorem dX5_kindOf_124 : decode cX5_kindOf 124 = .ok (.iload_n 3, 1) := by decide +kernel
theorem dX5_kindOf_125 : decode cX5_kindOf 125 = .ok (.invokevirtual 143, 3) := by decide +kernel
theorem dX5_kindOf_128 : decode cX5_kindOf 128 = .ok (.ifCond .lt 6, 3) := by decide +kernel
theorem dX5_kindOf_131 : decode cX5_kindOf 131 = .ok (.bipush 8, 2) := by decide +kernel
theorem dX5_kindOf_133 : decode cX5_kindOf 133 = .ok (.ireturn, 1) := by decide +kernel
theorem dX5_kindOf_92 : decode cX5_kindOf 92 = .ok (.iload 5, 2) := by decide +kernel
theorem dX5_kindOf_94 : decode cX5_kindOf 94 = .ok (.ifCond .lt 8, 3) := by decide +kernel
theorem dX5_kindOf_97 : decode cX5_kindOf 97 = .ok (.iconst 3, 1) := by decide +kernel
theorem dX5_kindOf_98 : decode cX5_kindOf 98 = .ok (.iload 5, 2) := by decide +kernel
theorem dX5_kindOf_100 : decode cX5_kindOf 100 = .ok (.iadd, 1) := by decide +kernel
theorem dX5_kindOf_101 : decode cX5_kindOf 101 = .ok (.ireturn, 1) := by decide +kernel
theorem dX5_kindOf_117 : decode cX5_kindOf 117 = .ok (.ldc 148, 2) := by decide +kernel
theorem dX5_kindOf_119 : decode cX5_kindOf 119 = .ok (.goto 5, 3) := by decide +kernel
theorem dX5_kindOf_39 : decode cX5_kindOf 39 = .ok (.iconst 2, 1) := by decide +kernel
theorem dX5_kindOf_40 : decode cX5_kindOf 40 = .ok (.ireturn, 1) := by decide +kernel
theorem dX5_kindOf_31 : decode cX5_kindOf 31 = .ok (.iconst 1, 1) := by decide +kernel
theorem dX5_kindOf_32 : decode cX5_kindOf 32 = .ok (.ireturn, 1) := by decide +kernel
theorem dX5_kindOf_23 : decode cX5_kindOf 23 = .ok (.iconst 0, 1) := by decide +kernel
theorem dX5_kindOf_24 : decode cX5_kindOf 24 = .ok (.ireturn, 1) := by decide +kernel
theorem dX5_kindOf_5 : decode cX5_kindOf 5 = .ok (.iconst 0, 1) := by decide +kernel
theorem dX5_kindOf_6 : decode cX5_kindOf 6 = .ok (.ireturn, 1) := by decide +kernel
theorem dX5_tagsOf_0 : decode cX5_tagsOf 0 = .ok (.iconst 0, 1) := by decide +kernel
theorem dX5_tagsOf_1 : decode cX5_tagsOf 1 = .ok (.istore_n 3, 1) := by decide +kernel
theorem dX5_tagsOf_2 : decode cX5_tagsOf 2 = .ok (.iload_n 1, 1) := by decide +kernel
theorem dX5_tagsOf_3 : decode cX5_tagsOf 3 = .ok (.istore 4, 2) := by decide +kernel
theorem dX5_tagsOf_5 : decode cX5_tagsOf 5 = .ok (.iload 4, 2) := by decide +kernel
theorem dX5_tagsOf_7 : decode cX5_tagsOf 7 = .ok (.iload_n 2, 1) := by decide +kernel
theorem dX5_tagsOf_8 : decode cX5_tagsOf 8 = .ok (.if_icmp .ge 130, 3) := by decide +kernel
theorem dX5_tagsOf_138 : decode cX5_tagsOf 138 = .ok (.iload_n 3, 1) := by decide +kernel
theorem dX5_tagsOf_139 : decode cX5_tagsOf 139 = .ok (.ireturn, 1) := by decide +kernel
theorem dX5_tagsOf_11 : decode cX5_tagsOf 11 = .ok (.aload_n 0, 1) := by decide +kernel
theorem dX5_tagsOf_12 : decode cX5_tagsOf 12 = .ok (.getfield 16, 3) := by decide +kernel
theorem dX5_tagsOf_15 : decode cX5_tagsOf 15 = .ok (.iload 4, 2) := by decide +kernel
theorem dX5_tagsOf_17 : decode cX5_tagsOf 17 = .ok (.invokevirtual 116, 3) := by decide +kernel
theorem dX5_tagsOf_20 : decode cX5_tagsOf 20 = .ok (.bipush 32, 2) := by decide +kernel
theorem dX5_tagsOf_22 : decode cX5_tagsOf 22 = .ok (.if_icmp .ne 6, 3) := by decide +kernel
theorem dX5_tagsOf_28 : decode cX5_tagsOf 28 = .ok (.iload 4, 2) := by decide +kernel
theorem dX5_tagsOf_30 : decode cX5_tagsOf 30 = .ok (.iconst 1, 1) := by decide +kernel
theorem dX5_tagsOf_31 : decode cX5_tagsOf 31 = .ok (.iadd, 1) := by decide +kernel
theorem dX5_tagsOf_32 : decode cX5_tagsOf 32 = .ok (.iload_n 2, 1) := by decide +kernel
theorem dX5_tagsOf_33 : decode cX5_tagsOf 33 = .ok (.if_icmp .ge 17, 3) := by decide +kernel
theorem dX5_tagsOf_50 : decode cX5_tagsOf 50 = .ok (.iconst (-1), 1) := by decide +kernel
theorem dX5_tagsOf_51 : decode cX5_tagsOf 51 = .ok (.istore 5, 2) := by decide +kernel
theorem dX5_tagsOf_53 : decode cX5_tagsOf 53 = .ok (.iload 4, 2) := by decide +kernel
theorem dX5_tagsOf_55 : decode cX5_tagsOf 55 = .ok (.iconst 2, 1) := by decide +kernel
theorem dX5_tagsOf_56 : decode cX5_tagsOf 56 = .ok (.iadd, 1) := by decide +kernel
theorem dX5_tagsOf_57 : decode cX5_tagsOf 57 = .ok (.iload_n 2, 1) := by decide +kernel
theorem dX5_tagsOf_58 : decode cX5_tagsOf 58 = .ok (.if_icmp .ge 19, 3) := by decide +kernel
theorem dX5_tagsOf_77 : decode cX5_tagsOf 77 = .ok (.iconst 1, 1) := by decide +kernel
theorem dX5_tagsOf_78 : decode cX5_tagsOf 78 = .ok (.goto 4, 3) := by decide +kernel
theorem dX5_tagsOf_82 : decode cX5_tagsOf 82 = .ok (.istore 6, 2) := by decide +kernel
theorem dX5_tagsOf_84 : decode cX5_tagsOf 84 = .ok (.aload_n 0, 1) := by decide +kernel
theorem dX5_tagsOf_85 : decode cX5_tagsOf 85 = .ok (.getfield 16, 3) := by decide +kernel
theorem dX5_tagsOf_88 : decode cX5_tagsOf 88 = .ok (.iload 4, 2) := by decide +kernel
theorem dX5_tagsOf_90 : decode cX5_tagsOf 90 = .ok (.invokevirtual 116, 3) := by decide +kernel
theorem dX5_tagsOf_93 : decode cX5_tagsOf 93 = .ok (.bipush 64, 2) := by decide +kernel
theorem dX5_tagsOf_95 : decode cX5_tagsOf 95 = .ok (.if_icmp .ne 22, 3) := by decide +kernel
theorem dX5_tagsOf_117 : decode cX5_tagsOf 117 = .ok (.iconst 0, 1) := by decide +kernel
theorem dX5_tagsOf_118 : decode cX5_tagsOf 118 = .ok (.ireturn, 1) := by decide +kernel
theorem dX5_tagsOf_98 : decode cX5_tagsOf 98 = .ok (.iload 5, 2) := by decide +kernel
theorem dX5_tagsOf_100 : decode cX5_tagsOf 100 = .ok (.bipush 97, 2) := by decide +kernel
theorem dX5_tagsOf_102 : decode cX5_tagsOf 102 = .ok (.if_icmp .lt 15, 3) := by decide +kernel
theorem dX5_tagsOf_61 : decode cX5_tagsOf 61 = .ok (.aload_n 0, 1) := by decide +kernel
theorem dX5_tagsOf_62 : decode cX5_tagsOf 62 = .ok (.getfield 16, 3) := by decide +kernel
theorem dX5_tagsOf_65 : decode cX5_tagsOf 65 = .ok (.iload 4, 2) := by decide +kernel
theorem dX5_tagsOf_67 : decode cX5_tagsOf 67 = .ok (.iconst 2, 1) := by decide +kernel
theorem dX5_tagsOf_68 : decode cX5_tagsOf 68 = .ok (.iadd, 1) := by decide +kernel
theorem dX5_tagsOf_69 : decode cX5_tagsOf 69 = .ok (.invokevirtual 116, 3) := by decide +kernel
theorem dX5_tagsOf_72 : decode cX5_tagsOf 72 = .ok (.bipush 32, 2) := by decide +kernel
theorem dX5_tagsOf_74 : decode cX5_tagsOf 74 = .ok (.if_icmp .ne 7, 3) := by decide +kernel
theorem dX5_tagsOf_81 : decode cX5_tagsOf 81 = .ok (.iconst 0, 1) := by decide +kernel
theorem dX5_tagsOf_36 : decode cX5_tagsOf 36 = .ok (.aload_n 0, 1) := by decide +kernel
theorem dX5_tagsOf_37 : decode cX5_tagsOf 37 = .ok (.getfield 16, 3) := by decide +kernel
theorem dX5_tagsOf_40 : decode cX5_tagsOf 40 = .ok (.iload 4, 2) := by decide +kernel
theorem dX5_tagsOf_42 : decode cX5_tagsOf 42 = .ok (.iconst 1, 1) := by decide +kernel
theorem dX5_tagsOf_43 : decode cX5_tagsOf 43 = .ok (.iadd, 1) := by decide +kernel
theorem dX5_tagsOf_44 : decode cX5_tagsOf 44 = .ok (.invokevirtual 116, 3) := by decide +kernel
theorem dX5_tagsOf_47 : decode cX5_tagsOf 47 = .ok (.goto 4, 3) := by decide +kernel
theorem dX5_tagsOf_105 : decode cX5_tagsOf 105 = .ok (.iload 5, 2) := by decide +kernel
theorem dX5_tagsOf_107 : decode cX5_tagsOf 107 = .ok (.bipush 112, 2) := by decide +kernel
theorem dX5_tagsOf_109 : decode cX5_tagsOf 109 = .ok (.if_icmp .gt 8, 3) := by decide +kernel
theorem dX5_tagsOf_112 : decode cX5_tagsOf 112 = .ok (.iload 6, 2) := by decide +kernel
theorem dX5_tagsOf_114 : decode cX5_tagsOf 114 = .ok (.ifCond .ne 5, 3) := by decide +kernel
theorem dX5_tagsOf_119 : decode cX5_tagsOf 119 = .ok (.iload_n 3, 1) := by decide +kernel
theorem dX5_tagsOf_120 : decode cX5_tagsOf 120 = .ok (.iconst 1, 1) := by decide +kernel
theorem dX5_tagsOf_121 : decode cX5_tagsOf 121 = .ok (.iload 5, 2) := by decide +kernel
theorem dX5_tagsOf_123 : decode cX5_tagsOf 123 = .ok (.bipush 97, 2) := by decide +kernel
theorem dX5_tagsOf_125 : decode cX5_tagsOf 125 = .ok (.isub, 1) := by decide +kernel
theorem dX5_tagsOf_126 : decode cX5_tagsOf 126 = .ok (.ishl, 1) := by decide +kernel
theorem dX5_tagsOf_127 : decode cX5_tagsOf 127 = .ok (.ior, 1) := by decide +kernel
theorem dX5_tagsOf_128 : decode cX5_tagsOf 128 = .ok (.istore_n 3, 1) := by decide +kernel
theorem dX5_tagsOf_129 : decode cX5_tagsOf 129 = .ok (.iinc 4 1, 3) := by decide +kernel
theorem dX5_tagsOf_132 : decode cX5_tagsOf 132 = .ok (.iinc 4 1, 3) := by decide +kernel
theorem dX5_tagsOf_135 : decode cX5_tagsOf 135 = .ok (.goto (-130), 3) := by decide +kernel
theorem dX5_tagsOf_25 : decode cX5_tagsOf 25 = .ok (.goto 107, 3) := by decide +kernel
theorem dX5_widthOf_0 : decode cX5_widthOf 0 = .ok (.aload_n 0, 1) := by decide +kernel
theorem dX5_widthOf_1 : decode cX5_widthOf 1 = .ok (.getfield 16, 3) := by decide +kernel
theorem dX5_widthOf_4 : decode cX5_widthOf 4 = .ok (.iload_n 2, 1) := by decide +kernel
theorem dX5_widthOf_5 : decode cX5_widthOf 5 = .ok (.iconst 1, 1) := by decide +kernel
theorem dX5_widthOf_6 : decode cX5_widthOf 6 = .ok (.isub, 1) := by decide +kernel
theorem dX5_widthOf_7 : decode cX5_widthOf 7 = .ok (.invokevirtual 116, 3) := by decide +kernel
theorem dX5_widthOf_10 : decode cX5_widthOf 10 = .ok (.bipush 124, 2) := by decide +kernel
theorem dX5_widthOf_12 : decode cX5_widthOf 12 = .ok (.if_icmp .eq 5, 3) := by decide +kernel
theorem dX5_widthOf_17 : decode cX5_widthOf 17 = .ok (.iconst (-1), 1) := by decide +kernel
theorem dX5_widthOf_18 : decode cX5_widthOf 18 = .ok (.istore_n 3, 1) := by decide +kernel
theorem dX5_widthOf_19 : decode cX5_widthOf 19 = .ok (.iload_n 1, 1) := by decide +kernel
theorem dX5_widthOf_20 : decode cX5_widthOf 20 = .ok (.istore 4, 2) := by decide +kernel
theorem dX5_widthOf_22 : decode cX5_widthOf 22 = .ok (.iload 4, 2) := by decide +kernel
theorem dX5_widthOf_24 : decode cX5_widthOf 24 = .ok (.iload_n 2, 1) := by decide +kernel
theorem dX5_widthOf_25 : decode cX5_widthOf 25 = .ok (.if_icmp .ge 26, 3) := by decide +kernel
theorem dX5_widthOf_51 : decode cX5_widthOf 51 = .ok (.iload_n 3, 1) := by decide +kernel
theorem dX5_widthOf_52 : decode cX5_widthOf 52 = .ok (.ireturn, 1) := by decide +kernel
theorem dX5_widthOf_28 : decode cX5_widthOf 28 = .ok (.aload_n 0, 1) := by decide +kernel
theorem dX5_widthOf_29 : decode cX5_widthOf 29 = .ok (.getfield 16, 3) := by decide +kernel
theorem dX5_widthOf_32 : decode cX5_widthOf 32 = .ok (.iload 4, 2) := by decide +kernel
theorem dX5_widthOf_34 : decode cX5_widthOf 34 = .ok (.invokevirtual 116, 3) := by decide +kernel
theorem dX5_widthOf_37 : decode cX5_widthOf 37 = .ok (.bipush 124, 2) := by decide +kernel
theorem dX5_widthOf_39 : decode cX5_widthOf 39 = .ok (.if_icmp .ne 6, 3) := by decide +kernel
theorem dX5_widthOf_45 : decode cX5_widthOf 45 = .ok (.iinc 4 1, 3) := by decide +kernel
theorem dX5_widthOf_48 : decode cX5_widthOf 48 = .ok (.goto (-26), 3) := by decide +kernel
theorem dX5_widthOf_42 : decode cX5_widthOf 42 = .ok (.iinc 3 1, 3) := by decide +kernel
theorem dX5_widthOf_15 : decode cX5_widthOf 15 = .ok (.iconst 0, 1) := by decide +kernel
theorem dX5_widthOf_16 : decode cX5_widthOf 16 = .ok (.ireturn, 1) := by decide +kernel
theorem dX5_hasRoom_0 : decode cX5_hasRoom 0 = .ok (.iload_n 1, 1) := by decide +kernel
theorem dX5_hasRoom_1 : decode cX5_hasRoom 1 = .ok (.tableswitch 117 2 8 #[73, 117, 103, 117, 43, 88, 58], 43) := by decide +kernel
theorem dX5_hasRoom_118 : decode cX5_hasRoom 118 = .ok (.iconst 1, 1) := by decide +kernel
theorem dX5_hasRoom_119 : decode cX5_hasRoom 119 = .ok (.ireturn, 1) := by decide +kernel
theorem dX5_hasRoom_74 : decode cX5_hasRoom 74 = .ok (.aload_n 0, 1) := by decide +kernel
theorem dX5_hasRoom_75 : decode cX5_hasRoom 75 = .ok (.getfield 106, 3) := by decide +kernel
theorem dX5_hasRoom_78 : decode cX5_hasRoom 78 = .ok (.bipush 40, 2) := by decide +kernel
theorem dX5_hasRoom_80 : decode cX5_hasRoom 80 = .ok (.if_icmp .ge 7, 3) := by decide +kernel
theorem dX5_hasRoom_87 : decode cX5_hasRoom 87 = .ok (.iconst 0, 1) := by decide +kernel
theorem dX5_hasRoom_88 : decode cX5_hasRoom 88 = .ok (.ireturn, 1) := by decide +kernel
theorem dX5_hasRoom_83 : decode cX5_hasRoom 83 = .ok (.iconst 1, 1) := by decide +kernel
theorem dX5_hasRoom_84 : decode cX5_hasRoom 84 = .ok (.goto 4, 3) := by decide +kernel
theorem dX5_hasRoom_104 : decode cX5_hasRoom 104 = .ok (.aload_n 0, 1) := by decide +kernel
theorem dX5_hasRoom_105 : decode cX5_hasRoom 105 = .ok (.getfield 94, 3) := by decide +kernel
theorem dX5_hasRoom_108 : decode cX5_hasRoom 108 = .ok (.iconst 4, 1) := by decide +kernel
theorem dX5_hasRoom_109 : decode cX5_hasRoom 109 = .ok (.if_icmp .ge 7, 3) := by decide +kernel
theorem dX5_hasRoom_116 : decode cX5_hasRoom 116 = .ok (.iconst 0, 1) := by decide +kernel
theorem dX5_hasRoom_117 : decode cX5_hasRoom 117 = .ok (.ireturn, 1) := by decide +kernel
theorem dX5_hasRoom_112 : decode cX5_hasRoom 112 = .ok (.iconst 1, 1) := by decide +kernel
theorem dX5_hasRoom_113 : decode cX5_hasRoom 113 = .ok (.goto 4, 3) := by decide +kernel
theorem dX5_hasRoom_44 : decode cX5_hasRoom 44 = .ok (.aload_n 0, 1) := by decide +kernel
theorem dX5_hasRoom_45 : decode cX5_hasRoom 45 = .ok (.getfield 97, 3) := by decide +kernel
theorem dX5_hasRoom_48 : decode cX5_hasRoom 48 = .ok (.bipush 12, 2) := by decide +kernel
theorem dX5_hasRoom_50 : decode cX5_hasRoom 50 = .ok (.if_icmp .ge 7, 3) := by decide +kernel
theorem dX5_hasRoom_57 : decode cX5_hasRoom 57 = .ok (.iconst 0, 1) := by decide +kernel
theorem dX5_hasRoom_58 : decode cX5_hasRoom 58 = .ok (.ireturn, 1) := by decide +kernel
theorem dX5_hasRoom_53 : decode cX5_hasRoom 53 = .ok (.iconst 1, 1) := by decide +kernel
theorem dX5_hasRoom_54 : decode cX5_hasRoom 54 = .ok (.goto 4, 3) := by decide +kernel
theorem dX5_hasRoom_89 : decode cX5_hasRoom 89 = .ok (.aload_n 0, 1) := by decide +kernel
theorem dX5_hasRoom_90 : decode cX5_hasRoom 90 = .ok (.getfield 103, 3) := by decide +kernel
theorem dX5_hasRoom_93 : decode cX5_hasRoom 93 = .ok (.bipush 12, 2) := by decide +kernel
theorem dX5_hasRoom_95 : decode cX5_hasRoom 95 = .ok (.if_icmp .ge 7, 3) := by decide +kernel
theorem dX5_hasRoom_102 : decode cX5_hasRoom 102 = .ok (.iconst 0, 1) := by decide +kernel
theorem dX5_hasRoom_103 : decode cX5_hasRoom 103 = .ok (.ireturn, 1) := by decide +kernel
theorem dX5_hasRoom_98 : decode cX5_hasRoom 98 = .ok (.iconst 1, 1) := by decide +kernel
theorem dX5_hasRoom_99 : decode cX5_hasRoom 99 = .ok (.goto 4, 3) := by decide +kernel
theorem dX5_hasRoom_59 : decode cX5_hasRoom 59 = .ok (.aload_n 0, 1) := by decide +kernel
theorem dX5_hasRoom_60 : decode cX5_hasRoom 60 = .ok (.getfield 100, 3) := by decide +kernel
theorem dX5_hasRoom_63 : decode cX5_hasRoom 63 = .ok (.bipush 30, 2) := by decide +kernel
theorem dX5_hasRoom_65 : decode cX5_hasRoom 65 = .ok (.if_icmp .ge 7, 3) := by decide +kernel
theorem dX5_hasRoom_72 : decode cX5_hasRoom 72 = .ok (.iconst 0, 1) := by decide +kernel
theorem dX5_hasRoom_73 : decode cX5_hasRoom 73 = .ok (.ireturn, 1) := by decide +kernel
theorem dX5_hasRoom_68 : decode cX5_hasRoom 68 = .ok (.iconst 1, 1) := by decide +kernel
theorem dX5_hasRoom_69 : decode cX5_hasRoom 69 = .ok (.goto 4, 3) := by decide +kernel
theorem gX5_kindOf_J0_indexOf_0f7a4 : GoodIn wsX5_kindOf (wsV RX5 143 RJ0 yJ0_indexOf_0f7a4 wsJ0_indexOf_0f7a4) := goodIn_app (goodIn_sub (List.forall_mem_cons.mpr ⟨(List.mem_cons_of_mem _ (List.mem_append_left _ (List.mem_append_left _ (List.mem_append_left _ lm10)))), List.forall_mem_cons.mpr ⟨(List.mem_cons_of_mem _ (List.mem_append_left _ (List.mem_append_left _ (List.mem_append_left _ lm11)))), List.forall_mem_cons.mpr ⟨(List.mem_cons_of_mem _ (List.mem_append_left _ (List.mem_append_left _ (List.mem_append_left _ lm12)))), List.forall_mem_cons.mpr ⟨(List.mem_cons_of_mem _ (List.mem_append_left _ (List.mem_append_left _ (List.mem_append_left _ lm13)))), (fun _ h => absurd h List.not_mem_nil)⟩⟩⟩⟩) (by decide +kernel)) (goodIn_sub (by unfold wsJ0_indexOf_0f7a4; exact List.forall_mem_cons.mpr ⟨(List.mem_cons_of_mem _ (List.mem_append_left _ (List.mem_append_left _ (List.mem_append_left _ lm14)))), List.forall_mem_append.mpr ⟨List.forall_mem_cons.mpr ⟨(List.mem_cons_of_mem _ (List.mem_append_left _ (List.mem_append_left _ (List.mem_append_left _ lm15)))), List.forall_mem_cons.mpr ⟨(List.mem_cons_of_mem _ (List.mem_append_left _ (List.mem_append_left _ (List.mem_append_left _ lm16)))), List.forall_mem_cons.mpr ⟨(List.mem_cons_of_mem _ (List.mem_append_left _ (List.mem_append_left _ (List.mem_append_left _ lm17)))), List.forall_mem_cons.mpr ⟨(List.mem_cons_of_mem _ (List.mem_append_left _ (List.mem_append_left _ (List.mem_append_left _ lm13)))), List.forall_mem_cons.mpr ⟨(List.mem_cons_of_mem _ (List.mem_append_left _ (List.mem_append_left _ (List.mem_append_left _ lm18)))), List.forall_mem_cons.mpr ⟨(List.mem_cons_of_mem _ (List.mem_append_left _ (List.mem_append_left _ (List.mem_append_left _ lm19)))), List.forall_mem_cons.mpr ⟨(List.mem_cons_of_mem _ (List.mem_append_left _ (List.mem_append_left _ (List.mem_append_left _ lm20)))), List.forall_mem_cons.mpr ⟨(List.mem_cons_of_mem _ (List.mem_append_left _ (List.mem_append_left _ (List.mem_append_left _ lm21)))), List.forall_mem_cons.mpr ⟨(List.mem_cons_of_mem _ (List.mem_append_left _ (List.mem_append_left _ (List.mem_append_left _ lm22)))), List.forall_mem_cons.mpr ⟨(List.mem_cons_of_mem _ (List.mem_append_left _ (List.mem_append_left _ (List.mem_append_left _ lm23)))), List.forall_mem_cons.mpr ⟨(List.mem_cons_of_mem _ (List.mem_append_left _ (List.mem_append_left _ (List.mem_append_right _ (List.mem_append_left _ lm0))))), List.forall_mem_cons.mpr ⟨(List.mem_cons_of_mem _ (List.mem_append_left _ (List.mem_append_left _ (List.mem_append_right _ (List.mem_append_left _ lm1))))), List.forall_mem_cons.mpr ⟨(List.mem_cons_of_mem _ (List.mem_append_left _ (List.mem_append_left _ (List.mem_append_right _ (List.mem_append_left _ lm2))))), List.forall_mem_cons.mpr ⟨(List.mem_cons_of_mem _ (List.mem_append_left _ (List.mem_append_left _ (List.mem_append_right _ (List.mem_append_left _ lm3))))), List.forall_mem_cons.mpr ⟨(List.mem_cons_of_mem _ (List.mem_append_left _ (List.mem_append_left _ (List.mem_append_right _ (List.mem_append_left _ lm4))))), List.forall_mem_cons.mpr ⟨(List.mem_cons_of_mem _ (List.mem_append_left _ (List.mem_append_left _ (List.mem_append_right _ (List.mem_append_left _ lm5))))), List.forall_mem_cons.mpr ⟨(List.mem_cons_of_mem _ (List.mem_append_left _ (List.mem_append_left _ (List.mem_append_right _ (List.mem_append_left _ lm6))))), List.forall_mem_cons.mpr ⟨(List.mem_cons_of_mem _ (List.mem_append_left _ (List.mem_append_left _ (List.mem_append_right _ (List.mem_append_left _ lm7))))), List.forall_mem_cons.mpr ⟨(List.mem_cons_of_mem _ (List.mem_append_left _ (List.mem_append_left _ (List.mem_append_right _ (List.mem_append_left _ lm8))))), List.forall_mem_cons.mpr ⟨(List.mem_cons_of_mem _ (List.mem_append_left _ (List.mem_append_left _ (List.mem_append_right _ (List.mem_append_left _ lm9))))), List.forall_mem_cons.mpr ⟨(List.mem_cons_of_mem _ (List.mem_append_left _ (List.mem_append_left _ (List.mem_append_right _ (List.mem_append_left _ lm10))))), List.forall_mem_cons.mpr ⟨(List.mem_cons_of_mem _ (List.mem_append_left _ (List.mem_append_left _ (List.mem_append_right _ (List.mem_append_left _ lm11))))), List.forall_mem_cons.mpr ⟨(List.mem_cons_of_mem _ (List.mem_append_left _ (List.mem_append_left _ (List.mem_append_right _ (List.mem_append_left _ lm12))))), List.forall_mem_cons.mpr ⟨(List.mem_cons_of_mem _ (List.mem_append_left _ (List.mem_append_left _ (List.mem_append_right _ (List.mem_append_left _ lm13))))), (fun _ h => absurd h List.not_mem_nil)⟩⟩⟩⟩⟩⟩⟩⟩⟩⟩⟩⟩⟩⟩⟩⟩⟩⟩⟩⟩⟩⟩⟩⟩, List.forall_mem_append.mpr ⟨List.forall_mem_cons.mpr ⟨(List.mem_cons_of_mem _ (List.mem_append_left _ (List.mem_append_left _ (List.mem_append_right _ (List.mem_append_left _ lm14))))), List.forall_mem_cons.mpr ⟨(List.mem_cons_of_mem _ (List.mem_append_left _ (List.mem_append_left _ (List.mem_append_right _ (List.mem_append_left _ lm15))))), List.forall_mem_cons.mpr ⟨(List.mem_cons_of_mem _ (List.mem_append_left _ (List.mem_append_left _ (List.mem_append_right _ (List.mem_append_left _ lm16))))), List.forall_mem_cons.mpr ⟨(List.mem_cons_of_mem _ (List.mem_append_left _ (List.mem_append_left _ (List.mem_append_right _ (List.mem_append_left _ lm17))))), List.forall_mem_cons.mpr ⟨(List.mem_cons_of_mem _ (List.mem_append_left _ (List.mem_append_left _ (List.mem_append_right _ (List.mem_append_left _ lm18))))), List.forall_mem_cons.mpr ⟨(List.mem_cons_of_mem _ (List.mem_append_left _ (List.mem_append_left _ (List.mem_append_right _ (List.mem_append_left _ lm19))))), List.forall_mem_cons.mpr ⟨(List.mem_cons_of_mem _ (List.mem_append_left _ (List.mem_append_left _ (List.mem_append_right _ (List.mem_append_left _ lm20))))), List.forall_mem_cons.mpr ⟨(List.mem_cons_of_mem _ (List.mem_append_left _ (List.mem_append_left _ (List.mem_append_right _ (List.mem_append_left _ lm21))))), List.forall_mem_cons.mpr ⟨(List.mem_cons_of_mem _ (List.mem_append_left _ (List.mem_append_left _ (List.mem_append_right _ (List.mem_append_left _ lm22))))), List.forall_mem_cons.mpr ⟨(List.mem_cons_of_mem _ (List.mem_append_left _ (List.mem_append_left _ (List.mem_append_right _ (List.mem_append_left _ lm23))))), List.forall_mem_cons.mpr ⟨(List.mem_cons_of_mem _ (List.mem_append_left _ (List.mem_append_left _ (List.mem_append_right _ (List.mem_append_right _ (List.mem_append_left _ lm0)))))), List.forall_mem_cons.mpr ⟨(List.mem_cons_of_mem _ (List.mem_append_left _ (List.mem_append_left _ (List.mem_append_right _ (List.mem_append_right _ (List.mem_append_left _ lm1)))))), List.forall_mem_cons.mpr ⟨(List.mem_cons_of_mem _ (List.mem_append_left _ (List.mem_append_left _ (List.mem_append_right _ (List.mem_append_right _ (List.mem_append_left _ lm2)))))), List.forall_mem_cons.mpr ⟨(List.mem_cons_of_mem _ (List.mem_append_left _ (List.mem_append_left _ (List.mem_append_right _ (List.mem_append_right _ (List.mem_append_left _ lm3)))))), List.forall_mem_cons.mpr ⟨(List.mem_cons_of_mem _ (List.mem_append_left _ (List.mem_append_left _ (List.mem_append_right _ (List.mem_append_right _ (List.mem_append_left _ lm4)))))), List.forall_mem_cons.mpr ⟨(List.mem_cons_of_mem _ (List.mem_append_left _ (List.mem_append_left _ (List.mem_append_right _ (List.mem_append_right _ (List.mem_append_left _ lm5)))))), List.forall_mem_cons.mpr ⟨(List.mem_cons_of_mem _ (List.mem_append_left _ (List.mem_append_left _ (List.mem_append_right _ (List.mem_append_right _ (List.mem_append_left _ lm6)))))), List.forall_mem_cons.mpr ⟨(List.mem_cons_of_mem _ (List.mem_append_left _ (List.mem_append_left _ (List.mem_append_right _ (List.mem_append_right _ (List.mem_append_left _ lm7)))))), List.forall_mem_cons.mpr ⟨(List.mem_cons_of_mem _ (List.mem_append_left _ (List.mem_append_left _ (List.mem_append_right _ (List.mem_append_right _ (List.mem_append_left _ lm8)))))), List.forall_mem_cons.mpr ⟨(List.mem_cons_of_mem _ (List.mem_append_left _ (List.mem_append_left _ (List.mem_append_right _ (List.mem_append_right _ (List.mem_append_left _ lm9)))))), List.forall_mem_cons.mpr ⟨(List.mem_cons_of_mem _ (List.mem_append_left _ (List.mem_append_left _ (List.mem_append_right _ (List.mem_append_right _ (List.mem_append_left _ lm10)))))), List.forall_mem_cons.mpr ⟨(List.mem_cons_of_mem _ (List.mem_append_left _ (List.mem_append_left _ (List.mem_append_right _ (List.mem_append_right _ (List.mem_append_left _ lm11)))))), List.forall_mem_cons.mpr ⟨(List.mem_cons_of_mem _ (List.mem_append_left _ (List.mem_append_left _ (List.mem_append_right _ (List.mem_append_right _ (List.mem_append_left _ lm12)))))), List.forall_mem_cons.mpr ⟨(List.mem_cons_of_mem _ (List.mem_append_left _ (List.mem_append_left _ (List.mem_append_right _ (List.mem_append_right _ (List.mem_append_left _ lm13)))))), (fun _ h => absurd h List.not_mem_nil)⟩⟩⟩⟩⟩⟩⟩⟩⟩⟩⟩⟩⟩⟩⟩⟩⟩⟩⟩⟩⟩⟩⟩⟩, List.forall_mem_append.mpr ⟨List.forall_mem_cons.mpr ⟨(List.mem_cons_of_mem _ (List.mem_append_left _ (List.mem_append_left _ (List.mem_append_right _ (List.mem_append_right _ (List.mem_append_left _ lm14)))))), List.forall_mem_cons.mpr ⟨(List.mem_cons_of_mem _ (List.mem_append_left _ (List.mem_append_left _ (List.mem_append_right _ (List.mem_append_right _ (List.mem_append_left _ lm15)))))), List.forall_mem_cons.mpr ⟨(List.mem_cons_of_mem _ (List.mem_append_left _ (List.mem_append_left _ (List.mem_append_right _ (List.mem_append_right _ (List.mem_append_left _ lm16)))))), List.forall_mem_cons.mpr ⟨(List.mem_cons_of_mem _ (List.mem_append_left _ (List.mem_append_left _ (List.mem_append_right _ (List.mem_append_right _ (List.mem_append_left _ lm17)))))), List.forall_mem_cons.mpr ⟨(List.mem_cons_of_mem _ (List.mem_append_left _ (List.mem_append_left _ (List.mem_append_right _ (List.mem_append_right _ (List.mem_append_left _ lm18)))))), List.forall_mem_cons.mpr ⟨(List.mem_cons_of_mem _ (List.mem_append_left _ (List.mem_append_left _ (List.mem_append_right _ (List.mem_append_right _ (List.mem_append_left _ lm19)))))), List.forall_mem_cons.mpr ⟨(List.mem_cons_of_mem _ (List.mem_append_left _ (List.mem_append_left _ (List.mem_append_right _ (List.mem_append_right _ (List.mem_append_left _ lm20)))))), List.forall_mem_cons.mpr ⟨(List.mem_cons_of_mem _ (List.mem_append_left _ (List.mem_append_left _ (List.mem_append_right _ (List.mem_append_right _ (List.mem_append_left _ lm21)))))), List.forall_mem_cons.mpr ⟨(List.mem_cons_of_mem _ (List.mem_append_left _ (List.mem_append_left _ (List.mem_append_right _ (List.mem_append_right _ (List.mem_append_left _ lm22)))))), List.forall_mem_cons.mpr ⟨(List.mem_cons_of_mem _ (List.mem_append_left _ (List.mem_append_left _ (List.mem_append_right _ (List.mem_append_right _ (List.mem_append_left _ lm23)))))), List.forall_mem_cons.mpr ⟨(List.mem_cons_of_mem _ (List.mem_append_left _ (List.mem_append_left _ (List.mem_append_right _ (List.mem_append_right _ (List.mem_append_right _ (List.mem_append_left _ lm0))))))), List.forall_mem_cons.mpr ⟨(List.mem_cons_of_mem _ (List.mem_append_left _ (List.mem_append_left _ (List.mem_append_right _ (List.mem_append_right _ (List.mem_append_right _ (List.mem_append_left _ lm1))))))), List.forall_mem_cons.mpr ⟨(List.mem_cons_of_mem _ (List.mem_append_left _ (List.mem_append_left _ (List.mem_append_right _ (List.mem_append_right _ (List.mem_append_right _ (List.mem_append_left _ lm2))))))), List.forall_mem_cons.mpr ⟨(List.mem_cons_of_mem _ (List.mem_append_left _ (List.mem_append_left _ (List.mem_append_right _ (List.mem_append_right _ (List.mem_append_right _ (List.mem_append_left _ lm3))))))), List.forall_mem_cons.mpr ⟨(List.mem_cons_of_mem _ (List.mem_append_left _ (List.mem_append_left _ (List.mem_append_right _ (List.mem_append_right _ (List.mem_append_right _ (List.mem_append_left _ lm4))))))), List.forall_mem_cons.mpr ⟨(List.mem_cons_of_mem _ (List.mem_append_left _ (List.mem_append_left _ (List.mem_append_right _ (List.mem_append_right _ (List.mem_append_right _ (List.mem_append_left _ lm5))))))), List.forall_mem_cons.mpr ⟨(List.mem_cons_of_mem _ (List.mem_append_left _ (List.mem_append_left _ (List.mem_append_right _ (List.mem_append_right _ (List.mem_append_right _ (List.mem_append_left _ lm6))))))), List.forall_mem_cons.mpr ⟨(List.mem_cons_of_mem _ (List.mem_append_left _ (List.mem_append_left _ (List.mem_append_right _ (List.mem_append_right _ (List.mem_append_right _ (List.mem_append_left _ lm7))))))), List.forall_mem_cons.mpr ⟨(List.mem_cons_of_mem _ (List.mem_append_left _ (List.mem_append_left _ (List.mem_append_right _ (List.mem_append_right _ (List.mem_append_right _ (List.mem_append_left _ lm8))))))), List.forall_mem_cons.mpr ⟨(List.mem_cons_of_mem _ (List.mem_append_left _ (List.mem_append_left _ (List.mem_append_right _ (List.mem_append_right _ (List.mem_append_right _ (List.mem_append_left _ lm9))))))), List.forall_mem_cons.mpr ⟨(List.mem_cons_of_mem _ (List.mem_append_left _ (List.mem_append_left _ (List.mem_append_right _ (List.mem_append_right _ (List.mem_append_right _ (List.mem_append_left _ lm10))))))), List.forall_mem_cons.mpr ⟨(List.mem_cons_of_mem _ (List.mem_append_left _ (List.mem_append_left _ (List.mem_append_right _ (List.mem_append_right _ (List.mem_append_right _ (List.mem_append_left _ lm11))))))), List.forall_mem_cons.mpr ⟨(List.mem_cons_of_mem _ (List.mem_append_left _ (List.mem_append_left _ (List.mem_append_right _ (List.mem_append_right _ (List.mem_append_right _ (List.mem_append_left _ lm12))))))), List.forall_mem_cons.mpr ⟨(List.mem_cons_of_mem _ (List.mem_append_left _ (List.mem_append_left _ (List.mem_append_right _ (List.mem_append_right _ (List.mem_append_right _ (List.mem_append_left _ lm13))))))), (fun _ h => absurd h List.not_mem_nil)⟩⟩⟩⟩⟩⟩⟩⟩⟩⟩⟩⟩⟩⟩⟩⟩⟩⟩⟩⟩⟩⟩⟩⟩, List.forall_mem_cons.mpr ⟨(List.mem_cons_of_mem _ (List.mem_append_left _ (List.mem_append_left _ (List.mem_append_right _ (List.mem_append_right _ (List.mem_append_right _ (List.mem_append_left _ lm14))))))), List.forall_mem_cons.mpr ⟨(List.mem_cons_of_mem _ (List.mem_append_left _ (List.mem_append_left _ (List.mem_append_right _ (List.mem_append_right _ (List.mem_append_right _ (List.mem_append_left _ lm15))))))), List.forall_mem_cons.mpr ⟨(List.mem_cons_of_mem _ (List.mem_append_left _ (List.mem_append_left _ (List.mem_append_right _ (List.mem_append_right _ (List.mem_append_right _ (List.mem_append_left _ lm16))))))), List.forall_mem_cons.mpr ⟨(List.mem_cons_of_mem _ (List.mem_append_left _ (List.mem_append_left _ (List.mem_append_right _ (List.mem_append_right _ (List.mem_append_right _ (List.mem_append_left _ lm17))))))), List.forall_mem_cons.mpr ⟨(List.mem_cons_of_mem _ (List.mem_append_left _ (List.mem_append_left _ (List.mem_append_right _ (List.mem_append_right _ (List.mem_append_right _ (List.mem_append_left _ lm18))))))), List.forall_mem_cons.mpr ⟨(List.mem_cons_of_mem _ (List.mem_append_left _ (List.mem_append_left _ (List.mem_append_right _ (List.mem_append_right _ (List.mem_append_right _ (List.mem_append_left _ lm19))))))), List.forall_mem_cons.mpr ⟨(List.mem_cons_of_mem _ (List.mem_append_left _ (List.mem_append_left _ (List.mem_append_right _ (List.mem_append_right _ (List.mem_append_right _ (List.mem_append_left _ lm20))))))), List.forall_mem_cons.mpr ⟨(List.mem_cons_of_mem _ (List.mem_append_left _ (List.mem_append_left _ (List.mem_append_right _ (List.mem_append_right _ (List.mem_append_right _ (List.mem_append_left _ lm21))))))), List.forall_mem_cons.mpr ⟨(List.mem_cons_of_mem _ (List.mem_append_left _ (List.mem_append_left _ (List.mem_append_right _ (List.mem_append_right _ (List.mem_append_right _ (List.mem_append_left _ lm22))))))), List.forall_mem_cons.mpr ⟨(List.mem_cons_of_mem _ (List.mem_append_left _ (List.mem_append_left _ (List.mem_append_right _ (List.mem_append_right _ (List.mem_append_right _ (List.mem_append_left _ lm23))))))), List.forall_mem_cons.mpr ⟨(List.mem_cons_of_mem _ (List.mem_append_left _ (List.mem_append_left _ (List.mem_append_right _ (List.mem_append_right _ (List.mem_append_right _ (List.mem_append_right _ lm0))))))), List.forall_mem_cons.mpr ⟨(List.mem_cons_of_mem _ (List.mem_append_left _ (List.mem_append_left _ (List.mem_append_right _ (List.mem_append_right _ (List.mem_append_right _ (List.mem_append_right _ lm1))))))), List.forall_mem_cons.mpr ⟨(List.mem_cons_of_mem _ (List.mem_append_left _ (List.mem_append_left _ (List.mem_append_right _ (List.mem_append_right _ (List.mem_append_right _ (List.mem_append_right _ lm2))))))), (fun _ h => absurd h List.not_mem_nil)⟩⟩⟩⟩⟩⟩⟩⟩⟩⟩⟩⟩⟩⟩⟩⟩⟩) gw_J0_indexOf_0f7a4)
theorem gX5_kindOf_X3_at : GoodIn wsX5_kindOf (wsV RX5 116 RX3 yX3_at wsX3_at) := goodIn_app (goodIn_sub (List.forall_mem_cons.mpr ⟨(List.mem_cons_of_mem _ (List.mem_append_left _ (List.mem_append_left _ (List.mem_append_left _ lm3)))), List.forall_mem_cons.mpr ⟨(List.mem_cons_of_mem _ (List.mem_append_left _ (List.mem_append_left _ (List.mem_append_left _ lm4)))), List.forall_mem_cons.mpr ⟨(List.mem_cons_of_mem _ (List.mem_append_left _ (List.mem_append_left _ (List.mem_append_left _ lm5)))), List.forall_mem_cons.mpr ⟨(List.mem_cons_of_mem _ (List.mem_append_left _ (List.mem_append_left _ (List.mem_append_left _ lm6)))), (fun _ h => absurd h List.not_mem_nil)⟩⟩⟩⟩) (by decide +kernel)) (goodIn_sub (by unfold wsX3_at; exact List.forall_mem_cons.mpr ⟨(List.mem_cons_of_mem _ (List.mem_append_left _ (List.mem_append_left _ (List.mem_append_left _ lm7)))), List.forall_mem_append.mpr ⟨List.forall_mem_cons.mpr ⟨(List.mem_cons_of_mem _ (List.mem_append_left _ (List.mem_append_left _ (List.mem_append_left _ lm8)))), List.forall_mem_cons.mpr ⟨(List.mem_cons_of_mem _ (List.mem_append_left _ (List.mem_append_left _ (List.mem_append_left _ lm9)))), (fun _ h => absurd h List.not_mem_nil)⟩⟩, (fun _ h => (List.mem_cons_of_mem _ (List.mem_append_right _ h)))⟩⟩) gw_X3_at)
theorem gX5_tagsOf_X3_at : GoodIn wsX5_tagsOf (wsV RX5 116 RX3 yX3_at wsX3_at) := goodIn_app (goodIn_sub (List.forall_mem_cons.mpr ⟨(List.mem_cons_of_mem _ (List.mem_append_left _ (List.mem_append_left _ lm1))), List.forall_mem_cons.mpr ⟨(List.mem_cons_of_mem _ (List.mem_append_left _ (List.mem_append_left _ lm2))), List.forall_mem_cons.mpr ⟨(List.mem_cons_of_mem _ (List.mem_append_left _ (List.mem_append_left _ lm3))), List.forall_mem_cons.mpr ⟨(List.mem_cons_of_mem _ (List.mem_append_left _ (List.mem_append_left _ lm4))), (fun _ h => absurd h List.not_mem_nil)⟩⟩⟩⟩) (by decide +kernel)) (goodIn_sub (by unfold wsX3_at; exact List.forall_mem_cons.mpr ⟨(List.mem_cons_of_mem _ (List.mem_append_left _ (List.mem_append_left _ lm5))), List.forall_mem_append.mpr ⟨List.forall_mem_cons.mpr ⟨(List.mem_cons_of_mem _ (List.mem_append_left _ (List.mem_append_left _ lm6))), List.forall_mem_cons.mpr ⟨(List.mem_cons_of_mem _ (List.mem_append_left _ (List.mem_append_left _ lm7))), (fun _ h => absurd h List.not_mem_nil)⟩⟩, (fun _ h => (List.mem_cons_of_mem _ (List.mem_append_right _ h)))⟩⟩) gw_X3_at)
theorem gX5_widthOf_X3_at : GoodIn wsX5_widthOf (wsV RX5 116 RX3 yX3_at wsX3_at) := goodIn_app (goodIn_sub (List.forall_mem_cons.mpr ⟨(List.mem_cons_of_mem _ (List.mem_append_left _ (List.mem_append_left _ lm1))), List.forall_mem_cons.mpr ⟨(List.mem_cons_of_mem _ (List.mem_append_left _ (List.mem_append_left _ lm2))), List.forall_mem_cons.mpr ⟨(List.mem_cons_of_mem _ (List.mem_append_left _ (List.mem_append_left _ lm3))), List.forall_mem_cons.mpr ⟨(List.mem_cons_of_mem _ (List.mem_append_left _ (List.mem_append_left _ lm4))), (fun _ h => absurd h List.not_mem_nil)⟩⟩⟩⟩) (by decide +kernel)) (goodIn_sub (by unfold wsX3_at; exact List.forall_mem_cons.mpr ⟨(List.mem_cons_of_mem _ (List.mem_append_left _ (List.mem_append_left _ lm5))), List.forall_mem_append.mpr ⟨List.forall_mem_cons.mpr ⟨(List.mem_cons_of_mem _ (List.mem_append_left _ (List.mem_append_left _ lm6))), List.forall_mem_cons.mpr ⟨(List.mem_cons_of_mem _ (List.mem_append_left _ (List.mem_append_left _ lm7))), (fun _ h => absurd h List.not_mem_nil)⟩⟩, (fun _ h => (List.mem_cons_of_mem _ (List.mem_append_right _ h)))⟩⟩) gw_X3_at)
set_option maxHeartbeats 2000000 in
set_option maxRecDepth 100000 in
theorem k_pbegin (l : Launch) (D : va_G) (g : Nat → Nat) (ka : Nat → ClassId) (ad : Nat → Nat) (i : Nat → Nat → Int32) (r : Nat → Nat → Nat) (L : Nat → Nat → Int64) (d : Nat → Nat → UInt64) (p9 : Nat) (x : Int32) (y : Int32) (z : Int32) (hO : OkI i) (hR : RS r) (sz : Nat) (hp1 : 37 ≤ p9) (hp2 : p9 < 96) (hy0 : 0 ≤ y.toInt) (hy1 : y.toInt ≤ 65535) (hz0 : 0 ≤ z.toInt) (hz1 : z.toInt ≤ 40) : Met l yX4_begin wsX4_begin ({ frames := 0, cells := 0, slots := 0, locals := 0 }) (va_Pc [.ref (g p9), .int x, .int y, .int z] (sj_B D (hwc g ka i r L d) (hT ka) sz (gx ad (va_A (hwc g ka i r L d) sz)))) (sj_Qv (S := (Nat → Nat → Int32)) D (fun u => OkI u ∧ (∀ a, ¬ (a = p9) → u a = i a) ∧ (bgP u p9 x.toInt y.toInt z.toInt) ∧ (∀ k : Nat, 4 ≤ k → k < 8 → u p9 k = i p9 k)) (fun u => hwc g ka u r L d) (fun _ => []) (va_A (hwc g ka i r L d) sz)) 0 0 (va_A (hwc g ka i r L d) sz) := by
  refine x_met (Ex := gx ad) (cc := cX4_begin) (maxL := 4) (ret := none) (by decide) rfl (Nat.le_of_ble_eq_true rfl) ?_
  intro p e s m below meth c A ls hx hb hr hml hts hown hlocks hA hS hH hK hE hl
  have hown : s.vm.findClass RX4 = some m.cls := hown
  have in4 : ∀ w ∈ wsX40, w ∈ wsX4_begin := (fun _ h => (List.mem_cons_of_mem _ (List.mem_append_right _ h)))
  have wd0 := hts (.fieldLink RX4 7 "StoryDesk$Part" "line" "I") (List.mem_cons_of_mem _ (List.mem_append_left _ lm0))
  have wd1 := hts (.fieldLink RX4 13 "StoryDesk$Part" "tags" "I") (List.mem_cons_of_mem _ (List.mem_append_left _ lm1))
  have wd2 := hts (.fieldLink RX4 16 "StoryDesk$Part" "first" "I") (List.mem_cons_of_mem _ (List.mem_append_left _ lm2))
  have wd3 := hts (.fieldLink RX4 19 "StoryDesk$Part" "count" "I") (List.mem_cons_of_mem _ (List.mem_append_left _ lm3))
  have wd4 := hts (.fieldLink RX4 22 "StoryDesk$Part" "examples" "I") (List.mem_cons_of_mem _ (List.mem_append_left _ lm4))
  have hl : lv_has ls 4 [(0, .ref (g p9)), (1, .int x), (2, .int y), (3, .int z)] := hl
  have hK : va_K D vwCl (hT ka) s := hK
  have hg_1 := s_rng x
  refine lv_aload_n hx hb dX4_begin_0 rfl (lv_at hl 0 rfl) ?_
  refine lv_iload_n hx hb dX4_begin_1 rfl (lv_at hl 1 rfl) ?_
  have hO_2 := okp hO (n := p9) (k := 0) (v := x) (by rw [bx_part (by omega) (by omega) 0]; exact (show (-2147483648 : Int) ≤ (x : Int32).toInt ∧ (x : Int32).toInt ≤ 2147483647 from s_rng x))
  refine h_puti (ty := .int) (ci := 4) (C := RX4) (F := TX4) (N := 9) hx hb hts in4 tyX4 tyX4_ok nmX4 hown hK hH hS (lt_nK (by omega)) (kd_part (by omega) (by omega)) (by decide) rfl 0 (by decide) wd0 (fun _ h9 => h9) rfl (by decide +kernel) rfl rfl (by decide) rfl dX4_begin_2 (fun H locs hH hS => ?_)
  refine lv_aload_n hx hb dX4_begin_5 rfl (lv_at hl 0 rfl) ?_
  refine lv_iload_n hx hb dX4_begin_6 rfl (lv_at hl 2 rfl) ?_
  have hO_3 := okp hO_2 (n := p9) (k := 1) (v := y) (by rw [bx_part (by omega) (by omega) 1]; exact (show (0 : Int) ≤ (y : Int32).toInt ∧ (y : Int32).toInt ≤ 65535 from ⟨by omega, by omega⟩))
  refine h_puti (ty := .int) (ci := 4) (C := RX4) (F := TX4) (N := 9) hx hb hts in4 tyX4 tyX4_ok nmX4 hown hK hH hS (lt_nK (by omega)) (kd_part (by omega) (by omega)) (by decide) rfl 1 (by decide) wd1 (fun _ h9 => h9) rfl (by decide +kernel) rfl rfl (by decide) rfl dX4_begin_7 (fun H locs hH hS => ?_)
  refine lv_aload_n hx hb dX4_begin_10 rfl (lv_at hl 0 rfl) ?_
  refine lv_iload_n hx hb dX4_begin_11 rfl (lv_at hl 3 rfl) ?_
  have hO_4 := okp hO_3 (n := p9) (k := 2) (v := z) (by rw [bx_part (by omega) (by omega) 2]; exact (show (0 : Int) ≤ (z : Int32).toInt ∧ (z : Int32).toInt ≤ 40 from ⟨by omega, by omega⟩))
  refine h_puti (ty := .int) (ci := 4) (C := RX4) (F := TX4) (N := 9) hx hb hts in4 tyX4 tyX4_ok nmX4 hown hK hH hS (lt_nK (by omega)) (kd_part (by omega) (by omega)) (by decide) rfl 2 (by decide) wd2 (fun _ h9 => h9) rfl (by decide +kernel) rfl rfl (by decide) rfl dX4_begin_12 (fun H locs hH hS => ?_)
  refine lv_aload_n hx hb dX4_begin_15 rfl (lv_at hl 0 rfl) ?_
  refine lv_iconst (v := 0) hx hb dX4_begin_16 (by decide) ?_
  have hO_5 := okp hO_4 (n := p9) (k := 3) (v := 0) (by rw [bx_part (by omega) (by omega) 3]; exact (show (0 : Int) ≤ (0 : Int32).toInt ∧ (0 : Int32).toInt ≤ 40 from ⟨by decide, by decide⟩))
  refine h_puti (ty := .int) (ci := 4) (C := RX4) (F := TX4) (N := 9) hx hb hts in4 tyX4 tyX4_ok nmX4 hown hK hH hS (lt_nK (by omega)) (kd_part (by omega) (by omega)) (by decide) rfl 3 (by decide) wd3 (fun _ h9 => h9) rfl (by decide +kernel) rfl rfl (by decide) rfl dX4_begin_17 (fun H locs hH hS => ?_)
  refine lv_aload_n hx hb dX4_begin_20 rfl (lv_at hl 0 rfl) ?_
  refine lv_iconst (v := 0) hx hb dX4_begin_21 (by decide) ?_
  have hO_6 := okp hO_5 (n := p9) (k := 8) (v := 0) (by rw [bx_part (by omega) (by omega) 8]; exact (show (0 : Int) ≤ (0 : Int32).toInt ∧ (0 : Int32).toInt ≤ 12 from ⟨by decide, by decide⟩))
  refine h_puti (ty := .int) (ci := 4) (C := RX4) (F := TX4) (N := 9) hx hb hts in4 tyX4 tyX4_ok nmX4 hown hK hH hS (lt_nK (by omega)) (kd_part (by omega) (by omega)) (by decide) rfl 8 (by decide) wd4 (fun _ h9 => h9) rfl (by decide +kernel) rfl rfl (by decide) rfl dX4_begin_22 (fun H locs hH hS => ?_)
  have hp_7 : ((up2 (up2 (up2 (up2 (up2 i p9 0 x) p9 1 y) p9 2 z) p9 3 0) p9 8 0) p9 0).toInt = (x : Int32).toInt := congrArg Int32.toInt (((up2_k _ _ (by decide)).trans ((up2_k _ _ (by decide)).trans ((up2_k _ _ (by decide)).trans ((up2_k _ _ (by decide)).trans (up2_at _ _ _ _))))))
  have hp_8 : ((up2 (up2 (up2 (up2 (up2 i p9 0 x) p9 1 y) p9 2 z) p9 3 0) p9 8 0) p9 1).toInt = (y : Int32).toInt := congrArg Int32.toInt (((up2_k _ _ (by decide)).trans ((up2_k _ _ (by decide)).trans ((up2_k _ _ (by decide)).trans (up2_at _ _ _ _)))))
  have hp_9 : ((up2 (up2 (up2 (up2 (up2 i p9 0 x) p9 1 y) p9 2 z) p9 3 0) p9 8 0) p9 2).toInt = (z : Int32).toInt := congrArg Int32.toInt (((up2_k _ _ (by decide)).trans ((up2_k _ _ (by decide)).trans (up2_at _ _ _ _))))
  have hp_10 : ((up2 (up2 (up2 (up2 (up2 i p9 0 x) p9 1 y) p9 2 z) p9 3 0) p9 8 0) p9 3).toInt = (0 : Int32).toInt := congrArg Int32.toInt (((up2_k _ _ (by decide)).trans (up2_at _ _ _ _)))
  have hl_11 : (0 : Int32).toInt = 0 := rfl
  have hp_12 : ((up2 (up2 (up2 (up2 (up2 i p9 0 x) p9 1 y) p9 2 z) p9 3 0) p9 8 0) p9 4).toInt = ((i p9 4) : Int32).toInt := congrArg Int32.toInt (((up2_k _ _ (by decide)).trans ((up2_k _ _ (by decide)).trans ((up2_k _ _ (by decide)).trans ((up2_k _ _ (by decide)).trans (up2_k _ _ (by decide)))))))
  have hp_13 : ((up2 (up2 (up2 (up2 (up2 i p9 0 x) p9 1 y) p9 2 z) p9 3 0) p9 8 0) p9 5).toInt = ((i p9 5) : Int32).toInt := congrArg Int32.toInt (((up2_k _ _ (by decide)).trans ((up2_k _ _ (by decide)).trans ((up2_k _ _ (by decide)).trans ((up2_k _ _ (by decide)).trans (up2_k _ _ (by decide)))))))
  have hp_14 : ((up2 (up2 (up2 (up2 (up2 i p9 0 x) p9 1 y) p9 2 z) p9 3 0) p9 8 0) p9 6).toInt = ((i p9 6) : Int32).toInt := congrArg Int32.toInt (((up2_k _ _ (by decide)).trans ((up2_k _ _ (by decide)).trans ((up2_k _ _ (by decide)).trans ((up2_k _ _ (by decide)).trans (up2_k _ _ (by decide)))))))
  have hp_15 : ((up2 (up2 (up2 (up2 (up2 i p9 0 x) p9 1 y) p9 2 z) p9 3 0) p9 8 0) p9 7).toInt = ((i p9 7) : Int32).toInt := congrArg Int32.toInt (((up2_k _ _ (by decide)).trans ((up2_k _ _ (by decide)).trans ((up2_k _ _ (by decide)).trans ((up2_k _ _ (by decide)).trans (up2_k _ _ (by decide)))))))
  have hp_16 : ((up2 (up2 (up2 (up2 (up2 i p9 0 x) p9 1 y) p9 2 z) p9 3 0) p9 8 0) p9 8).toInt = (0 : Int32).toInt := congrArg Int32.toInt ((up2_at _ _ _ _))
  have hl_17 : (0 : Int32).toInt = 0 := rfl
  exact sj_vret hx hb hr hlocks hS (up2 (up2 (up2 (up2 (up2 i p9 0 x) p9 1 y) p9 2 z) p9 3 0) p9 8 0) ⟨hO_6, (fun a ha => ((up2_n _ _ (by omega)).trans ((up2_n _ _ (by omega)).trans ((up2_n _ _ (by omega)).trans ((up2_n _ _ (by omega)).trans (up2_n _ _ (by omega))))))), ⟨by omega, by omega, by omega, by omega, by omega⟩, (fun k h4 h8 => ((up2_k _ _ (by omega)).trans ((up2_k _ _ (by omega)).trans ((up2_k _ _ (by omega)).trans ((up2_k _ _ (by omega)).trans (up2_k _ _ (by omega)))))))⟩ hH (sj_Knil hK) (Nat.le_of_ble_eq_true rfl) (Nat.le_of_ble_eq_true rfl) dX4_begin_25
set_option maxHeartbeats 2000000 in
set_option maxRecDepth 100000 in
theorem k_addError (l : Launch) (D : va_G) (g : Nat → Nat) (ka : Nat → ClassId) (ad : Nat → Nat) (i : Nat → Nat → Int32) (r : Nat → Nat → Nat) (L : Nat → Nat → Int64) (d : Nat → Nat → UInt64) (x : Int32) (y : Int32) (hO : OkI i) (hR : RS r) (sz : Nat)  : Met l yX5_addError wsX5_addError ({ frames := 0, cells := 0, slots := 0, locals := 0 }) (va_Pc [.ref (g 3), .int x, .int y] (sj_B D (hwc g ka i r L d) (hT ka) sz (gx ad (va_A (hwc g ka i r L d) sz)))) (sj_Qv (S := (Nat → Nat → Int32)) D (fun u => OkI u ∧ (∀ a, ¬ (a = 3 ∨ a = 6 ∨ a = 7) → u a = i a) ∧ (addE i u x.toInt y.toInt)) (fun u => hwc g ka u r L d) (fun _ => []) (va_A (hwc g ka i r L d) sz)) 0 0 (va_A (hwc g ka i r L d) sz) := by
  refine x_met (Ex := gx ad) (cc := cX5_addError) (maxL := 3) (ret := none) (by decide) rfl (Nat.le_of_ble_eq_true rfl) ?_
  intro p e s m below meth c A ls hx hb hr hml hts hown hlocks hA hS hH hK hE hl
  have hown : s.vm.findClass RX5 = some m.cls := hown
  have in5 : ∀ w ∈ wsX50, w ∈ wsX5_addError := (fun _ h => (List.mem_cons_of_mem _ (List.mem_append_right _ h)))
  have wd0 := hts (.fieldLink RX5 91 "StoryDesk$Reading" "errors" "I") (List.mem_cons_of_mem _ (List.mem_append_left _ lm0))
  have wd1 := hts (.fieldLink RX5 20 "StoryDesk$Reading" "errorLines" "[I") (List.mem_cons_of_mem _ (List.mem_append_left _ lm1))
  have wd2 := hts (.fieldLink RX5 24 "StoryDesk$Reading" "errorNumbers" "[I") (List.mem_cons_of_mem _ (List.mem_append_left _ lm2))
  have hl : lv_has ls 3 [(0, .ref (g 3)), (1, .int x), (2, .int y)] := hl
  have hK : va_K D vwCl (hT ka) s := hK
  have hg_1 := s_rng x
  have hg_2 := s_rng y
  refine lv_aload_n hx hb dX5_addError_0 rfl (lv_at hl 0 rfl) ?_
  have bx_3 : (0 : Int) ≤ (i 3 4).toInt ∧ (i 3 4).toInt ≤ 20 := hO 3 4
  refine h_geti (ci := 5) (C := RX5) (F := TX5) (N := 19) hx hb hts in5 hown hK hH (by decide) (rfl : kd 3 = 5) (by decide) rfl 4 (by decide) wd0 (fun _ h9 => h9) (by decide) rfl dX5_addError_1 ?_
  refine lv_bipush (v := 20) hx hb dX5_addError_4 (by decide) ?_
  refine lv_icmp_ge (tgt := 39) hx hb dX5_addError_6 (by decide) (fun c_4 => ?_) (fun c_4 => ?_)
  · skip
    have h_5 := s_le (show (20 : Int32).toInt = 20 from rfl) (rfl : (i 3 4).toInt = _) c_4
    have hp_6 : (i 3 4).toInt = ((i 3 4) : Int32).toInt := rfl
    exact sj_vret hx hb hr hlocks hS i ⟨hO, (fun a ha => rfl), ⟨Or.inl ⟨by omega, rfl, rfl, rfl⟩, fun a b h6 h7 h3 => rfl⟩⟩ hH (sj_Knil hK) (Nat.le_of_ble_eq_true rfl) (Nat.le_of_ble_eq_true rfl) dX5_addError_39
  · skip
    have h_7 := s_nle (show (20 : Int32).toInt = 20 from rfl) (rfl : (i 3 4).toInt = _) c_4
    refine lv_aload_n hx hb dX5_addError_9 rfl (lv_at hl 0 rfl) ?_
    refine h_getr (ci := 5) (C := RX5) (F := TX5) (N := 19) hx hb hts in5 hown hK hH (by decide) (rfl : kd 3 = 5) (by decide) rfl 2 (by decide) wd1 (fun _ h9 => h9) (by decide) rfl (t := 6) (hR 3 2 rfl) (by decide) dX5_addError_10 ?_
    refine lv_aload_n hx hb dX5_addError_13 rfl (lv_at hl 0 rfl) ?_
    refine h_geti (ci := 5) (C := RX5) (F := TX5) (N := 19) hx hb hts in5 hown hK hH (by decide) (rfl : kd 3 = 5) (by decide) rfl 4 (by decide) wd0 (fun _ h9 => h9) (by decide) rfl dX5_addError_14 ?_
    refine lv_iload_n hx hb dX5_addError_17 rfl (lv_at hl 1 rfl) ?_
    have hO_8 := okp hO (n := 6) (k := ((i 3 4).toInt).toNat) (v := x) (show (-2147483648 : Int) ≤ (x : Int32).toInt ∧ (x : Int32).toInt ≤ 2147483647 from s_rng x)
    refine h_iast hx hb hK hH hS (by decide) (rfl : kd 6 = 13) (s_vin (N := 20) (rfl : (i 3 4).toInt = _) (rfl : ln 6 = 20) (by omega) (by omega)) dX5_addError_18 (fun H locs hH hS => ?_)
    rw [s_cl (show (i 3 4).toInt = (i 3 4).toInt by omega)] at hH
    refine lv_aload_n hx hb dX5_addError_19 rfl (lv_at hl 0 rfl) ?_
    refine h_getr (ci := 5) (C := RX5) (F := TX5) (N := 19) hx hb hts in5 hown hK hH (by decide) (rfl : kd 3 = 5) (by decide) rfl 3 (by decide) wd2 (fun _ h9 => h9) (by decide) rfl (t := 7) (hR 3 3 rfl) (by decide) dX5_addError_20 ?_
    refine lv_aload_n hx hb dX5_addError_23 rfl (lv_at hl 0 rfl) ?_
    refine h_geti (ci := 5) (C := RX5) (F := TX5) (N := 19) hx hb hts in5 hown hK hH (by decide) (rfl : kd 3 = 5) (by decide) rfl 4 (by decide) wd0 (fun _ h9 => h9) (by decide) rfl dX5_addError_24 ?_
    refine sj_i (y := (i 3 4)) (congrFun (up2_n _ _ (by decide)) _) ?_
    refine lv_iload_n hx hb dX5_addError_27 rfl (lv_at hl 2 rfl) ?_
    have hO_9 := okp hO_8 (n := 7) (k := ((i 3 4).toInt).toNat) (v := y) (show (-2147483648 : Int) ≤ (y : Int32).toInt ∧ (y : Int32).toInt ≤ 2147483647 from s_rng y)
    refine h_iast hx hb hK hH hS (by decide) (rfl : kd 7 = 13) (s_vin (N := 20) (rfl : (i 3 4).toInt = _) (rfl : ln 7 = 20) (by omega) (by omega)) dX5_addError_28 (fun H locs hH hS => ?_)
    rw [s_cl (show (i 3 4).toInt = (i 3 4).toInt by omega)] at hH
    refine lv_aload_n hx hb dX5_addError_29 rfl (lv_at hl 0 rfl) ?_
    refine lv_dup hx hb dX5_addError_30 rfl ?_
    refine h_geti (ci := 5) (C := RX5) (F := TX5) (N := 19) hx hb hts in5 hown hK hH (by decide) (rfl : kd 3 = 5) (by decide) rfl 4 (by decide) wd0 (fun _ h9 => h9) (by decide) rfl dX5_addError_31 ?_
    refine sj_i (y := (i 3 4)) ((congrFun (up2_n _ _ (by decide)) _).trans (congrFun (up2_n _ _ (by decide)) _)) ?_
    refine lv_iconst (v := 1) hx hb dX5_addError_34 (by decide) ?_
    refine lv_iadd hx hb dX5_addError_35 ?_
    obtain ⟨z_10, ez_10, hz_10⟩ := s_add (rfl : (i 3 4).toInt = _) (show (1 : Int32).toInt = 1 from rfl) (by omega) (by omega)
    refine sj_i ez_10 ?_
    have hO_11 := okp hO_9 (n := 3) (k := 4) (v := z_10) (show (0 : Int) ≤ (z_10 : Int32).toInt ∧ (z_10 : Int32).toInt ≤ 20 from ⟨by omega, by omega⟩)
    refine h_puti (ty := .int) (ci := 5) (C := RX5) (F := TX5) (N := 19) hx hb hts in5 tyX5 tyX5_ok nmX5 hown hK hH hS (by decide) (rfl : kd 3 = 5) (by decide) rfl 4 (by decide) wd0 (fun _ h9 => h9) rfl (by decide +kernel) rfl rfl (by decide) rfl dX5_addError_36 (fun H locs hH hS => ?_)
    have hp_12 : ((up2 (up2 (up2 i 6 ((i 3 4).toInt).toNat x) 7 ((i 3 4).toInt).toNat y) 3 4 z_10) 3 4).toInt = (z_10 : Int32).toInt := congrArg Int32.toInt ((up2_at _ _ _ _))
    exact sj_vret hx hb hr hlocks hS (up2 (up2 (up2 i 6 ((i 3 4).toInt).toNat x) 7 ((i 3 4).toInt).toNat y) 3 4 z_10) ⟨hO_11, (fun a ha => ((up2_n _ _ (by omega)).trans ((up2_n _ _ (by omega)).trans (up2_n _ _ (by omega))))), ⟨Or.inr ⟨by omega, by omega, (show ((up2 (up2 (up2 i 6 ((i 3 4).toInt).toNat x) 7 ((i 3 4).toInt).toNat y) 3 4 z_10) 6 (i 3 4).toInt.toNat).toInt = _ from congrArg Int32.toInt (((congrFun (up2_n _ _ (by decide)) _).trans ((congrFun (up2_n _ _ (by decide)) _).trans (up2_at _ _ _ _))))), (show ((up2 (up2 (up2 i 6 ((i 3 4).toInt).toNat x) 7 ((i 3 4).toInt).toNat y) 3 4 z_10) 7 (i 3 4).toInt.toNat).toInt = _ from congrArg Int32.toInt (((congrFun (up2_n _ _ (by decide)) _).trans (up2_at _ _ _ _)))), fun k hk => ⟨((congrFun (up2_n _ _ (by omega)) _).trans ((congrFun (up2_n _ _ (by omega)) _).trans (up2_k _ _ (by omega)))), ((congrFun (up2_n _ _ (by omega)) _).trans ((up2_k _ _ (by omega)).trans (congrFun (up2_n _ _ (by omega)) _)))⟩⟩, (fun a b h6 h7 h3 => ((up2_o _ _ (by omega)).trans ((up2_o _ _ (by omega)).trans (up2_o _ _ (by omega)))))⟩⟩ hH (sj_Knil hK) (Nat.le_of_ble_eq_true rfl) (Nat.le_of_ble_eq_true rfl) dX5_addError_39
set_option maxHeartbeats 2000000 in
set_option maxRecDepth 100000 in
theorem k_kindOf (l : Launch) (D : va_G) (g : Nat → Nat) (ka : Nat → ClassId) (ad : Nat → Nat) (i : Nat → Nat → Int32) (r : Nat → Nat → Nat) (L : Nat → Nat → Int64) (d : Nat → Nat → UInt64) (x : Int32) (y : Int32) (hO : OkI i) (hR : RS r) (sz : Nat) (hx0 : 0 ≤ x.toInt) (hxy : x.toInt ≤ y.toInt) (hys : y.toInt ≤ (i 4 1).toInt) : Met l yX5_kindOf wsX5_kindOf ({ frames := 4, cells := 0, slots := 0, locals := 96 }) (va_Pc [.ref (g 3), .int x, .int y] (sj_B D (hwc g ka i r L d) (hT ka) sz (gx ad (va_A (hwc g ka i r L d) sz)))) (sj_Qi (S := Unit) D (fun v u => ((0 : Int) ≤ v.toInt ∧ v.toInt ≤ 9) ∧ (v.toInt = lkd (i 3 1).toInt (lnL (i 5) x.toInt y.toInt))) (fun _ => hwc g ka i r L d) (fun _ => []) (va_A (hwc g ka i r L d) sz)) 0 0 (va_A (hwc g ka i r L d) sz) := by
  refine x_met (Ex := gx ad) (cc := cX5_kindOf) (maxL := 6) (ret := (some .int)) (by decide) rfl (Nat.le_of_ble_eq_true rfl) ?_
  intro p e s m below meth c A ls hx hb hr hml hts hown hlocks hA hS hH hK hE hl
  have hown : s.vm.findClass RX5 = some m.cls := hown
  have in3 : ∀ w ∈ wsX30, w ∈ wsX5_kindOf := (fun _ h => (List.mem_cons_of_mem _ (List.mem_append_right _ h)))
  have in5 : ∀ w ∈ wsX50, w ∈ wsX5_kindOf := (fun _ h => (List.mem_cons_of_mem _ (List.mem_append_left _ (List.mem_append_right _ h))))
  have wd0 := hts (.fieldLink RX5 16 "StoryDesk$Reading" "source" "LStoryDesk$Letters;") (List.mem_cons_of_mem _ (List.mem_append_left _ (List.mem_append_left _ (List.mem_append_left _ lm0))))
  have wd1 := hts (.fieldLink RX5 60 "StoryDesk$Letters" "chars" "[C") (List.mem_cons_of_mem _ (List.mem_append_left _ (List.mem_append_left _ (List.mem_append_left _ lm1))))
  have wd2 := hts (.fieldLink RX5 88 "StoryDesk$Reading" "dialect" "I") (List.mem_cons_of_mem _ (List.mem_append_left _ (List.mem_append_left _ (List.mem_append_left _ lm2))))
  have hl : lv_has ls 6 [(0, .ref (g 3)), (1, .int x), (2, .int y)] := hl
  have hK : va_K D vwCl (hT ka) s := hK
  have hs4 : (0 : Int) ≤ (i 4 1).toInt ∧ (i 4 1).toInt ≤ 480 := hO 4 1
  have hyy : y.toInt ≤ 480 := by omega
  have hd1 : (0 : Int) ≤ (i 3 1).toInt ∧ (i 3 1).toInt ≤ 1 := hO 3 1
  refine lv_iload_n hx hb dX5_kindOf_0 rfl (lv_at hl 1 rfl) ?_
  refine lv_iload_n hx hb dX5_kindOf_1 rfl (lv_at hl 2 rfl) ?_
  refine lv_icmp_lt (tgt := 7) hx hb dX5_kindOf_2 (by decide) (fun c_1 => ?_) (fun c_1 => ?_)
  · skip
    have h_2 := s_lt (rfl : x.toInt = _) (rfl : y.toInt = _) c_1
    refine lv_aload_n hx hb dX5_kindOf_7 rfl (lv_at hl 0 rfl) ?_
    refine h_getr (ci := 5) (C := RX5) (F := TX5) (N := 19) hx hb hts in5 hown hK hH (by decide) (rfl : kd 3 = 5) (by decide) rfl 0 (by decide) wd0 (fun _ h9 => h9) (by decide) rfl (t := 4) (hR 3 0 rfl) (by decide) dX5_kindOf_8 ?_
    refine h_getr (ci := 3) (C := RX3) (F := TX3) (N := 2) hx hb hts in3 hown hK hH (by decide) (rfl : kd 4 = 3) (by decide) rfl 0 (by decide) wd1 (fun _ h9 => h9) (by decide) rfl (t := 5) (hR 4 0 rfl) (by decide) dX5_kindOf_11 ?_
    refine lv_iload_n hx hb dX5_kindOf_14 rfl (lv_at hl 1 rfl) ?_
    have bx_3 : (0 : Int) ≤ (i 5 (x.toInt).toNat).toInt ∧ (i 5 (x.toInt).toNat).toInt ≤ 65535 := hO 5 (x.toInt).toNat
    have hcb := chB_or (i 5) x.toInt y.toInt
    refine h_cald hx hb hK hH (by decide) (rfl : kd 5 = 14) (s_vin (N := 480) (rfl : x.toInt = _) (rfl : ln 5 = 480) (by omega) (by omega)) dX5_kindOf_15 ?_
    have ek_4 : x.toNatClampNeg = (x.toInt).toNat := (s_cl (show x.toInt = x.toInt by omega))
    refine sj_i (y := (i 5 (x.toInt).toNat)) (by rw [ek_4]) ?_
    refine lv_istore_n (lv' := [(3, .int (i 5 (x.toInt).toNat)), (0, .ref (g 3)), (1, .int x), (2, .int y)]) hx hb dX5_kindOf_16 rfl hl (by decide) rfl (fun ls hl => ?_)
    refine lv_iload_n hx hb dX5_kindOf_17 rfl (lv_at hl 0 rfl) ?_
    refine lv_bipush (v := 35) hx hb dX5_kindOf_18 (by decide) ?_
    refine lv_icmp_ne (tgt := 25) hx hb dX5_kindOf_20 (by decide) (fun c_5 => ?_) (fun c_5 => ?_)
    · skip
      have h_6 := s_ne (rfl : (i 5 (x.toInt).toNat).toInt = _) (show (35 : Int32).toInt = 35 from rfl) c_5
      refine lv_iload_n hx hb dX5_kindOf_25 rfl (lv_at hl 0 rfl) ?_
      refine lv_bipush (v := 64) hx hb dX5_kindOf_26 (by decide) ?_
      refine lv_icmp_ne (tgt := 33) hx hb dX5_kindOf_28 (by decide) (fun c_7 => ?_) (fun c_7 => ?_)
      · skip
        have h_8 := s_ne (rfl : (i 5 (x.toInt).toNat).toInt = _) (show (64 : Int32).toInt = 64 from rfl) c_7
        refine lv_iload_n hx hb dX5_kindOf_33 rfl (lv_at hl 0 rfl) ?_
        refine lv_bipush (v := 124) hx hb dX5_kindOf_34 (by decide) ?_
        refine lv_icmp_ne (tgt := 41) hx hb dX5_kindOf_36 (by decide) (fun c_9 => ?_) (fun c_9 => ?_)
        · skip
          have h_10 := s_ne (rfl : (i 5 (x.toInt).toNat).toInt = _) (show (124 : Int32).toInt = 124 from rfl) c_9
          refine lv_iload_n hx hb dX5_kindOf_41 rfl (lv_at hl 2 rfl) ?_
          refine lv_iconst (v := 1) hx hb dX5_kindOf_42 (by decide) ?_
          refine lv_iadd hx hb dX5_kindOf_43 ?_
          obtain ⟨z_11, ez_11, hz_11⟩ := s_add (rfl : x.toInt = _) (show (1 : Int32).toInt = 1 from rfl) (by omega) (by omega)
          refine sj_i ez_11 ?_
          refine lv_iload_n hx hb dX5_kindOf_44 rfl (lv_at hl 3 rfl) ?_
          refine lv_icmp_ge (tgt := 61) hx hb dX5_kindOf_45 (by decide) (fun c_12 => ?_) (fun c_12 => ?_)
          · skip
            have h_13 := s_le (rfl : y.toInt = _) (rfl : z_11.toInt = _) c_12
            refine lv_iconst (v := (-1)) hx hb dX5_kindOf_61 (by decide) ?_
            refine lv_istore (lv' := [(4, .int (-1)), (3, .int (i 5 (x.toInt).toNat)), (0, .ref (g 3)), (1, .int x), (2, .int y)]) hx hb dX5_kindOf_62 hl (by decide) rfl (fun ls hl => ?_)
            refine lv_aload_n hx hb dX5_kindOf_64 rfl (lv_at hl 2 rfl) ?_
            have bx_14 : (0 : Int) ≤ (i 3 1).toInt ∧ (i 3 1).toInt ≤ 1 := hO 3 1
            refine h_geti (ci := 5) (C := RX5) (F := TX5) (N := 19) hx hb hts in5 hown hK hH (by decide) (rfl : kd 3 = 5) (by decide) rfl 1 (by decide) wd2 (fun _ h9 => h9) (by decide) rfl dX5_kindOf_65 ?_
            refine lv_iconst (v := 1) hx hb dX5_kindOf_68 (by decide) ?_
            refine lv_icmp_ne (tgt := 77) hx hb dX5_kindOf_69 (by decide) (fun c_15 => ?_) (fun c_15 => ?_)
            · skip
              have h_16 := s_ne (rfl : (i 3 1).toInt = _) (show (1 : Int32).toInt = 1 from rfl) c_15
              refine va_ldcS hx hb hown hE.2.1.2.2.1 dX5_kindOf_77 ?_
              refine lv_iload_n hx hb dX5_kindOf_79 rfl (lv_at hl 1 rfl) ?_
              refine x_calli (va_runV (As := [.int (i 5 (x.toInt).toNat)]) (rest := []) ⟨hx, hb, hml, hown, hts⟩ (k_indexOf_2 l D g ka ad i r L d (i 5 (x.toInt).toNat) hO hR s.heap.size ) (cwV 1 hts gX5_kindOf_J0_indexOf_0f7a4 rfl rfl rfl (by decide +kernel) ⟨(Nat.le_of_ble_eq_true rfl), (Nat.le_of_ble_eq_true rfl)⟩) (x_preS2 (n := 2) hE.1.1 (by decide) hH hK hS gxb (gxw hE hS (x_F hH hS hA))) rfl rfl hl.1 rfl (lv_room (Nat.le_of_ble_eq_true rfl)) dX5_kindOf_80 ⟨(Nat.le_of_ble_eq_true rfl), (Nat.le_of_ble_eq_true rfl)⟩) hH hS hA rfl rfl (fun r_17 _ H locs hw_18 hH hS => ?_)
              obtain ⟨hr_20, he_21⟩ := hw_18
              have hr_20 : (-1 : Int) ≤ r_17.toInt ∧ r_17.toInt ≤ 4 := hr_20
              refine lv_istore (lv' := [(5, .int r_17), (4, .int (-1)), (3, .int (i 5 (x.toInt).toNat)), (0, .ref (g 3)), (1, .int x), (2, .int y)]) hx hb dX5_kindOf_83 hl (by decide) rfl (fun ls hl => ?_)
              refine lv_iload hx hb dX5_kindOf_85 (lv_at hl 1 rfl) ?_
              refine lv_bipush (v := 58) hx hb dX5_kindOf_87 (by decide) ?_
              refine lv_icmp_ne (tgt := 102) hx hb dX5_kindOf_89 (by decide) (fun _ => ?_) (fun h => absurd h (by decide))
              refine lv_iload hx hb dX5_kindOf_102 (lv_at hl 1 rfl) ?_
              refine lv_bipush (v := 32) hx hb dX5_kindOf_104 (by decide) ?_
              refine lv_icmp_ne (tgt := 134) hx hb dX5_kindOf_106 (by decide) (fun _ => ?_) (fun h => absurd h (by decide))
              refine lv_bipush (v := 9) hx hb dX5_kindOf_134 (by decide) ?_
              have hlv_22 : (9 : Int32).toInt = 9 := rfl
              have hlv_23 : (9 : Int32).toInt = 9 := rfl
              exact sj_zret hx hb hr hlocks rfl hS () ⟨⟨by decide, by decide⟩, (by
                    by_cases hxy9 : x.toInt < y.toInt
                    · rw [lkd_ln (by omega) hxy9]; unfold kdF hdK sgK; repeat (first | rw [if_pos (by omega)] | rw [if_neg (by omega)]); all_goals omega
                    · rw [lkd_0 (by omega)]; omega)⟩ hH (sj_Knil hK) (Nat.le_of_ble_eq_true rfl) (Nat.le_of_ble_eq_true rfl) dX5_kindOf_136
            · skip
              have h_24 := s_eq (rfl : (i 3 1).toInt = _) (show (1 : Int32).toInt = 1 from rfl) c_15
              refine va_ldcS hx hb hown hE.2.1.2.1 dX5_kindOf_72 ?_
              refine lv_goto (tgt := 79) hx hb dX5_kindOf_74 (by decide) ?_
              refine lv_iload_n hx hb dX5_kindOf_79 rfl (lv_at hl 1 rfl) ?_
              refine x_calli (va_runV (As := [.int (i 5 (x.toInt).toNat)]) (rest := []) ⟨hx, hb, hml, hown, hts⟩ (k_indexOf_1 l D g ka ad i r L d (i 5 (x.toInt).toNat) hO hR s.heap.size ) (cwV 1 hts gX5_kindOf_J0_indexOf_0f7a4 rfl rfl rfl (by decide +kernel) ⟨(Nat.le_of_ble_eq_true rfl), (Nat.le_of_ble_eq_true rfl)⟩) (x_preS2 (n := 1) hE.1.1 (by decide) hH hK hS gxb (gxw hE hS (x_F hH hS hA))) rfl rfl hl.1 rfl (lv_room (Nat.le_of_ble_eq_true rfl)) dX5_kindOf_80 ⟨(Nat.le_of_ble_eq_true rfl), (Nat.le_of_ble_eq_true rfl)⟩) hH hS hA rfl rfl (fun r_25 _ H locs hw_26 hH hS => ?_)
              obtain ⟨hr_28, he_29⟩ := hw_26
              have hr_28 : (-1 : Int) ≤ r_25.toInt ∧ r_25.toInt ≤ 4 := hr_28
              refine lv_istore (lv' := [(5, .int r_25), (4, .int (-1)), (3, .int (i 5 (x.toInt).toNat)), (0, .ref (g 3)), (1, .int x), (2, .int y)]) hx hb dX5_kindOf_83 hl (by decide) rfl (fun ls hl => ?_)
              refine lv_iload hx hb dX5_kindOf_85 (lv_at hl 1 rfl) ?_
              refine lv_bipush (v := 58) hx hb dX5_kindOf_87 (by decide) ?_
              refine lv_icmp_ne (tgt := 102) hx hb dX5_kindOf_89 (by decide) (fun _ => ?_) (fun h => absurd h (by decide))
              refine lv_iload hx hb dX5_kindOf_102 (lv_at hl 1 rfl) ?_
              refine lv_bipush (v := 32) hx hb dX5_kindOf_104 (by decide) ?_
              refine lv_icmp_ne (tgt := 134) hx hb dX5_kindOf_106 (by decide) (fun _ => ?_) (fun h => absurd h (by decide))
              refine lv_bipush (v := 9) hx hb dX5_kindOf_134 (by decide) ?_
              have hlv_30 : (9 : Int32).toInt = 9 := rfl
              have hlv_31 : (9 : Int32).toInt = 9 := rfl
              exact sj_zret hx hb hr hlocks rfl hS () ⟨⟨by decide, by decide⟩, (by
                    by_cases hxy9 : x.toInt < y.toInt
                    · rw [lkd_ln (by omega) hxy9]; unfold kdF hdK sgK; repeat (first | rw [if_pos (by omega)] | rw [if_neg (by omega)]); all_goals omega
                    · rw [lkd_0 (by omega)]; omega)⟩ hH (sj_Knil hK) (Nat.le_of_ble_eq_true rfl) (Nat.le_of_ble_eq_true rfl) dX5_kindOf_136
          · skip
            have h_32 := s_nle (rfl : y.toInt = _) (rfl : z_11.toInt = _) c_12
            refine lv_aload_n hx hb dX5_kindOf_48 rfl (lv_at hl 1 rfl) ?_
            refine h_getr (ci := 5) (C := RX5) (F := TX5) (N := 19) hx hb hts in5 hown hK hH (by decide) (rfl : kd 3 = 5) (by decide) rfl 0 (by decide) wd0 (fun _ h9 => h9) (by decide) rfl (t := 4) (hR 3 0 rfl) (by decide) dX5_kindOf_49 ?_
            refine lv_iload_n hx hb dX5_kindOf_52 rfl (lv_at hl 2 rfl) ?_
            refine lv_iconst (v := 1) hx hb dX5_kindOf_53 (by decide) ?_
            refine lv_iadd hx hb dX5_kindOf_54 ?_
            obtain ⟨z_33, ez_33, hz_33⟩ := s_add (rfl : x.toInt = _) (show (1 : Int32).toInt = 1 from rfl) (by omega) (by omega)
            refine sj_i ez_33 ?_
            refine x_calli (va_runV (As := [.int z_33]) (rest := []) ⟨hx, hb, hml, hown, hts⟩ (k_at_source l D g ka ad i r L d z_33 hO hR s.heap.size ) (cwV 1 hts gX5_kindOf_X3_at rfl rfl rfl (by decide +kernel) ⟨(Nat.le_of_ble_eq_true rfl), (Nat.le_of_ble_eq_true rfl)⟩) (x_preV (q := (RX3, TX3, 2)) hH hK (q_obj (by decide) (rfl : kd 4 = 3) (by decide)) rfl gxb (gxw hE hS (x_F hH hS hA))) rfl rfl hl.1 rfl (lv_room (Nat.le_of_ble_eq_true rfl)) dX5_kindOf_55 ⟨(Nat.le_of_ble_eq_true rfl), (Nat.le_of_ble_eq_true rfl)⟩) hH hS hA rfl rfl (fun r_34 _ H locs hw_35 hH hS => ?_)
            obtain ⟨hr_37, he_38⟩ := hw_35
            have hr_37 : (-1 : Int) ≤ r_34.toInt ∧ r_34.toInt ≤ 65535 := hr_37
            rw [show z_33.toInt.toNat = (x.toInt + 1).toNat by omega] at he_38
            refine lv_goto (tgt := 62) hx hb dX5_kindOf_58 (by decide) ?_
            refine lv_istore (lv' := [(4, .int r_34), (3, .int (i 5 (x.toInt).toNat)), (0, .ref (g 3)), (1, .int x), (2, .int y)]) hx hb dX5_kindOf_62 hl (by decide) rfl (fun ls hl => ?_)
            refine lv_aload_n hx hb dX5_kindOf_64 rfl (lv_at hl 2 rfl) ?_
            have bx_39 : (0 : Int) ≤ (i 3 1).toInt ∧ (i 3 1).toInt ≤ 1 := hO 3 1
            refine h_geti (ci := 5) (C := RX5) (F := TX5) (N := 19) hx hb hts in5 hown hK hH (by decide) (rfl : kd 3 = 5) (by decide) rfl 1 (by decide) wd2 (fun _ h9 => h9) (by decide) rfl dX5_kindOf_65 ?_
            refine lv_iconst (v := 1) hx hb dX5_kindOf_68 (by decide) ?_
            refine lv_icmp_ne (tgt := 77) hx hb dX5_kindOf_69 (by decide) (fun c_40 => ?_) (fun c_40 => ?_)
            · skip
              have h_41 := s_ne (rfl : (i 3 1).toInt = _) (show (1 : Int32).toInt = 1 from rfl) c_40
              refine va_ldcS hx hb hown hE.2.1.2.2.1 dX5_kindOf_77 ?_
              refine lv_iload_n hx hb dX5_kindOf_79 rfl (lv_at hl 1 rfl) ?_
              refine x_calli (va_runV (As := [.int (i 5 (x.toInt).toNat)]) (rest := []) ⟨hx, hb, hml, hown, hts⟩ (k_indexOf_2 l D g ka ad i r L d (i 5 (x.toInt).toNat) hO hR H.size ) (cwV 1 hts gX5_kindOf_J0_indexOf_0f7a4 rfl rfl rfl (by decide +kernel) ⟨(Nat.le_of_ble_eq_true rfl), (Nat.le_of_ble_eq_true rfl)⟩) (x_preS2 (n := 2) hE.1.1 (by decide) hH hK hS gxb (gxw hE hS (x_F hH hS hA))) rfl rfl hl.1 rfl (lv_room (Nat.le_of_ble_eq_true rfl)) dX5_kindOf_80 ⟨(Nat.le_of_ble_eq_true rfl), (Nat.le_of_ble_eq_true rfl)⟩) hH hS hA rfl rfl (fun r_42 _ H locs hw_43 hH hS => ?_)
              obtain ⟨hr_45, he_46⟩ := hw_43
              have hr_45 : (-1 : Int) ≤ r_42.toInt ∧ r_42.toInt ≤ 4 := hr_45
              refine lv_istore (lv' := [(5, .int r_42), (4, .int r_34), (3, .int (i 5 (x.toInt).toNat)), (0, .ref (g 3)), (1, .int x), (2, .int y)]) hx hb dX5_kindOf_83 hl (by decide) rfl (fun ls hl => ?_)
              refine lv_iload hx hb dX5_kindOf_85 (lv_at hl 1 rfl) ?_
              refine lv_bipush (v := 58) hx hb dX5_kindOf_87 (by decide) ?_
              refine lv_icmp_ne (tgt := 102) hx hb dX5_kindOf_89 (by decide) (fun c_47 => ?_) (fun c_47 => ?_)
              · skip
                have h_48 := s_ne (rfl : r_34.toInt = _) (show (58 : Int32).toInt = 58 from rfl) c_47
                refine lv_iload hx hb dX5_kindOf_102 (lv_at hl 1 rfl) ?_
                refine lv_bipush (v := 32) hx hb dX5_kindOf_104 (by decide) ?_
                refine lv_icmp_ne (tgt := 134) hx hb dX5_kindOf_106 (by decide) (fun c_49 => ?_) (fun c_49 => ?_)
                · skip
                  have h_50 := s_ne (rfl : r_34.toInt = _) (show (32 : Int32).toInt = 32 from rfl) c_49
                  refine lv_bipush (v := 9) hx hb dX5_kindOf_134 (by decide) ?_
                  have hlv_51 : (9 : Int32).toInt = 9 := rfl
                  have hlv_52 : (9 : Int32).toInt = 9 := rfl
                  exact sj_zret hx hb hr hlocks rfl hS () ⟨⟨by decide, by decide⟩, (by
                        by_cases hxy9 : x.toInt < y.toInt
                        · rw [lkd_ln (by omega) hxy9]; unfold kdF hdK sgK; repeat (first | rw [if_pos (by omega)] | rw [if_neg (by omega)]); all_goals omega
                        · rw [lkd_0 (by omega)]; omega)⟩ hH (sj_Knil hK) (Nat.le_of_ble_eq_true rfl) (Nat.le_of_ble_eq_true rfl) dX5_kindOf_136
                · skip
                  have h_53 := s_eq (rfl : r_34.toInt = _) (show (32 : Int32).toInt = 32 from rfl) c_49
                  refine lv_aload_n hx hb dX5_kindOf_109 rfl (lv_at hl 3 rfl) ?_
                  refine h_geti (ci := 5) (C := RX5) (F := TX5) (N := 19) hx hb hts in5 hown hK hH (by decide) (rfl : kd 3 = 5) (by decide) rfl 1 (by decide) wd2 (fun _ h9 => h9) (by decide) rfl dX5_kindOf_110 ?_
                  refine lv_iconst (v := 1) hx hb dX5_kindOf_113 (by decide) ?_
                  refine lv_icmp_ne (tgt := 122) hx hb dX5_kindOf_114 (by decide) (fun _ => ?_) (fun h => absurd h (p_ne (rfl : (i 3 1).toInt = _) (show (1 : Int32).toInt = 1 from rfl) (by omega)))
                  refine va_ldcS hx hb hown hE.2.1.2.2.2.2 dX5_kindOf_122 ?_
                  refine lv_iload_n hx hb dX5_kindOf_124 rfl (lv_at hl 2 rfl) ?_
                  refine x_calli (va_runV (As := [.int (i 5 (x.toInt).toNat)]) (rest := []) ⟨hx, hb, hml, hown, hts⟩ (k_indexOf_4 l D g ka ad i r L d (i 5 (x.toInt).toNat) hO hR H.size ) (cwV 1 hts gX5_kindOf_J0_indexOf_0f7a4 rfl rfl rfl (by decide +kernel) ⟨(Nat.le_of_ble_eq_true rfl), (Nat.le_of_ble_eq_true rfl)⟩) (x_preS2 (n := 4) hE.1.1 (by decide) hH hK hS gxb (gxw hE hS (x_F hH hS hA))) rfl rfl hl.1 rfl (lv_room (Nat.le_of_ble_eq_true rfl)) dX5_kindOf_125 ⟨(Nat.le_of_ble_eq_true rfl), (Nat.le_of_ble_eq_true rfl)⟩) hH hS hA rfl rfl (fun r_54 _ H locs hw_55 hH hS => ?_)
                  obtain ⟨hr_57, he_58⟩ := hw_55
                  have hr_57 : (-1 : Int) ≤ r_54.toInt ∧ r_54.toInt ≤ 4 := hr_57
                  refine lv_if_lt (tgt := 134) hx hb dX5_kindOf_128 (by decide) (fun c_59 => ?_) (fun c_59 => ?_)
                  · skip
                    have h_60 := s_lt (rfl : r_54.toInt = _) (show (0 : Int32).toInt = 0 from rfl) c_59
                    refine lv_bipush (v := 9) hx hb dX5_kindOf_134 (by decide) ?_
                    have hlv_61 : (9 : Int32).toInt = 9 := rfl
                    have hlv_62 : (9 : Int32).toInt = 9 := rfl
                    exact sj_zret hx hb hr hlocks rfl hS () ⟨⟨by decide, by decide⟩, (by
                          by_cases hxy9 : x.toInt < y.toInt
                          · rw [lkd_ln (by omega) hxy9]; unfold kdF hdK sgK; repeat (first | rw [if_pos (by omega)] | rw [if_neg (by omega)]); all_goals omega
                          · rw [lkd_0 (by omega)]; omega)⟩ hH (sj_Knil hK) (Nat.le_of_ble_eq_true rfl) (Nat.le_of_ble_eq_true rfl) dX5_kindOf_136
                  · skip
                    have h_63 := s_nlt (rfl : r_54.toInt = _) (show (0 : Int32).toInt = 0 from rfl) c_59
                    refine lv_bipush (v := 8) hx hb dX5_kindOf_131 (by decide) ?_
                    have hlv_64 : (8 : Int32).toInt = 8 := rfl
                    have hlv_65 : (8 : Int32).toInt = 8 := rfl
                    exact sj_zret hx hb hr hlocks rfl hS () ⟨⟨by decide, by decide⟩, (by
                          by_cases hxy9 : x.toInt < y.toInt
                          · rw [lkd_ln (by omega) hxy9]; unfold kdF hdK sgK; repeat (first | rw [if_pos (by omega)] | rw [if_neg (by omega)]); all_goals omega
                          · rw [lkd_0 (by omega)]; omega)⟩ hH (sj_Knil hK) (Nat.le_of_ble_eq_true rfl) (Nat.le_of_ble_eq_true rfl) dX5_kindOf_133
              · skip
                have h_66 := s_eq (rfl : r_34.toInt = _) (show (58 : Int32).toInt = 58 from rfl) c_47
                refine lv_iload hx hb dX5_kindOf_92 (lv_at hl 0 rfl) ?_
                refine lv_if_lt (tgt := 102) hx hb dX5_kindOf_94 (by decide) (fun c_67 => ?_) (fun c_67 => ?_)
                · skip
                  have h_68 := s_lt (rfl : r_42.toInt = _) (show (0 : Int32).toInt = 0 from rfl) c_67
                  refine lv_iload hx hb dX5_kindOf_102 (lv_at hl 1 rfl) ?_
                  refine lv_bipush (v := 32) hx hb dX5_kindOf_104 (by decide) ?_
                  refine lv_icmp_ne (tgt := 134) hx hb dX5_kindOf_106 (by decide) (fun _ => ?_) (fun h => absurd h (p_ne (rfl : r_34.toInt = _) (show (32 : Int32).toInt = 32 from rfl) (by omega)))
                  refine lv_bipush (v := 9) hx hb dX5_kindOf_134 (by decide) ?_
                  have hlv_69 : (9 : Int32).toInt = 9 := rfl
                  have hlv_70 : (9 : Int32).toInt = 9 := rfl
                  exact sj_zret hx hb hr hlocks rfl hS () ⟨⟨by decide, by decide⟩, (by
                        by_cases hxy9 : x.toInt < y.toInt
                        · rw [lkd_ln (by omega) hxy9]; unfold kdF hdK sgK; repeat (first | rw [if_pos (by omega)] | rw [if_neg (by omega)]); all_goals omega
                        · rw [lkd_0 (by omega)]; omega)⟩ hH (sj_Knil hK) (Nat.le_of_ble_eq_true rfl) (Nat.le_of_ble_eq_true rfl) dX5_kindOf_136
                · skip
                  have h_71 := s_nlt (rfl : r_42.toInt = _) (show (0 : Int32).toInt = 0 from rfl) c_67
                  refine lv_iconst (v := 3) hx hb dX5_kindOf_97 (by decide) ?_
                  refine lv_iload hx hb dX5_kindOf_98 (lv_at hl 0 rfl) ?_
                  refine lv_iadd hx hb dX5_kindOf_100 ?_
                  obtain ⟨z_72, ez_72, hz_72⟩ := s_add (show (3 : Int32).toInt = 3 from rfl) (rfl : r_42.toInt = _) (by omega) (by omega)
                  refine sj_i ez_72 ?_
                  exact sj_zret hx hb hr hlocks rfl hS () ⟨⟨by omega, by omega⟩, (by
                        by_cases hxy9 : x.toInt < y.toInt
                        · rw [lkd_ln (by omega) hxy9]; unfold kdF hdK sgK; repeat (first | rw [if_pos (by omega)] | rw [if_neg (by omega)]); all_goals omega
                        · rw [lkd_0 (by omega)]; omega)⟩ hH (sj_Knil hK) (Nat.le_of_ble_eq_true rfl) (Nat.le_of_ble_eq_true rfl) dX5_kindOf_101
            · skip
              have h_73 := s_eq (rfl : (i 3 1).toInt = _) (show (1 : Int32).toInt = 1 from rfl) c_40
              refine va_ldcS hx hb hown hE.2.1.2.1 dX5_kindOf_72 ?_
              refine lv_goto (tgt := 79) hx hb dX5_kindOf_74 (by decide) ?_
              refine lv_iload_n hx hb dX5_kindOf_79 rfl (lv_at hl 1 rfl) ?_
              refine x_calli (va_runV (As := [.int (i 5 (x.toInt).toNat)]) (rest := []) ⟨hx, hb, hml, hown, hts⟩ (k_indexOf_1 l D g ka ad i r L d (i 5 (x.toInt).toNat) hO hR H.size ) (cwV 1 hts gX5_kindOf_J0_indexOf_0f7a4 rfl rfl rfl (by decide +kernel) ⟨(Nat.le_of_ble_eq_true rfl), (Nat.le_of_ble_eq_true rfl)⟩) (x_preS2 (n := 1) hE.1.1 (by decide) hH hK hS gxb (gxw hE hS (x_F hH hS hA))) rfl rfl hl.1 rfl (lv_room (Nat.le_of_ble_eq_true rfl)) dX5_kindOf_80 ⟨(Nat.le_of_ble_eq_true rfl), (Nat.le_of_ble_eq_true rfl)⟩) hH hS hA rfl rfl (fun r_74 _ H locs hw_75 hH hS => ?_)
              obtain ⟨hr_77, he_78⟩ := hw_75
              have hr_77 : (-1 : Int) ≤ r_74.toInt ∧ r_74.toInt ≤ 4 := hr_77
              refine lv_istore (lv' := [(5, .int r_74), (4, .int r_34), (3, .int (i 5 (x.toInt).toNat)), (0, .ref (g 3)), (1, .int x), (2, .int y)]) hx hb dX5_kindOf_83 hl (by decide) rfl (fun ls hl => ?_)
              refine lv_iload hx hb dX5_kindOf_85 (lv_at hl 1 rfl) ?_
              refine lv_bipush (v := 58) hx hb dX5_kindOf_87 (by decide) ?_
              refine lv_icmp_ne (tgt := 102) hx hb dX5_kindOf_89 (by decide) (fun c_79 => ?_) (fun c_79 => ?_)
              · skip
                have h_80 := s_ne (rfl : r_34.toInt = _) (show (58 : Int32).toInt = 58 from rfl) c_79
                refine lv_iload hx hb dX5_kindOf_102 (lv_at hl 1 rfl) ?_
                refine lv_bipush (v := 32) hx hb dX5_kindOf_104 (by decide) ?_
                refine lv_icmp_ne (tgt := 134) hx hb dX5_kindOf_106 (by decide) (fun c_81 => ?_) (fun c_81 => ?_)
                · skip
                  have h_82 := s_ne (rfl : r_34.toInt = _) (show (32 : Int32).toInt = 32 from rfl) c_81
                  refine lv_bipush (v := 9) hx hb dX5_kindOf_134 (by decide) ?_
                  have hlv_83 : (9 : Int32).toInt = 9 := rfl
                  have hlv_84 : (9 : Int32).toInt = 9 := rfl
                  exact sj_zret hx hb hr hlocks rfl hS () ⟨⟨by decide, by decide⟩, (by
                        by_cases hxy9 : x.toInt < y.toInt
                        · rw [lkd_ln (by omega) hxy9]; unfold kdF hdK sgK; repeat (first | rw [if_pos (by omega)] | rw [if_neg (by omega)]); all_goals omega
                        · rw [lkd_0 (by omega)]; omega)⟩ hH (sj_Knil hK) (Nat.le_of_ble_eq_true rfl) (Nat.le_of_ble_eq_true rfl) dX5_kindOf_136
                · skip
                  have h_85 := s_eq (rfl : r_34.toInt = _) (show (32 : Int32).toInt = 32 from rfl) c_81
                  refine lv_aload_n hx hb dX5_kindOf_109 rfl (lv_at hl 3 rfl) ?_
                  refine h_geti (ci := 5) (C := RX5) (F := TX5) (N := 19) hx hb hts in5 hown hK hH (by decide) (rfl : kd 3 = 5) (by decide) rfl 1 (by decide) wd2 (fun _ h9 => h9) (by decide) rfl dX5_kindOf_110 ?_
                  refine lv_iconst (v := 1) hx hb dX5_kindOf_113 (by decide) ?_
                  refine lv_icmp_ne (tgt := 122) hx hb dX5_kindOf_114 (by decide) (fun h => absurd (p_eq (rfl : (i 3 1).toInt = _) (show (1 : Int32).toInt = 1 from rfl) (by omega)) h) (fun _ => ?_)
                  refine va_ldcS hx hb hown hE.2.1.2.2.2.1 dX5_kindOf_117 ?_
                  refine lv_goto (tgt := 124) hx hb dX5_kindOf_119 (by decide) ?_
                  refine lv_iload_n hx hb dX5_kindOf_124 rfl (lv_at hl 2 rfl) ?_
                  refine x_calli (va_runV (As := [.int (i 5 (x.toInt).toNat)]) (rest := []) ⟨hx, hb, hml, hown, hts⟩ (k_indexOf_3 l D g ka ad i r L d (i 5 (x.toInt).toNat) hO hR H.size ) (cwV 1 hts gX5_kindOf_J0_indexOf_0f7a4 rfl rfl rfl (by decide +kernel) ⟨(Nat.le_of_ble_eq_true rfl), (Nat.le_of_ble_eq_true rfl)⟩) (x_preS2 (n := 3) hE.1.1 (by decide) hH hK hS gxb (gxw hE hS (x_F hH hS hA))) rfl rfl hl.1 rfl (lv_room (Nat.le_of_ble_eq_true rfl)) dX5_kindOf_125 ⟨(Nat.le_of_ble_eq_true rfl), (Nat.le_of_ble_eq_true rfl)⟩) hH hS hA rfl rfl (fun r_86 _ H locs hw_87 hH hS => ?_)
                  obtain ⟨hr_89, he_90⟩ := hw_87
                  have hr_89 : (-1 : Int) ≤ r_86.toInt ∧ r_86.toInt ≤ 4 := hr_89
                  refine lv_if_lt (tgt := 134) hx hb dX5_kindOf_128 (by decide) (fun c_91 => ?_) (fun c_91 => ?_)
                  · skip
                    have h_92 := s_lt (rfl : r_86.toInt = _) (show (0 : Int32).toInt = 0 from rfl) c_91
                    refine lv_bipush (v := 9) hx hb dX5_kindOf_134 (by decide) ?_
                    have hlv_93 : (9 : Int32).toInt = 9 := rfl
                    have hlv_94 : (9 : Int32).toInt = 9 := rfl
                    exact sj_zret hx hb hr hlocks rfl hS () ⟨⟨by decide, by decide⟩, (by
                          by_cases hxy9 : x.toInt < y.toInt
                          · rw [lkd_ln (by omega) hxy9]; unfold kdF hdK sgK; repeat (first | rw [if_pos (by omega)] | rw [if_neg (by omega)]); all_goals omega
                          · rw [lkd_0 (by omega)]; omega)⟩ hH (sj_Knil hK) (Nat.le_of_ble_eq_true rfl) (Nat.le_of_ble_eq_true rfl) dX5_kindOf_136
                  · skip
                    have h_95 := s_nlt (rfl : r_86.toInt = _) (show (0 : Int32).toInt = 0 from rfl) c_91
                    refine lv_bipush (v := 8) hx hb dX5_kindOf_131 (by decide) ?_
                    have hlv_96 : (8 : Int32).toInt = 8 := rfl
                    have hlv_97 : (8 : Int32).toInt = 8 := rfl
                    exact sj_zret hx hb hr hlocks rfl hS () ⟨⟨by decide, by decide⟩, (by
                          by_cases hxy9 : x.toInt < y.toInt
                          · rw [lkd_ln (by omega) hxy9]; unfold kdF hdK sgK; repeat (first | rw [if_pos (by omega)] | rw [if_neg (by omega)]); all_goals omega
                          · rw [lkd_0 (by omega)]; omega)⟩ hH (sj_Knil hK) (Nat.le_of_ble_eq_true rfl) (Nat.le_of_ble_eq_true rfl) dX5_kindOf_133
              · skip
                have h_98 := s_eq (rfl : r_34.toInt = _) (show (58 : Int32).toInt = 58 from rfl) c_79
                refine lv_iload hx hb dX5_kindOf_92 (lv_at hl 0 rfl) ?_
                refine lv_if_lt (tgt := 102) hx hb dX5_kindOf_94 (by decide) (fun c_99 => ?_) (fun c_99 => ?_)
                · skip
                  have h_100 := s_lt (rfl : r_74.toInt = _) (show (0 : Int32).toInt = 0 from rfl) c_99
                  refine lv_iload hx hb dX5_kindOf_102 (lv_at hl 1 rfl) ?_
                  refine lv_bipush (v := 32) hx hb dX5_kindOf_104 (by decide) ?_
                  refine lv_icmp_ne (tgt := 134) hx hb dX5_kindOf_106 (by decide) (fun _ => ?_) (fun h => absurd h (p_ne (rfl : r_34.toInt = _) (show (32 : Int32).toInt = 32 from rfl) (by omega)))
                  refine lv_bipush (v := 9) hx hb dX5_kindOf_134 (by decide) ?_
                  have hlv_101 : (9 : Int32).toInt = 9 := rfl
                  have hlv_102 : (9 : Int32).toInt = 9 := rfl
                  exact sj_zret hx hb hr hlocks rfl hS () ⟨⟨by decide, by decide⟩, (by
                        by_cases hxy9 : x.toInt < y.toInt
                        · rw [lkd_ln (by omega) hxy9]; unfold kdF hdK sgK; repeat (first | rw [if_pos (by omega)] | rw [if_neg (by omega)]); all_goals omega
                        · rw [lkd_0 (by omega)]; omega)⟩ hH (sj_Knil hK) (Nat.le_of_ble_eq_true rfl) (Nat.le_of_ble_eq_true rfl) dX5_kindOf_136
                · skip
                  have h_103 := s_nlt (rfl : r_74.toInt = _) (show (0 : Int32).toInt = 0 from rfl) c_99
                  refine lv_iconst (v := 3) hx hb dX5_kindOf_97 (by decide) ?_
                  refine lv_iload hx hb dX5_kindOf_98 (lv_at hl 0 rfl) ?_
                  refine lv_iadd hx hb dX5_kindOf_100 ?_
                  obtain ⟨z_104, ez_104, hz_104⟩ := s_add (show (3 : Int32).toInt = 3 from rfl) (rfl : r_74.toInt = _) (by omega) (by omega)
                  refine sj_i ez_104 ?_
                  exact sj_zret hx hb hr hlocks rfl hS () ⟨⟨by omega, by omega⟩, (by
                        by_cases hxy9 : x.toInt < y.toInt
                        · rw [lkd_ln (by omega) hxy9]; unfold kdF hdK sgK; repeat (first | rw [if_pos (by omega)] | rw [if_neg (by omega)]); all_goals omega
                        · rw [lkd_0 (by omega)]; omega)⟩ hH (sj_Knil hK) (Nat.le_of_ble_eq_true rfl) (Nat.le_of_ble_eq_true rfl) dX5_kindOf_101
        · skip
          have h_105 := s_eq (rfl : (i 5 (x.toInt).toNat).toInt = _) (show (124 : Int32).toInt = 124 from rfl) c_9
          refine lv_iconst (v := 2) hx hb dX5_kindOf_39 (by decide) ?_
          have hlv_106 : (2 : Int32).toInt = 2 := rfl
          have hlv_107 : (2 : Int32).toInt = 2 := rfl
          exact sj_zret hx hb hr hlocks rfl hS () ⟨⟨by decide, by decide⟩, (by
                by_cases hxy9 : x.toInt < y.toInt
                · rw [lkd_ln (by omega) hxy9]; unfold kdF hdK sgK; repeat (first | rw [if_pos (by omega)] | rw [if_neg (by omega)]); all_goals omega
                · rw [lkd_0 (by omega)]; omega)⟩ hH (sj_Knil hK) (Nat.le_of_ble_eq_true rfl) (Nat.le_of_ble_eq_true rfl) dX5_kindOf_40
      · skip
        have h_108 := s_eq (rfl : (i 5 (x.toInt).toNat).toInt = _) (show (64 : Int32).toInt = 64 from rfl) c_7
        refine lv_iconst (v := 1) hx hb dX5_kindOf_31 (by decide) ?_
        have hlv_109 : (1 : Int32).toInt = 1 := rfl
        have hlv_110 : (1 : Int32).toInt = 1 := rfl
        exact sj_zret hx hb hr hlocks rfl hS () ⟨⟨by decide, by decide⟩, (by
              by_cases hxy9 : x.toInt < y.toInt
              · rw [lkd_ln (by omega) hxy9]; unfold kdF hdK sgK; repeat (first | rw [if_pos (by omega)] | rw [if_neg (by omega)]); all_goals omega
              · rw [lkd_0 (by omega)]; omega)⟩ hH (sj_Knil hK) (Nat.le_of_ble_eq_true rfl) (Nat.le_of_ble_eq_true rfl) dX5_kindOf_32
    · skip
      have h_111 := s_eq (rfl : (i 5 (x.toInt).toNat).toInt = _) (show (35 : Int32).toInt = 35 from rfl) c_5
      refine lv_iconst (v := 0) hx hb dX5_kindOf_23 (by decide) ?_
      have hlv_112 : (0 : Int32).toInt = 0 := rfl
      have hlv_113 : (0 : Int32).toInt = 0 := rfl
      exact sj_zret hx hb hr hlocks rfl hS () ⟨⟨by decide, by decide⟩, (by
            by_cases hxy9 : x.toInt < y.toInt
            · rw [lkd_ln (by omega) hxy9]; unfold kdF hdK sgK; repeat (first | rw [if_pos (by omega)] | rw [if_neg (by omega)]); all_goals omega
            · rw [lkd_0 (by omega)]; omega)⟩ hH (sj_Knil hK) (Nat.le_of_ble_eq_true rfl) (Nat.le_of_ble_eq_true rfl) dX5_kindOf_24
  · skip
    have h_114 := s_nlt (rfl : x.toInt = _) (rfl : y.toInt = _) c_1
    refine lv_iconst (v := 0) hx hb dX5_kindOf_5 (by decide) ?_
    have hlv_115 : (0 : Int32).toInt = 0 := rfl
    have hlv_116 : (0 : Int32).toInt = 0 := rfl
    exact sj_zret hx hb hr hlocks rfl hS () ⟨⟨by decide, by decide⟩, (by
          by_cases hxy9 : x.toInt < y.toInt
          · rw [lkd_ln (by omega) hxy9]; unfold kdF hdK sgK; repeat (first | rw [if_pos (by omega)] | rw [if_neg (by omega)]); all_goals omega
          · rw [lkd_0 (by omega)]; omega)⟩ hH (sj_Knil hK) (Nat.le_of_ble_eq_true rfl) (Nat.le_of_ble_eq_true rfl) dX5_kindOf_6
set_option maxHeartbeats 2000000 in
set_option maxRecDepth 100000 in
theorem k_tagsOf (l : Launch) (D : va_G) (g : Nat → Nat) (ka : Nat → ClassId) (ad : Nat → Nat) (i : Nat → Nat → Int32) (r : Nat → Nat → Nat) (L : Nat → Nat → Int64) (d : Nat → Nat → UInt64) (x : Int32) (y : Int32) (hO : OkI i) (hR : RS r) (sz : Nat) (hx0 : 0 ≤ x.toInt) (hxy : x.toInt ≤ y.toInt) (hys : y.toInt ≤ (i 4 1).toInt) : Met l yX5_tagsOf wsX5_tagsOf ({ frames := 1, cells := 0, slots := 0, locals := 21 }) (va_Pc [.ref (g 3), .int x, .int y] (sj_B D (hwc g ka i r L d) (hT ka) sz (gx ad (va_A (hwc g ka i r L d) sz)))) (sj_Qi (S := Unit) D (fun v u => ((0 : Int) ≤ v.toInt ∧ v.toInt ≤ 65535) ∧ (v = tagW (lnL (i 5) x.toInt y.toInt) 0)) (fun _ => hwc g ka i r L d) (fun _ => []) (va_A (hwc g ka i r L d) sz)) 0 0 (va_A (hwc g ka i r L d) sz) := by
  refine x_met (Ex := gx ad) (cc := cX5_tagsOf) (maxL := 7) (ret := (some .int)) (by decide) rfl (Nat.le_of_ble_eq_true rfl) ?_
  intro p e s m below meth c A ls hx hb hr hml hts hown hlocks hA hS hH hK hE hl
  have hown : s.vm.findClass RX5 = some m.cls := hown
  have in5 : ∀ w ∈ wsX50, w ∈ wsX5_tagsOf := (fun _ h => (List.mem_cons_of_mem _ (List.mem_append_left _ (List.mem_append_right _ h))))
  have wd0 := hts (.fieldLink RX5 16 "StoryDesk$Reading" "source" "LStoryDesk$Letters;") (List.mem_cons_of_mem _ (List.mem_append_left _ (List.mem_append_left _ lm0)))
  have hl : lv_has ls 7 [(0, .ref (g 3)), (1, .int x), (2, .int y)] := hl
  have hK : va_K D vwCl (hT ka) s := hK
  have hs4 : (0 : Int) ≤ (i 4 1).toInt ∧ (i 4 1).toInt ≤ 480 := hO 4 1
  have hyy : y.toInt ≤ 480 := by omega
  refine lv_iconst (v := 0) hx hb dX5_tagsOf_0 (by decide) ?_
  refine lv_istore_n (lv' := [(3, .int 0), (0, .ref (g 3)), (1, .int x), (2, .int y)]) hx hb dX5_tagsOf_1 rfl hl (by decide) rfl (fun ls hl => ?_)
  refine lv_iload_n hx hb dX5_tagsOf_2 rfl (lv_at hl 2 rfl) ?_
  refine lv_istore (lv' := [(4, .int x), (3, .int 0), (0, .ref (g 3)), (1, .int x), (2, .int y)]) hx hb dX5_tagsOf_3 hl (by decide) rfl (fun ls hl => ?_)
  -- loop at 5
  have lp_1 : ∀ (fuel_lp_1 : Nat) (t : Int32) (f : Int32) (H : Heap) (locs : List Loc) (ls : Array Slot), (y.toInt - f.toInt).toNat < fuel_lp_1 → (0 : Int) ≤ t.toInt ∧ t.toInt ≤ 65535 → (0 : Int) ≤ f.toInt ∧ f.toInt ≤ 482 → x.toInt ≤ f.toInt → tagW (lnL (i 5) x.toInt y.toInt) 0 = tagW (lnL (i 5) f.toInt y.toInt) t → lv_has ls 7 [(4, .int f), (3, .int t), (0, .ref (g 3)), (1, .int x), (2, .int y)] → sj_H D A (hwc g ka i r L d) H → va_S A s.heap H locs → W p l e (headSpec wsX5_tagsOf ({ frames := 1, cells := 0, slots := 0, locals := 21 })).room s m ([.ref (g 3), .int x, .int y] : List Value).toArray below meth c H locs 0 0 (MQ below (sj_Qi (S := Unit) D (fun v u => ((0 : Int) ≤ v.toInt ∧ v.toInt ≤ 65535) ∧ (v = tagW (lnL (i 5) x.toInt y.toInt) 0)) (fun _ => hwc g ka i r L d) (fun _ => []) A) ([.ref (g 3), .int x, .int y] : List Value).toArray s 0 0 A) (F0 m 5 ls []) := by
    intro fuel_lp_1
    induction fuel_lp_1 with
    | zero => intros; omega
    | succ fuel_lp_1 ih_lp_1 =>
      intro t f H locs ls hm hr_t hr_f hi_lp_1_0 hi_lp_1_1 hl hH hS
      refine lv_iload hx hb dX5_tagsOf_5 (lv_at hl 0 rfl) ?_
      refine lv_iload_n hx hb dX5_tagsOf_7 rfl (lv_at hl 4 rfl) ?_
      refine lv_icmp_ge (tgt := 138) hx hb dX5_tagsOf_8 (by decide) (fun c_2 => ?_) (fun c_2 => ?_)
      · skip
        have h_3 := s_le (rfl : y.toInt = _) (rfl : f.toInt = _) c_2
        refine lv_iload_n hx hb dX5_tagsOf_138 rfl (lv_at hl 1 rfl) ?_
        exact sj_zret hx hb hr hlocks rfl hS () ⟨⟨by omega, by omega⟩, (by rw [hi_lp_1_1, tagW_end (by omega)])⟩ hH (sj_Knil hK) (Nat.le_of_ble_eq_true rfl) (Nat.le_of_ble_eq_true rfl) dX5_tagsOf_139
      · skip
        have h_4 := s_nle (rfl : y.toInt = _) (rfl : f.toInt = _) c_2
        refine lv_aload_n hx hb dX5_tagsOf_11 rfl (lv_at hl 2 rfl) ?_
        refine h_getr (ci := 5) (C := RX5) (F := TX5) (N := 19) hx hb hts in5 hown hK hH (by decide) (rfl : kd 3 = 5) (by decide) rfl 0 (by decide) wd0 (fun _ h9 => h9) (by decide) rfl (t := 4) (hR 3 0 rfl) (by decide) dX5_tagsOf_12 ?_
        refine lv_iload hx hb dX5_tagsOf_15 (lv_at hl 0 rfl) ?_
        refine x_calli (va_runV (As := [.int f]) (rest := []) ⟨hx, hb, hml, hown, hts⟩ (k_at_source l D g ka ad i r L d f hO hR H.size ) (cwV 1 hts gX5_tagsOf_X3_at rfl rfl rfl (by decide +kernel) ⟨(Nat.le_of_ble_eq_true rfl), (Nat.le_of_ble_eq_true rfl)⟩) (x_preV (q := (RX3, TX3, 2)) hH hK (q_obj (by decide) (rfl : kd 4 = 3) (by decide)) rfl gxb (gxw hE hS (x_F hH hS hA))) rfl rfl hl.1 rfl (lv_room (Nat.le_of_ble_eq_true rfl)) dX5_tagsOf_17 ⟨(Nat.le_of_ble_eq_true rfl), (Nat.le_of_ble_eq_true rfl)⟩) hH hS hA rfl rfl (fun r_5 _ H locs hw_6 hH hS => ?_)
        obtain ⟨hr_8, he_9⟩ := hw_6
        have hr_8 : (-1 : Int) ≤ r_5.toInt ∧ r_5.toInt ≤ 65535 := hr_8
        refine lv_bipush (v := 32) hx hb dX5_tagsOf_20 (by decide) ?_
        refine lv_icmp_ne (tgt := 28) hx hb dX5_tagsOf_22 (by decide) (fun c_10 => ?_) (fun c_10 => ?_)
        · skip
          have h_11 := s_ne (rfl : r_5.toInt = _) (show (32 : Int32).toInt = 32 from rfl) c_10
          refine lv_iload hx hb dX5_tagsOf_28 (lv_at hl 0 rfl) ?_
          refine lv_iconst (v := 1) hx hb dX5_tagsOf_30 (by decide) ?_
          refine lv_iadd hx hb dX5_tagsOf_31 ?_
          obtain ⟨z_12, ez_12, hz_12⟩ := s_add (rfl : f.toInt = _) (show (1 : Int32).toInt = 1 from rfl) (by omega) (by omega)
          refine sj_i ez_12 ?_
          refine lv_iload_n hx hb dX5_tagsOf_32 rfl (lv_at hl 4 rfl) ?_
          refine lv_icmp_ge (tgt := 50) hx hb dX5_tagsOf_33 (by decide) (fun c_13 => ?_) (fun c_13 => ?_)
          · skip
            have h_14 := s_le (rfl : y.toInt = _) (rfl : z_12.toInt = _) c_13
            refine lv_iconst (v := (-1)) hx hb dX5_tagsOf_50 (by decide) ?_
            refine lv_istore (lv' := [(5, .int (-1)), (4, .int f), (3, .int t), (0, .ref (g 3)), (1, .int x), (2, .int y)]) hx hb dX5_tagsOf_51 hl (by decide) rfl (fun ls hl => ?_)
            refine lv_iload hx hb dX5_tagsOf_53 (lv_at hl 1 rfl) ?_
            refine lv_iconst (v := 2) hx hb dX5_tagsOf_55 (by decide) ?_
            refine lv_iadd hx hb dX5_tagsOf_56 ?_
            obtain ⟨z_15, ez_15, hz_15⟩ := s_add (rfl : f.toInt = _) (show (2 : Int32).toInt = 2 from rfl) (by omega) (by omega)
            refine sj_i ez_15 ?_
            refine lv_iload_n hx hb dX5_tagsOf_57 rfl (lv_at hl 5 rfl) ?_
            refine lv_icmp_ge (tgt := 77) hx hb dX5_tagsOf_58 (by decide) (fun c_16 => ?_) (fun c_16 => ?_)
            · skip
              have h_17 := s_le (rfl : y.toInt = _) (rfl : z_15.toInt = _) c_16
              refine lv_iconst (v := 1) hx hb dX5_tagsOf_77 (by decide) ?_
              refine lv_goto (tgt := 82) hx hb dX5_tagsOf_78 (by decide) ?_
              refine lv_istore (lv' := [(6, .int 1), (5, .int (-1)), (4, .int f), (3, .int t), (0, .ref (g 3)), (1, .int x), (2, .int y)]) hx hb dX5_tagsOf_82 hl (by decide) rfl (fun ls hl => ?_)
              refine lv_aload_n hx hb dX5_tagsOf_84 rfl (lv_at hl 4 rfl) ?_
              refine h_getr (ci := 5) (C := RX5) (F := TX5) (N := 19) hx hb hts in5 hown hK hH (by decide) (rfl : kd 3 = 5) (by decide) rfl 0 (by decide) wd0 (fun _ h9 => h9) (by decide) rfl (t := 4) (hR 3 0 rfl) (by decide) dX5_tagsOf_85 ?_
              refine lv_iload hx hb dX5_tagsOf_88 (lv_at hl 2 rfl) ?_
              refine x_calli (va_runV (As := [.int f]) (rest := []) ⟨hx, hb, hml, hown, hts⟩ (k_at_source l D g ka ad i r L d f hO hR H.size ) (cwV 1 hts gX5_tagsOf_X3_at rfl rfl rfl (by decide +kernel) ⟨(Nat.le_of_ble_eq_true rfl), (Nat.le_of_ble_eq_true rfl)⟩) (x_preV (q := (RX3, TX3, 2)) hH hK (q_obj (by decide) (rfl : kd 4 = 3) (by decide)) rfl gxb (gxw hE hS (x_F hH hS hA))) rfl rfl hl.1 rfl (lv_room (Nat.le_of_ble_eq_true rfl)) dX5_tagsOf_90 ⟨(Nat.le_of_ble_eq_true rfl), (Nat.le_of_ble_eq_true rfl)⟩) hH hS hA rfl rfl (fun r_18 _ H locs hw_19 hH hS => ?_)
              obtain ⟨hr_21, he_22⟩ := hw_19
              have hr_21 : (-1 : Int) ≤ r_18.toInt ∧ r_18.toInt ≤ 65535 := hr_21
              refine lv_bipush (v := 64) hx hb dX5_tagsOf_93 (by decide) ?_
              refine lv_icmp_ne (tgt := 117) hx hb dX5_tagsOf_95 (by decide) (fun c_23 => ?_) (fun c_23 => ?_)
              · skip
                have h_24 := s_ne (rfl : r_18.toInt = _) (show (64 : Int32).toInt = 64 from rfl) c_23
                refine lv_iconst (v := 0) hx hb dX5_tagsOf_117 (by decide) ?_
                exact sj_zret hx hb hr hlocks rfl hS () ⟨⟨by decide, by decide⟩, (by rw [hi_lp_1_1, tagW_no (by omega) (by omega) (by omega) (by omega)])⟩ hH (sj_Knil hK) (Nat.le_of_ble_eq_true rfl) (Nat.le_of_ble_eq_true rfl) dX5_tagsOf_118
              · skip
                have h_25 := s_eq (rfl : r_18.toInt = _) (show (64 : Int32).toInt = 64 from rfl) c_23
                refine lv_iload hx hb dX5_tagsOf_98 (lv_at hl 1 rfl) ?_
                refine lv_bipush (v := 97) hx hb dX5_tagsOf_100 (by decide) ?_
                refine lv_icmp_lt (tgt := 117) hx hb dX5_tagsOf_102 (by decide) (fun _ => ?_) (fun h => absurd (by decide) h)
                refine lv_iconst (v := 0) hx hb dX5_tagsOf_117 (by decide) ?_
                exact sj_zret hx hb hr hlocks rfl hS () ⟨⟨by decide, by decide⟩, (by rw [hi_lp_1_1, tagW_no (by omega) (by omega) (by omega) (by omega)])⟩ hH (sj_Knil hK) (Nat.le_of_ble_eq_true rfl) (Nat.le_of_ble_eq_true rfl) dX5_tagsOf_118
            · skip
              have h_26 := s_nle (rfl : y.toInt = _) (rfl : z_15.toInt = _) c_16
              refine lv_aload_n hx hb dX5_tagsOf_61 rfl (lv_at hl 3 rfl) ?_
              refine h_getr (ci := 5) (C := RX5) (F := TX5) (N := 19) hx hb hts in5 hown hK hH (by decide) (rfl : kd 3 = 5) (by decide) rfl 0 (by decide) wd0 (fun _ h9 => h9) (by decide) rfl (t := 4) (hR 3 0 rfl) (by decide) dX5_tagsOf_62 ?_
              refine lv_iload hx hb dX5_tagsOf_65 (lv_at hl 1 rfl) ?_
              refine lv_iconst (v := 2) hx hb dX5_tagsOf_67 (by decide) ?_
              refine lv_iadd hx hb dX5_tagsOf_68 ?_
              obtain ⟨z_27, ez_27, hz_27⟩ := s_add (rfl : f.toInt = _) (show (2 : Int32).toInt = 2 from rfl) (by omega) (by omega)
              refine sj_i ez_27 ?_
              refine x_calli (va_runV (As := [.int z_27]) (rest := []) ⟨hx, hb, hml, hown, hts⟩ (k_at_source l D g ka ad i r L d z_27 hO hR H.size ) (cwV 1 hts gX5_tagsOf_X3_at rfl rfl rfl (by decide +kernel) ⟨(Nat.le_of_ble_eq_true rfl), (Nat.le_of_ble_eq_true rfl)⟩) (x_preV (q := (RX3, TX3, 2)) hH hK (q_obj (by decide) (rfl : kd 4 = 3) (by decide)) rfl gxb (gxw hE hS (x_F hH hS hA))) rfl rfl hl.1 rfl (lv_room (Nat.le_of_ble_eq_true rfl)) dX5_tagsOf_69 ⟨(Nat.le_of_ble_eq_true rfl), (Nat.le_of_ble_eq_true rfl)⟩) hH hS hA rfl rfl (fun r_28 _ H locs hw_29 hH hS => ?_)
              obtain ⟨hr_31, he_32⟩ := hw_29
              have hr_31 : (-1 : Int) ≤ r_28.toInt ∧ r_28.toInt ≤ 65535 := hr_31
              rw [show z_27.toInt.toNat = (f.toInt + 2).toNat by omega] at he_32
              refine lv_bipush (v := 32) hx hb dX5_tagsOf_72 (by decide) ?_
              refine lv_icmp_ne (tgt := 81) hx hb dX5_tagsOf_74 (by decide) (fun c_33 => ?_) (fun c_33 => ?_)
              · skip
                have h_34 := s_ne (rfl : r_28.toInt = _) (show (32 : Int32).toInt = 32 from rfl) c_33
                refine lv_iconst (v := 0) hx hb dX5_tagsOf_81 (by decide) ?_
                refine lv_istore (lv' := [(6, .int 0), (5, .int (-1)), (4, .int f), (3, .int t), (0, .ref (g 3)), (1, .int x), (2, .int y)]) hx hb dX5_tagsOf_82 hl (by decide) rfl (fun ls hl => ?_)
                refine lv_aload_n hx hb dX5_tagsOf_84 rfl (lv_at hl 4 rfl) ?_
                refine h_getr (ci := 5) (C := RX5) (F := TX5) (N := 19) hx hb hts in5 hown hK hH (by decide) (rfl : kd 3 = 5) (by decide) rfl 0 (by decide) wd0 (fun _ h9 => h9) (by decide) rfl (t := 4) (hR 3 0 rfl) (by decide) dX5_tagsOf_85 ?_
                refine lv_iload hx hb dX5_tagsOf_88 (lv_at hl 2 rfl) ?_
                refine x_calli (va_runV (As := [.int f]) (rest := []) ⟨hx, hb, hml, hown, hts⟩ (k_at_source l D g ka ad i r L d f hO hR H.size ) (cwV 1 hts gX5_tagsOf_X3_at rfl rfl rfl (by decide +kernel) ⟨(Nat.le_of_ble_eq_true rfl), (Nat.le_of_ble_eq_true rfl)⟩) (x_preV (q := (RX3, TX3, 2)) hH hK (q_obj (by decide) (rfl : kd 4 = 3) (by decide)) rfl gxb (gxw hE hS (x_F hH hS hA))) rfl rfl hl.1 rfl (lv_room (Nat.le_of_ble_eq_true rfl)) dX5_tagsOf_90 ⟨(Nat.le_of_ble_eq_true rfl), (Nat.le_of_ble_eq_true rfl)⟩) hH hS hA rfl rfl (fun r_35 _ H locs hw_36 hH hS => ?_)
                obtain ⟨hr_38, he_39⟩ := hw_36
                have hr_38 : (-1 : Int) ≤ r_35.toInt ∧ r_35.toInt ≤ 65535 := hr_38
                refine lv_bipush (v := 64) hx hb dX5_tagsOf_93 (by decide) ?_
                refine lv_icmp_ne (tgt := 117) hx hb dX5_tagsOf_95 (by decide) (fun c_40 => ?_) (fun c_40 => ?_)
                · skip
                  have h_41 := s_ne (rfl : r_35.toInt = _) (show (64 : Int32).toInt = 64 from rfl) c_40
                  refine lv_iconst (v := 0) hx hb dX5_tagsOf_117 (by decide) ?_
                  exact sj_zret hx hb hr hlocks rfl hS () ⟨⟨by decide, by decide⟩, (by rw [hi_lp_1_1, tagW_no (by omega) (by omega) (by omega) (by omega)])⟩ hH (sj_Knil hK) (Nat.le_of_ble_eq_true rfl) (Nat.le_of_ble_eq_true rfl) dX5_tagsOf_118
                · skip
                  have h_42 := s_eq (rfl : r_35.toInt = _) (show (64 : Int32).toInt = 64 from rfl) c_40
                  refine lv_iload hx hb dX5_tagsOf_98 (lv_at hl 1 rfl) ?_
                  refine lv_bipush (v := 97) hx hb dX5_tagsOf_100 (by decide) ?_
                  refine lv_icmp_lt (tgt := 117) hx hb dX5_tagsOf_102 (by decide) (fun _ => ?_) (fun h => absurd (by decide) h)
                  refine lv_iconst (v := 0) hx hb dX5_tagsOf_117 (by decide) ?_
                  exact sj_zret hx hb hr hlocks rfl hS () ⟨⟨by decide, by decide⟩, (by rw [hi_lp_1_1, tagW_no (by omega) (by omega) (by omega) (by omega)])⟩ hH (sj_Knil hK) (Nat.le_of_ble_eq_true rfl) (Nat.le_of_ble_eq_true rfl) dX5_tagsOf_118
              · skip
                have h_43 := s_eq (rfl : r_28.toInt = _) (show (32 : Int32).toInt = 32 from rfl) c_33
                refine lv_iconst (v := 1) hx hb dX5_tagsOf_77 (by decide) ?_
                refine lv_goto (tgt := 82) hx hb dX5_tagsOf_78 (by decide) ?_
                refine lv_istore (lv' := [(6, .int 1), (5, .int (-1)), (4, .int f), (3, .int t), (0, .ref (g 3)), (1, .int x), (2, .int y)]) hx hb dX5_tagsOf_82 hl (by decide) rfl (fun ls hl => ?_)
                refine lv_aload_n hx hb dX5_tagsOf_84 rfl (lv_at hl 4 rfl) ?_
                refine h_getr (ci := 5) (C := RX5) (F := TX5) (N := 19) hx hb hts in5 hown hK hH (by decide) (rfl : kd 3 = 5) (by decide) rfl 0 (by decide) wd0 (fun _ h9 => h9) (by decide) rfl (t := 4) (hR 3 0 rfl) (by decide) dX5_tagsOf_85 ?_
                refine lv_iload hx hb dX5_tagsOf_88 (lv_at hl 2 rfl) ?_
                refine x_calli (va_runV (As := [.int f]) (rest := []) ⟨hx, hb, hml, hown, hts⟩ (k_at_source l D g ka ad i r L d f hO hR H.size ) (cwV 1 hts gX5_tagsOf_X3_at rfl rfl rfl (by decide +kernel) ⟨(Nat.le_of_ble_eq_true rfl), (Nat.le_of_ble_eq_true rfl)⟩) (x_preV (q := (RX3, TX3, 2)) hH hK (q_obj (by decide) (rfl : kd 4 = 3) (by decide)) rfl gxb (gxw hE hS (x_F hH hS hA))) rfl rfl hl.1 rfl (lv_room (Nat.le_of_ble_eq_true rfl)) dX5_tagsOf_90 ⟨(Nat.le_of_ble_eq_true rfl), (Nat.le_of_ble_eq_true rfl)⟩) hH hS hA rfl rfl (fun r_44 _ H locs hw_45 hH hS => ?_)
                obtain ⟨hr_47, he_48⟩ := hw_45
                have hr_47 : (-1 : Int) ≤ r_44.toInt ∧ r_44.toInt ≤ 65535 := hr_47
                refine lv_bipush (v := 64) hx hb dX5_tagsOf_93 (by decide) ?_
                refine lv_icmp_ne (tgt := 117) hx hb dX5_tagsOf_95 (by decide) (fun c_49 => ?_) (fun c_49 => ?_)
                · skip
                  have h_50 := s_ne (rfl : r_44.toInt = _) (show (64 : Int32).toInt = 64 from rfl) c_49
                  refine lv_iconst (v := 0) hx hb dX5_tagsOf_117 (by decide) ?_
                  exact sj_zret hx hb hr hlocks rfl hS () ⟨⟨by decide, by decide⟩, (by rw [hi_lp_1_1, tagW_no (by omega) (by omega) (by omega) (by omega)])⟩ hH (sj_Knil hK) (Nat.le_of_ble_eq_true rfl) (Nat.le_of_ble_eq_true rfl) dX5_tagsOf_118
                · skip
                  have h_51 := s_eq (rfl : r_44.toInt = _) (show (64 : Int32).toInt = 64 from rfl) c_49
                  refine lv_iload hx hb dX5_tagsOf_98 (lv_at hl 1 rfl) ?_
                  refine lv_bipush (v := 97) hx hb dX5_tagsOf_100 (by decide) ?_
                  refine lv_icmp_lt (tgt := 117) hx hb dX5_tagsOf_102 (by decide) (fun _ => ?_) (fun h => absurd (by decide) h)
                  refine lv_iconst (v := 0) hx hb dX5_tagsOf_117 (by decide) ?_
                  exact sj_zret hx hb hr hlocks rfl hS () ⟨⟨by decide, by decide⟩, (by rw [hi_lp_1_1, tagW_no (by omega) (by omega) (by omega) (by omega)])⟩ hH (sj_Knil hK) (Nat.le_of_ble_eq_true rfl) (Nat.le_of_ble_eq_true rfl) dX5_tagsOf_118
          · skip
            have h_52 := s_nle (rfl : y.toInt = _) (rfl : z_12.toInt = _) c_13
            refine lv_aload_n hx hb dX5_tagsOf_36 rfl (lv_at hl 2 rfl) ?_
            refine h_getr (ci := 5) (C := RX5) (F := TX5) (N := 19) hx hb hts in5 hown hK hH (by decide) (rfl : kd 3 = 5) (by decide) rfl 0 (by decide) wd0 (fun _ h9 => h9) (by decide) rfl (t := 4) (hR 3 0 rfl) (by decide) dX5_tagsOf_37 ?_
            refine lv_iload hx hb dX5_tagsOf_40 (lv_at hl 0 rfl) ?_
            refine lv_iconst (v := 1) hx hb dX5_tagsOf_42 (by decide) ?_
            refine lv_iadd hx hb dX5_tagsOf_43 ?_
            obtain ⟨z_53, ez_53, hz_53⟩ := s_add (rfl : f.toInt = _) (show (1 : Int32).toInt = 1 from rfl) (by omega) (by omega)
            refine sj_i ez_53 ?_
            refine x_calli (va_runV (As := [.int z_53]) (rest := []) ⟨hx, hb, hml, hown, hts⟩ (k_at_source l D g ka ad i r L d z_53 hO hR H.size ) (cwV 1 hts gX5_tagsOf_X3_at rfl rfl rfl (by decide +kernel) ⟨(Nat.le_of_ble_eq_true rfl), (Nat.le_of_ble_eq_true rfl)⟩) (x_preV (q := (RX3, TX3, 2)) hH hK (q_obj (by decide) (rfl : kd 4 = 3) (by decide)) rfl gxb (gxw hE hS (x_F hH hS hA))) rfl rfl hl.1 rfl (lv_room (Nat.le_of_ble_eq_true rfl)) dX5_tagsOf_44 ⟨(Nat.le_of_ble_eq_true rfl), (Nat.le_of_ble_eq_true rfl)⟩) hH hS hA rfl rfl (fun r_54 _ H locs hw_55 hH hS => ?_)
            obtain ⟨hr_57, he_58⟩ := hw_55
            have hr_57 : (-1 : Int) ≤ r_54.toInt ∧ r_54.toInt ≤ 65535 := hr_57
            rw [show z_53.toInt.toNat = (f.toInt + 1).toNat by omega] at he_58
            refine lv_goto (tgt := 51) hx hb dX5_tagsOf_47 (by decide) ?_
            refine lv_istore (lv' := [(5, .int r_54), (4, .int f), (3, .int t), (0, .ref (g 3)), (1, .int x), (2, .int y)]) hx hb dX5_tagsOf_51 hl (by decide) rfl (fun ls hl => ?_)
            refine lv_iload hx hb dX5_tagsOf_53 (lv_at hl 1 rfl) ?_
            refine lv_iconst (v := 2) hx hb dX5_tagsOf_55 (by decide) ?_
            refine lv_iadd hx hb dX5_tagsOf_56 ?_
            obtain ⟨z_59, ez_59, hz_59⟩ := s_add (rfl : f.toInt = _) (show (2 : Int32).toInt = 2 from rfl) (by omega) (by omega)
            refine sj_i ez_59 ?_
            refine lv_iload_n hx hb dX5_tagsOf_57 rfl (lv_at hl 5 rfl) ?_
            refine lv_icmp_ge (tgt := 77) hx hb dX5_tagsOf_58 (by decide) (fun c_60 => ?_) (fun c_60 => ?_)
            · skip
              have h_61 := s_le (rfl : y.toInt = _) (rfl : z_59.toInt = _) c_60
              refine lv_iconst (v := 1) hx hb dX5_tagsOf_77 (by decide) ?_
              refine lv_goto (tgt := 82) hx hb dX5_tagsOf_78 (by decide) ?_
              refine lv_istore (lv' := [(6, .int 1), (5, .int r_54), (4, .int f), (3, .int t), (0, .ref (g 3)), (1, .int x), (2, .int y)]) hx hb dX5_tagsOf_82 hl (by decide) rfl (fun ls hl => ?_)
              refine lv_aload_n hx hb dX5_tagsOf_84 rfl (lv_at hl 4 rfl) ?_
              refine h_getr (ci := 5) (C := RX5) (F := TX5) (N := 19) hx hb hts in5 hown hK hH (by decide) (rfl : kd 3 = 5) (by decide) rfl 0 (by decide) wd0 (fun _ h9 => h9) (by decide) rfl (t := 4) (hR 3 0 rfl) (by decide) dX5_tagsOf_85 ?_
              refine lv_iload hx hb dX5_tagsOf_88 (lv_at hl 2 rfl) ?_
              refine x_calli (va_runV (As := [.int f]) (rest := []) ⟨hx, hb, hml, hown, hts⟩ (k_at_source l D g ka ad i r L d f hO hR H.size ) (cwV 1 hts gX5_tagsOf_X3_at rfl rfl rfl (by decide +kernel) ⟨(Nat.le_of_ble_eq_true rfl), (Nat.le_of_ble_eq_true rfl)⟩) (x_preV (q := (RX3, TX3, 2)) hH hK (q_obj (by decide) (rfl : kd 4 = 3) (by decide)) rfl gxb (gxw hE hS (x_F hH hS hA))) rfl rfl hl.1 rfl (lv_room (Nat.le_of_ble_eq_true rfl)) dX5_tagsOf_90 ⟨(Nat.le_of_ble_eq_true rfl), (Nat.le_of_ble_eq_true rfl)⟩) hH hS hA rfl rfl (fun r_62 _ H locs hw_63 hH hS => ?_)
              obtain ⟨hr_65, he_66⟩ := hw_63
              have hr_65 : (-1 : Int) ≤ r_62.toInt ∧ r_62.toInt ≤ 65535 := hr_65
              refine lv_bipush (v := 64) hx hb dX5_tagsOf_93 (by decide) ?_
              refine lv_icmp_ne (tgt := 117) hx hb dX5_tagsOf_95 (by decide) (fun c_67 => ?_) (fun c_67 => ?_)
              · skip
                have h_68 := s_ne (rfl : r_62.toInt = _) (show (64 : Int32).toInt = 64 from rfl) c_67
                refine lv_iconst (v := 0) hx hb dX5_tagsOf_117 (by decide) ?_
                exact sj_zret hx hb hr hlocks rfl hS () ⟨⟨by decide, by decide⟩, (by rw [hi_lp_1_1, tagW_no (by omega) (by omega) (by omega) (by omega)])⟩ hH (sj_Knil hK) (Nat.le_of_ble_eq_true rfl) (Nat.le_of_ble_eq_true rfl) dX5_tagsOf_118
              · skip
                have h_69 := s_eq (rfl : r_62.toInt = _) (show (64 : Int32).toInt = 64 from rfl) c_67
                refine lv_iload hx hb dX5_tagsOf_98 (lv_at hl 1 rfl) ?_
                refine lv_bipush (v := 97) hx hb dX5_tagsOf_100 (by decide) ?_
                refine lv_icmp_lt (tgt := 117) hx hb dX5_tagsOf_102 (by decide) (fun c_70 => ?_) (fun c_70 => ?_)
                · skip
                  have h_71 := s_lt (rfl : r_54.toInt = _) (show (97 : Int32).toInt = 97 from rfl) c_70
                  refine lv_iconst (v := 0) hx hb dX5_tagsOf_117 (by decide) ?_
                  exact sj_zret hx hb hr hlocks rfl hS () ⟨⟨by decide, by decide⟩, (by rw [hi_lp_1_1, tagW_no (by omega) (by omega) (by omega) (by omega)])⟩ hH (sj_Knil hK) (Nat.le_of_ble_eq_true rfl) (Nat.le_of_ble_eq_true rfl) dX5_tagsOf_118
                · skip
                  have h_72 := s_nlt (rfl : r_54.toInt = _) (show (97 : Int32).toInt = 97 from rfl) c_70
                  refine lv_iload hx hb dX5_tagsOf_105 (lv_at hl 1 rfl) ?_
                  refine lv_bipush (v := 112) hx hb dX5_tagsOf_107 (by decide) ?_
                  refine lv_icmp_gt (tgt := 117) hx hb dX5_tagsOf_109 (by decide) (fun c_73 => ?_) (fun c_73 => ?_)
                  · skip
                    have h_74 := s_lt (show (112 : Int32).toInt = 112 from rfl) (rfl : r_54.toInt = _) c_73
                    refine lv_iconst (v := 0) hx hb dX5_tagsOf_117 (by decide) ?_
                    exact sj_zret hx hb hr hlocks rfl hS () ⟨⟨by decide, by decide⟩, (by rw [hi_lp_1_1, tagW_no (by omega) (by omega) (by omega) (by omega)])⟩ hH (sj_Knil hK) (Nat.le_of_ble_eq_true rfl) (Nat.le_of_ble_eq_true rfl) dX5_tagsOf_118
                  · skip
                    have h_75 := s_nlt (show (112 : Int32).toInt = 112 from rfl) (rfl : r_54.toInt = _) c_73
                    refine lv_iload hx hb dX5_tagsOf_112 (lv_at hl 0 rfl) ?_
                    refine lv_if_ne (tgt := 119) hx hb dX5_tagsOf_114 (by decide) (fun _ => ?_) (fun h => absurd h (by decide))
                    refine lv_iload_n hx hb dX5_tagsOf_119 rfl (lv_at hl 3 rfl) ?_
                    refine lv_iconst (v := 1) hx hb dX5_tagsOf_120 (by decide) ?_
                    refine lv_iload hx hb dX5_tagsOf_121 (lv_at hl 1 rfl) ?_
                    refine lv_bipush (v := 97) hx hb dX5_tagsOf_123 (by decide) ?_
                    refine lv_isub hx hb dX5_tagsOf_125 ?_
                    obtain ⟨z_76, ez_76, hz_76⟩ := s_sub (rfl : r_54.toInt = _) (show (97 : Int32).toInt = 97 from rfl) (by omega) (by omega)
                    refine sj_i ez_76 ?_
                    refine lv_ishl hx hb dX5_tagsOf_126 ?_
                    refine lv_topi (fun z_77 ez_77 => ?_)
                    refine lv_ior hx hb dX5_tagsOf_127 ?_
                    refine lv_topi (fun z_78 ez_78 => ?_)
                    have hbo : z_78 = bitO t (i 5 (f.toInt + 1).toNat).toInt := by
                      unfold bitO; rw [ez_78, ez_77, show z_76 = nI ((i 5 (f.toInt + 1).toNat).toInt - 97).toNat from s_ofN (show z_76.toInt = (i 5 (f.toInt + 1).toNat).toInt - 97 by omega) (by omega) (by omega)]
                    have hz_78 := bitO_r (s := t) (c := (i 5 (f.toInt + 1).toNat).toInt) ⟨by omega, by omega⟩ (by omega) (by omega)
                    rw [← hbo] at hz_78
                    refine lv_istore_n (lv' := [(3, .int z_78), (6, .int 1), (5, .int r_54), (4, .int f), (0, .ref (g 3)), (1, .int x), (2, .int y)]) hx hb dX5_tagsOf_128 rfl hl (by decide) rfl (fun ls hl => ?_)
                    obtain ⟨z_79, ez_79, hz_79⟩ := s_add (rfl : f.toInt = _) (show (1 : Int32).toInt = 1 from rfl) (by omega) (by omega)
                    refine lv_iinc (v := z_79) (lv' := [(4, .int z_79), (3, .int z_78), (6, .int 1), (5, .int r_54), (0, .ref (g 3)), (1, .int x), (2, .int y)]) hx hb dX5_tagsOf_129 hl (k := 3) rfl ez_79 (by decide) rfl (fun ls hl => ?_)
                    obtain ⟨z_80, ez_80, hz_80⟩ := s_add (rfl : z_79.toInt = _) (show (1 : Int32).toInt = 1 from rfl) (by omega) (by omega)
                    refine lv_iinc (v := z_80) (lv' := [(4, .int z_80), (3, .int z_78), (6, .int 1), (5, .int r_54), (0, .ref (g 3)), (1, .int x), (2, .int y)]) hx hb dX5_tagsOf_132 hl (k := 0) rfl ez_80 (by decide) rfl (fun ls hl => ?_)
                    refine lv_goto (tgt := 5) hx hb dX5_tagsOf_135 (by decide) ?_
                    exact ih_lp_1 z_78 z_80 _ _ ls (by omega) (by omega) (by omega) (by omega) (by rw [show (z_80).toInt = f.toInt + 2 by omega, hbo, ← tagW_ok (by omega) (by omega) (by omega) (by omega) (by omega) (by omega)]; exact hi_lp_1_1) (lv_sub hl [0, 1, 4, 5, 6] rfl) hH hS
            · skip
              have h_81 := s_nle (rfl : y.toInt = _) (rfl : z_59.toInt = _) c_60
              refine lv_aload_n hx hb dX5_tagsOf_61 rfl (lv_at hl 3 rfl) ?_
              refine h_getr (ci := 5) (C := RX5) (F := TX5) (N := 19) hx hb hts in5 hown hK hH (by decide) (rfl : kd 3 = 5) (by decide) rfl 0 (by decide) wd0 (fun _ h9 => h9) (by decide) rfl (t := 4) (hR 3 0 rfl) (by decide) dX5_tagsOf_62 ?_
              refine lv_iload hx hb dX5_tagsOf_65 (lv_at hl 1 rfl) ?_
              refine lv_iconst (v := 2) hx hb dX5_tagsOf_67 (by decide) ?_
              refine lv_iadd hx hb dX5_tagsOf_68 ?_
              obtain ⟨z_82, ez_82, hz_82⟩ := s_add (rfl : f.toInt = _) (show (2 : Int32).toInt = 2 from rfl) (by omega) (by omega)
              refine sj_i ez_82 ?_
              refine x_calli (va_runV (As := [.int z_82]) (rest := []) ⟨hx, hb, hml, hown, hts⟩ (k_at_source l D g ka ad i r L d z_82 hO hR H.size ) (cwV 1 hts gX5_tagsOf_X3_at rfl rfl rfl (by decide +kernel) ⟨(Nat.le_of_ble_eq_true rfl), (Nat.le_of_ble_eq_true rfl)⟩) (x_preV (q := (RX3, TX3, 2)) hH hK (q_obj (by decide) (rfl : kd 4 = 3) (by decide)) rfl gxb (gxw hE hS (x_F hH hS hA))) rfl rfl hl.1 rfl (lv_room (Nat.le_of_ble_eq_true rfl)) dX5_tagsOf_69 ⟨(Nat.le_of_ble_eq_true rfl), (Nat.le_of_ble_eq_true rfl)⟩) hH hS hA rfl rfl (fun r_83 _ H locs hw_84 hH hS => ?_)
              obtain ⟨hr_86, he_87⟩ := hw_84
              have hr_86 : (-1 : Int) ≤ r_83.toInt ∧ r_83.toInt ≤ 65535 := hr_86
              rw [show z_82.toInt.toNat = (f.toInt + 2).toNat by omega] at he_87
              refine lv_bipush (v := 32) hx hb dX5_tagsOf_72 (by decide) ?_
              refine lv_icmp_ne (tgt := 81) hx hb dX5_tagsOf_74 (by decide) (fun c_88 => ?_) (fun c_88 => ?_)
              · skip
                have h_89 := s_ne (rfl : r_83.toInt = _) (show (32 : Int32).toInt = 32 from rfl) c_88
                refine lv_iconst (v := 0) hx hb dX5_tagsOf_81 (by decide) ?_
                refine lv_istore (lv' := [(6, .int 0), (5, .int r_54), (4, .int f), (3, .int t), (0, .ref (g 3)), (1, .int x), (2, .int y)]) hx hb dX5_tagsOf_82 hl (by decide) rfl (fun ls hl => ?_)
                refine lv_aload_n hx hb dX5_tagsOf_84 rfl (lv_at hl 4 rfl) ?_
                refine h_getr (ci := 5) (C := RX5) (F := TX5) (N := 19) hx hb hts in5 hown hK hH (by decide) (rfl : kd 3 = 5) (by decide) rfl 0 (by decide) wd0 (fun _ h9 => h9) (by decide) rfl (t := 4) (hR 3 0 rfl) (by decide) dX5_tagsOf_85 ?_
                refine lv_iload hx hb dX5_tagsOf_88 (lv_at hl 2 rfl) ?_
                refine x_calli (va_runV (As := [.int f]) (rest := []) ⟨hx, hb, hml, hown, hts⟩ (k_at_source l D g ka ad i r L d f hO hR H.size ) (cwV 1 hts gX5_tagsOf_X3_at rfl rfl rfl (by decide +kernel) ⟨(Nat.le_of_ble_eq_true rfl), (Nat.le_of_ble_eq_true rfl)⟩) (x_preV (q := (RX3, TX3, 2)) hH hK (q_obj (by decide) (rfl : kd 4 = 3) (by decide)) rfl gxb (gxw hE hS (x_F hH hS hA))) rfl rfl hl.1 rfl (lv_room (Nat.le_of_ble_eq_true rfl)) dX5_tagsOf_90 ⟨(Nat.le_of_ble_eq_true rfl), (Nat.le_of_ble_eq_true rfl)⟩) hH hS hA rfl rfl (fun r_90 _ H locs hw_91 hH hS => ?_)
                obtain ⟨hr_93, he_94⟩ := hw_91
                have hr_93 : (-1 : Int) ≤ r_90.toInt ∧ r_90.toInt ≤ 65535 := hr_93
                refine lv_bipush (v := 64) hx hb dX5_tagsOf_93 (by decide) ?_
                refine lv_icmp_ne (tgt := 117) hx hb dX5_tagsOf_95 (by decide) (fun c_95 => ?_) (fun c_95 => ?_)
                · skip
                  have h_96 := s_ne (rfl : r_90.toInt = _) (show (64 : Int32).toInt = 64 from rfl) c_95
                  refine lv_iconst (v := 0) hx hb dX5_tagsOf_117 (by decide) ?_
                  exact sj_zret hx hb hr hlocks rfl hS () ⟨⟨by decide, by decide⟩, (by rw [hi_lp_1_1, tagW_no (by omega) (by omega) (by omega) (by omega)])⟩ hH (sj_Knil hK) (Nat.le_of_ble_eq_true rfl) (Nat.le_of_ble_eq_true rfl) dX5_tagsOf_118
                · skip
                  have h_97 := s_eq (rfl : r_90.toInt = _) (show (64 : Int32).toInt = 64 from rfl) c_95
                  refine lv_iload hx hb dX5_tagsOf_98 (lv_at hl 1 rfl) ?_
                  refine lv_bipush (v := 97) hx hb dX5_tagsOf_100 (by decide) ?_
                  refine lv_icmp_lt (tgt := 117) hx hb dX5_tagsOf_102 (by decide) (fun c_98 => ?_) (fun c_98 => ?_)
                  · skip
                    have h_99 := s_lt (rfl : r_54.toInt = _) (show (97 : Int32).toInt = 97 from rfl) c_98
                    refine lv_iconst (v := 0) hx hb dX5_tagsOf_117 (by decide) ?_
                    exact sj_zret hx hb hr hlocks rfl hS () ⟨⟨by decide, by decide⟩, (by rw [hi_lp_1_1, tagW_no (by omega) (by omega) (by omega) (by omega)])⟩ hH (sj_Knil hK) (Nat.le_of_ble_eq_true rfl) (Nat.le_of_ble_eq_true rfl) dX5_tagsOf_118
                  · skip
                    have h_100 := s_nlt (rfl : r_54.toInt = _) (show (97 : Int32).toInt = 97 from rfl) c_98
                    refine lv_iload hx hb dX5_tagsOf_105 (lv_at hl 1 rfl) ?_
                    refine lv_bipush (v := 112) hx hb dX5_tagsOf_107 (by decide) ?_
                    refine lv_icmp_gt (tgt := 117) hx hb dX5_tagsOf_109 (by decide) (fun c_101 => ?_) (fun c_101 => ?_)
                    · skip
                      have h_102 := s_lt (show (112 : Int32).toInt = 112 from rfl) (rfl : r_54.toInt = _) c_101
                      refine lv_iconst (v := 0) hx hb dX5_tagsOf_117 (by decide) ?_
                      exact sj_zret hx hb hr hlocks rfl hS () ⟨⟨by decide, by decide⟩, (by rw [hi_lp_1_1, tagW_no (by omega) (by omega) (by omega) (by omega)])⟩ hH (sj_Knil hK) (Nat.le_of_ble_eq_true rfl) (Nat.le_of_ble_eq_true rfl) dX5_tagsOf_118
                    · skip
                      have h_103 := s_nlt (show (112 : Int32).toInt = 112 from rfl) (rfl : r_54.toInt = _) c_101
                      refine lv_iload hx hb dX5_tagsOf_112 (lv_at hl 0 rfl) ?_
                      refine lv_if_ne (tgt := 119) hx hb dX5_tagsOf_114 (by decide) (fun h => absurd (by decide) h) (fun _ => ?_)
                      refine lv_iconst (v := 0) hx hb dX5_tagsOf_117 (by decide) ?_
                      exact sj_zret hx hb hr hlocks rfl hS () ⟨⟨by decide, by decide⟩, (by rw [hi_lp_1_1, tagW_no (by omega) (by omega) (by omega) (by omega)])⟩ hH (sj_Knil hK) (Nat.le_of_ble_eq_true rfl) (Nat.le_of_ble_eq_true rfl) dX5_tagsOf_118
              · skip
                have h_104 := s_eq (rfl : r_83.toInt = _) (show (32 : Int32).toInt = 32 from rfl) c_88
                refine lv_iconst (v := 1) hx hb dX5_tagsOf_77 (by decide) ?_
                refine lv_goto (tgt := 82) hx hb dX5_tagsOf_78 (by decide) ?_
                refine lv_istore (lv' := [(6, .int 1), (5, .int r_54), (4, .int f), (3, .int t), (0, .ref (g 3)), (1, .int x), (2, .int y)]) hx hb dX5_tagsOf_82 hl (by decide) rfl (fun ls hl => ?_)
                refine lv_aload_n hx hb dX5_tagsOf_84 rfl (lv_at hl 4 rfl) ?_
                refine h_getr (ci := 5) (C := RX5) (F := TX5) (N := 19) hx hb hts in5 hown hK hH (by decide) (rfl : kd 3 = 5) (by decide) rfl 0 (by decide) wd0 (fun _ h9 => h9) (by decide) rfl (t := 4) (hR 3 0 rfl) (by decide) dX5_tagsOf_85 ?_
                refine lv_iload hx hb dX5_tagsOf_88 (lv_at hl 2 rfl) ?_
                refine x_calli (va_runV (As := [.int f]) (rest := []) ⟨hx, hb, hml, hown, hts⟩ (k_at_source l D g ka ad i r L d f hO hR H.size ) (cwV 1 hts gX5_tagsOf_X3_at rfl rfl rfl (by decide +kernel) ⟨(Nat.le_of_ble_eq_true rfl), (Nat.le_of_ble_eq_true rfl)⟩) (x_preV (q := (RX3, TX3, 2)) hH hK (q_obj (by decide) (rfl : kd 4 = 3) (by decide)) rfl gxb (gxw hE hS (x_F hH hS hA))) rfl rfl hl.1 rfl (lv_room (Nat.le_of_ble_eq_true rfl)) dX5_tagsOf_90 ⟨(Nat.le_of_ble_eq_true rfl), (Nat.le_of_ble_eq_true rfl)⟩) hH hS hA rfl rfl (fun r_105 _ H locs hw_106 hH hS => ?_)
                obtain ⟨hr_108, he_109⟩ := hw_106
                have hr_108 : (-1 : Int) ≤ r_105.toInt ∧ r_105.toInt ≤ 65535 := hr_108
                refine lv_bipush (v := 64) hx hb dX5_tagsOf_93 (by decide) ?_
                refine lv_icmp_ne (tgt := 117) hx hb dX5_tagsOf_95 (by decide) (fun c_110 => ?_) (fun c_110 => ?_)
                · skip
                  have h_111 := s_ne (rfl : r_105.toInt = _) (show (64 : Int32).toInt = 64 from rfl) c_110
                  refine lv_iconst (v := 0) hx hb dX5_tagsOf_117 (by decide) ?_
                  exact sj_zret hx hb hr hlocks rfl hS () ⟨⟨by decide, by decide⟩, (by rw [hi_lp_1_1, tagW_no (by omega) (by omega) (by omega) (by omega)])⟩ hH (sj_Knil hK) (Nat.le_of_ble_eq_true rfl) (Nat.le_of_ble_eq_true rfl) dX5_tagsOf_118
                · skip
                  have h_112 := s_eq (rfl : r_105.toInt = _) (show (64 : Int32).toInt = 64 from rfl) c_110
                  refine lv_iload hx hb dX5_tagsOf_98 (lv_at hl 1 rfl) ?_
                  refine lv_bipush (v := 97) hx hb dX5_tagsOf_100 (by decide) ?_
                  refine lv_icmp_lt (tgt := 117) hx hb dX5_tagsOf_102 (by decide) (fun c_113 => ?_) (fun c_113 => ?_)
                  · skip
                    have h_114 := s_lt (rfl : r_54.toInt = _) (show (97 : Int32).toInt = 97 from rfl) c_113
                    refine lv_iconst (v := 0) hx hb dX5_tagsOf_117 (by decide) ?_
                    exact sj_zret hx hb hr hlocks rfl hS () ⟨⟨by decide, by decide⟩, (by rw [hi_lp_1_1, tagW_no (by omega) (by omega) (by omega) (by omega)])⟩ hH (sj_Knil hK) (Nat.le_of_ble_eq_true rfl) (Nat.le_of_ble_eq_true rfl) dX5_tagsOf_118
                  · skip
                    have h_115 := s_nlt (rfl : r_54.toInt = _) (show (97 : Int32).toInt = 97 from rfl) c_113
                    refine lv_iload hx hb dX5_tagsOf_105 (lv_at hl 1 rfl) ?_
                    refine lv_bipush (v := 112) hx hb dX5_tagsOf_107 (by decide) ?_
                    refine lv_icmp_gt (tgt := 117) hx hb dX5_tagsOf_109 (by decide) (fun c_116 => ?_) (fun c_116 => ?_)
                    · skip
                      have h_117 := s_lt (show (112 : Int32).toInt = 112 from rfl) (rfl : r_54.toInt = _) c_116
                      refine lv_iconst (v := 0) hx hb dX5_tagsOf_117 (by decide) ?_
                      exact sj_zret hx hb hr hlocks rfl hS () ⟨⟨by decide, by decide⟩, (by rw [hi_lp_1_1, tagW_no (by omega) (by omega) (by omega) (by omega)])⟩ hH (sj_Knil hK) (Nat.le_of_ble_eq_true rfl) (Nat.le_of_ble_eq_true rfl) dX5_tagsOf_118
                    · skip
                      have h_118 := s_nlt (show (112 : Int32).toInt = 112 from rfl) (rfl : r_54.toInt = _) c_116
                      refine lv_iload hx hb dX5_tagsOf_112 (lv_at hl 0 rfl) ?_
                      refine lv_if_ne (tgt := 119) hx hb dX5_tagsOf_114 (by decide) (fun _ => ?_) (fun h => absurd h (by decide))
                      refine lv_iload_n hx hb dX5_tagsOf_119 rfl (lv_at hl 3 rfl) ?_
                      refine lv_iconst (v := 1) hx hb dX5_tagsOf_120 (by decide) ?_
                      refine lv_iload hx hb dX5_tagsOf_121 (lv_at hl 1 rfl) ?_
                      refine lv_bipush (v := 97) hx hb dX5_tagsOf_123 (by decide) ?_
                      refine lv_isub hx hb dX5_tagsOf_125 ?_
                      obtain ⟨z_119, ez_119, hz_119⟩ := s_sub (rfl : r_54.toInt = _) (show (97 : Int32).toInt = 97 from rfl) (by omega) (by omega)
                      refine sj_i ez_119 ?_
                      refine lv_ishl hx hb dX5_tagsOf_126 ?_
                      refine lv_topi (fun z_120 ez_120 => ?_)
                      refine lv_ior hx hb dX5_tagsOf_127 ?_
                      refine lv_topi (fun z_121 ez_121 => ?_)
                      have hbo : z_121 = bitO t (i 5 (f.toInt + 1).toNat).toInt := by
                        unfold bitO; rw [ez_121, ez_120, show z_119 = nI ((i 5 (f.toInt + 1).toNat).toInt - 97).toNat from s_ofN (show z_119.toInt = (i 5 (f.toInt + 1).toNat).toInt - 97 by omega) (by omega) (by omega)]
                      have hz_121 := bitO_r (s := t) (c := (i 5 (f.toInt + 1).toNat).toInt) ⟨by omega, by omega⟩ (by omega) (by omega)
                      rw [← hbo] at hz_121
                      refine lv_istore_n (lv' := [(3, .int z_121), (6, .int 1), (5, .int r_54), (4, .int f), (0, .ref (g 3)), (1, .int x), (2, .int y)]) hx hb dX5_tagsOf_128 rfl hl (by decide) rfl (fun ls hl => ?_)
                      obtain ⟨z_122, ez_122, hz_122⟩ := s_add (rfl : f.toInt = _) (show (1 : Int32).toInt = 1 from rfl) (by omega) (by omega)
                      refine lv_iinc (v := z_122) (lv' := [(4, .int z_122), (3, .int z_121), (6, .int 1), (5, .int r_54), (0, .ref (g 3)), (1, .int x), (2, .int y)]) hx hb dX5_tagsOf_129 hl (k := 3) rfl ez_122 (by decide) rfl (fun ls hl => ?_)
                      obtain ⟨z_123, ez_123, hz_123⟩ := s_add (rfl : z_122.toInt = _) (show (1 : Int32).toInt = 1 from rfl) (by omega) (by omega)
                      refine lv_iinc (v := z_123) (lv' := [(4, .int z_123), (3, .int z_121), (6, .int 1), (5, .int r_54), (0, .ref (g 3)), (1, .int x), (2, .int y)]) hx hb dX5_tagsOf_132 hl (k := 0) rfl ez_123 (by decide) rfl (fun ls hl => ?_)
                      refine lv_goto (tgt := 5) hx hb dX5_tagsOf_135 (by decide) ?_
                      exact ih_lp_1 z_121 z_123 _ _ ls (by omega) (by omega) (by omega) (by omega) (by rw [show (z_123).toInt = f.toInt + 2 by omega, hbo, ← tagW_ok (by omega) (by omega) (by omega) (by omega) (by omega) (by omega)]; exact hi_lp_1_1) (lv_sub hl [0, 1, 4, 5, 6] rfl) hH hS
        · skip
          have h_124 := s_eq (rfl : r_5.toInt = _) (show (32 : Int32).toInt = 32 from rfl) c_10
          refine lv_goto (tgt := 132) hx hb dX5_tagsOf_25 (by decide) ?_
          obtain ⟨z_125, ez_125, hz_125⟩ := s_add (rfl : f.toInt = _) (show (1 : Int32).toInt = 1 from rfl) (by omega) (by omega)
          refine lv_iinc (v := z_125) (lv' := [(4, .int z_125), (3, .int t), (0, .ref (g 3)), (1, .int x), (2, .int y)]) hx hb dX5_tagsOf_132 hl (k := 0) rfl ez_125 (by decide) rfl (fun ls hl => ?_)
          refine lv_goto (tgt := 5) hx hb dX5_tagsOf_135 (by decide) ?_
          exact ih_lp_1 t z_125 _ _ ls (by omega) (by omega) (by omega) (by omega) (by rw [show (z_125).toInt = f.toInt + 1 by omega, ← tagW_sp (by omega) (by omega) (by omega)]; exact hi_lp_1_1) (lv_sub hl [0, 1, 2, 3, 4] rfl) hH hS
  have hl_126 : (0 : Int32).toInt = 0 := rfl
  exact lp_1 _ 0 x _ _ ls (Nat.lt_succ_self _) (by omega) (by omega) (by omega) rfl (lv_sub hl [0, 1, 2, 3, 4] rfl) hH hS
set_option maxHeartbeats 2000000 in
set_option maxRecDepth 100000 in
theorem k_widthOf (l : Launch) (D : va_G) (g : Nat → Nat) (ka : Nat → ClassId) (ad : Nat → Nat) (i : Nat → Nat → Int32) (r : Nat → Nat → Nat) (L : Nat → Nat → Int64) (d : Nat → Nat → UInt64) (x : Int32) (y : Int32) (hO : OkI i) (hR : RS r) (sz : Nat) (hx0 : 0 ≤ x.toInt) (hxy : x.toInt < y.toInt) (hys : y.toInt ≤ (i 4 1).toInt) : Met l yX5_widthOf wsX5_widthOf ({ frames := 1, cells := 0, slots := 0, locals := 21 }) (va_Pc [.ref (g 3), .int x, .int y] (sj_B D (hwc g ka i r L d) (hT ka) sz (gx ad (va_A (hwc g ka i r L d) sz)))) (sj_Qi (S := Unit) D (fun v u => ((-1 : Int) ≤ v.toInt ∧ v.toInt ≤ 480) ∧ (v.toInt = wid (lnL (i 5) x.toInt y.toInt))) (fun _ => hwc g ka i r L d) (fun _ => []) (va_A (hwc g ka i r L d) sz)) 0 0 (va_A (hwc g ka i r L d) sz) := by
  refine x_met (Ex := gx ad) (cc := cX5_widthOf) (maxL := 5) (ret := (some .int)) (by decide) rfl (Nat.le_of_ble_eq_true rfl) ?_
  intro p e s m below meth c A ls hx hb hr hml hts hown hlocks hA hS hH hK hE hl
  have hown : s.vm.findClass RX5 = some m.cls := hown
  have in5 : ∀ w ∈ wsX50, w ∈ wsX5_widthOf := (fun _ h => (List.mem_cons_of_mem _ (List.mem_append_left _ (List.mem_append_right _ h))))
  have wd0 := hts (.fieldLink RX5 16 "StoryDesk$Reading" "source" "LStoryDesk$Letters;") (List.mem_cons_of_mem _ (List.mem_append_left _ (List.mem_append_left _ lm0)))
  have hl : lv_has ls 5 [(0, .ref (g 3)), (1, .int x), (2, .int y)] := hl
  have hK : va_K D vwCl (hT ka) s := hK
  have hs4 : (0 : Int) ≤ (i 4 1).toInt ∧ (i 4 1).toInt ≤ 480 := hO 4 1
  have hyy : y.toInt ≤ 480 := by omega
  have hwi := wid_ln (f := i 5) (a := x.toInt) (b := y.toInt) (by omega) (by omega)
  refine lv_aload_n hx hb dX5_widthOf_0 rfl (lv_at hl 0 rfl) ?_
  refine h_getr (ci := 5) (C := RX5) (F := TX5) (N := 19) hx hb hts in5 hown hK hH (by decide) (rfl : kd 3 = 5) (by decide) rfl 0 (by decide) wd0 (fun _ h9 => h9) (by decide) rfl (t := 4) (hR 3 0 rfl) (by decide) dX5_widthOf_1 ?_
  refine lv_iload_n hx hb dX5_widthOf_4 rfl (lv_at hl 2 rfl) ?_
  refine lv_iconst (v := 1) hx hb dX5_widthOf_5 (by decide) ?_
  refine lv_isub hx hb dX5_widthOf_6 ?_
  obtain ⟨z_1, ez_1, hz_1⟩ := s_sub (rfl : y.toInt = _) (show (1 : Int32).toInt = 1 from rfl) (by omega) (by omega)
  refine sj_i ez_1 ?_
  refine x_calli (va_runV (As := [.int z_1]) (rest := []) ⟨hx, hb, hml, hown, hts⟩ (k_at_source l D g ka ad i r L d z_1 hO hR s.heap.size ) (cwV 1 hts gX5_widthOf_X3_at rfl rfl rfl (by decide +kernel) ⟨(Nat.le_of_ble_eq_true rfl), (Nat.le_of_ble_eq_true rfl)⟩) (x_preV (q := (RX3, TX3, 2)) hH hK (q_obj (by decide) (rfl : kd 4 = 3) (by decide)) rfl gxb (gxw hE hS (x_F hH hS hA))) rfl rfl hl.1 rfl (lv_room (Nat.le_of_ble_eq_true rfl)) dX5_widthOf_7 ⟨(Nat.le_of_ble_eq_true rfl), (Nat.le_of_ble_eq_true rfl)⟩) hH hS hA rfl rfl (fun r_2 _ H locs hw_3 hH hS => ?_)
  obtain ⟨hr_5, he_6⟩ := hw_3
  have hr_5 : (-1 : Int) ≤ r_2.toInt ∧ r_2.toInt ≤ 65535 := hr_5
  rw [show z_1.toInt.toNat = (y.toInt - 1).toNat by omega] at he_6
  refine lv_bipush (v := 124) hx hb dX5_widthOf_10 (by decide) ?_
  refine lv_icmp_eq (tgt := 17) hx hb dX5_widthOf_12 (by decide) (fun c_7 => ?_) (fun c_7 => ?_)
  · skip
    have h_8 := s_eq (rfl : r_2.toInt = _) (show (124 : Int32).toInt = 124 from rfl) c_7
    refine lv_iconst (v := (-1)) hx hb dX5_widthOf_17 (by decide) ?_
    refine lv_istore_n (lv' := [(3, .int (-1)), (0, .ref (g 3)), (1, .int x), (2, .int y)]) hx hb dX5_widthOf_18 rfl hl (by decide) rfl (fun ls hl => ?_)
    refine lv_iload_n hx hb dX5_widthOf_19 rfl (lv_at hl 2 rfl) ?_
    refine lv_istore (lv' := [(4, .int x), (3, .int (-1)), (0, .ref (g 3)), (1, .int x), (2, .int y)]) hx hb dX5_widthOf_20 hl (by decide) rfl (fun ls hl => ?_)
    -- loop at 22
    have lp_9 : ∀ (fuel_lp_9 : Nat) (t : Int32) (f : Int32) (H : Heap) (locs : List Loc) (ls : Array Slot), (y.toInt - f.toInt).toNat < fuel_lp_9 → (-1 : Int) ≤ t.toInt ∧ t.toInt ≤ 480 → (0 : Int) ≤ f.toInt ∧ f.toInt ≤ 480 → x.toInt ≤ f.toInt ∧ f.toInt ≤ y.toInt ∧ t.toInt < f.toInt → t.toInt + brs (lnL (i 5) f.toInt y.toInt) = brs (lnL (i 5) x.toInt y.toInt) - 1 → lv_has ls 5 [(4, .int f), (3, .int t), (0, .ref (g 3)), (1, .int x), (2, .int y)] → sj_H D A (hwc g ka i r L d) H → va_S A s.heap H locs → W p l e (headSpec wsX5_widthOf ({ frames := 1, cells := 0, slots := 0, locals := 21 })).room s m ([.ref (g 3), .int x, .int y] : List Value).toArray below meth c H locs 0 0 (MQ below (sj_Qi (S := Unit) D (fun v u => ((-1 : Int) ≤ v.toInt ∧ v.toInt ≤ 480) ∧ (v.toInt = wid (lnL (i 5) x.toInt y.toInt))) (fun _ => hwc g ka i r L d) (fun _ => []) A) ([.ref (g 3), .int x, .int y] : List Value).toArray s 0 0 A) (F0 m 22 ls []) := by
      intro fuel_lp_9
      induction fuel_lp_9 with
      | zero => intros; omega
      | succ fuel_lp_9 ih_lp_9 =>
        intro t f H locs ls hm hr_t hr_f hi_lp_9_0 hi_lp_9_1 hl hH hS
        refine lv_iload hx hb dX5_widthOf_22 (lv_at hl 0 rfl) ?_
        refine lv_iload_n hx hb dX5_widthOf_24 rfl (lv_at hl 4 rfl) ?_
        refine lv_icmp_ge (tgt := 51) hx hb dX5_widthOf_25 (by decide) (fun c_10 => ?_) (fun c_10 => ?_)
        · skip
          have h_11 := s_le (rfl : y.toInt = _) (rfl : f.toInt = _) c_10
          refine lv_iload_n hx hb dX5_widthOf_51 rfl (lv_at hl 1 rfl) ?_
          exact sj_zret hx hb hr hlocks rfl hS () ⟨⟨by omega, by omega⟩, (by have hb0 := brs_end (f := i 5) (a := f.toInt) (b := y.toInt) (by omega); omega)⟩ hH (sj_Knil hK) (Nat.le_of_ble_eq_true rfl) (Nat.le_of_ble_eq_true rfl) dX5_widthOf_52
        · skip
          have h_12 := s_nle (rfl : y.toInt = _) (rfl : f.toInt = _) c_10
          refine lv_aload_n hx hb dX5_widthOf_28 rfl (lv_at hl 2 rfl) ?_
          refine h_getr (ci := 5) (C := RX5) (F := TX5) (N := 19) hx hb hts in5 hown hK hH (by decide) (rfl : kd 3 = 5) (by decide) rfl 0 (by decide) wd0 (fun _ h9 => h9) (by decide) rfl (t := 4) (hR 3 0 rfl) (by decide) dX5_widthOf_29 ?_
          refine lv_iload hx hb dX5_widthOf_32 (lv_at hl 0 rfl) ?_
          refine x_calli (va_runV (As := [.int f]) (rest := []) ⟨hx, hb, hml, hown, hts⟩ (k_at_source l D g ka ad i r L d f hO hR H.size ) (cwV 1 hts gX5_widthOf_X3_at rfl rfl rfl (by decide +kernel) ⟨(Nat.le_of_ble_eq_true rfl), (Nat.le_of_ble_eq_true rfl)⟩) (x_preV (q := (RX3, TX3, 2)) hH hK (q_obj (by decide) (rfl : kd 4 = 3) (by decide)) rfl gxb (gxw hE hS (x_F hH hS hA))) rfl rfl hl.1 rfl (lv_room (Nat.le_of_ble_eq_true rfl)) dX5_widthOf_34 ⟨(Nat.le_of_ble_eq_true rfl), (Nat.le_of_ble_eq_true rfl)⟩) hH hS hA rfl rfl (fun r_13 _ H locs hw_14 hH hS => ?_)
          obtain ⟨hr_16, he_17⟩ := hw_14
          have hr_16 : (-1 : Int) ≤ r_13.toInt ∧ r_13.toInt ≤ 65535 := hr_16
          have hbs := brs_s (f := i 5) (a := f.toInt) (b := y.toInt) (by omega) (by omega)
          refine lv_bipush (v := 124) hx hb dX5_widthOf_37 (by decide) ?_
          refine lv_icmp_ne (tgt := 45) hx hb dX5_widthOf_39 (by decide) (fun c_18 => ?_) (fun c_18 => ?_)
          · skip
            have h_19 := s_ne (rfl : r_13.toInt = _) (show (124 : Int32).toInt = 124 from rfl) c_18
            obtain ⟨z_20, ez_20, hz_20⟩ := s_add (rfl : f.toInt = _) (show (1 : Int32).toInt = 1 from rfl) (by omega) (by omega)
            refine lv_iinc (v := z_20) (lv' := [(4, .int z_20), (3, .int t), (0, .ref (g 3)), (1, .int x), (2, .int y)]) hx hb dX5_widthOf_45 hl (k := 0) rfl ez_20 (by decide) rfl (fun ls hl => ?_)
            refine lv_goto (tgt := 22) hx hb dX5_widthOf_48 (by decide) ?_
            exact ih_lp_9 t z_20 _ _ ls (by omega) (by omega) (by omega) (by omega) (by rw [show (z_20).toInt = f.toInt + 1 by omega]; omega) (lv_sub hl [0, 1, 2, 3, 4] rfl) hH hS
          · skip
            have h_21 := s_eq (rfl : r_13.toInt = _) (show (124 : Int32).toInt = 124 from rfl) c_18
            obtain ⟨z_22, ez_22, hz_22⟩ := s_add (rfl : t.toInt = _) (show (1 : Int32).toInt = 1 from rfl) (by omega) (by omega)
            refine lv_iinc (v := z_22) (lv' := [(3, .int z_22), (4, .int f), (0, .ref (g 3)), (1, .int x), (2, .int y)]) hx hb dX5_widthOf_42 hl (k := 1) rfl ez_22 (by decide) rfl (fun ls hl => ?_)
            obtain ⟨z_23, ez_23, hz_23⟩ := s_add (rfl : f.toInt = _) (show (1 : Int32).toInt = 1 from rfl) (by omega) (by omega)
            refine lv_iinc (v := z_23) (lv' := [(4, .int z_23), (3, .int z_22), (0, .ref (g 3)), (1, .int x), (2, .int y)]) hx hb dX5_widthOf_45 hl (k := 1) rfl ez_23 (by decide) rfl (fun ls hl => ?_)
            refine lv_goto (tgt := 22) hx hb dX5_widthOf_48 (by decide) ?_
            exact ih_lp_9 z_22 z_23 _ _ ls (by omega) (by omega) (by omega) (by omega) (by rw [show (z_23).toInt = f.toInt + 1 by omega]; omega) (lv_sub hl [0, 1, 2, 3, 4] rfl) hH hS
    have hl_24 : ((-1) : Int32).toInt = -1 := rfl
    exact lp_9 _ (-1) x _ _ ls (Nat.lt_succ_self _) (by omega) (by omega) (by omega) (by omega) (lv_sub hl [0, 1, 2, 3, 4] rfl) hH hS
  · skip
    have h_25 := s_ne (rfl : r_2.toInt = _) (show (124 : Int32).toInt = 124 from rfl) c_7
    refine lv_iconst (v := 0) hx hb dX5_widthOf_15 (by decide) ?_
    have hlv_26 : (0 : Int32).toInt = 0 := rfl
    exact sj_zret hx hb hr hlocks rfl hS () ⟨⟨by decide, by decide⟩, (by omega)⟩ hH (sj_Knil hK) (Nat.le_of_ble_eq_true rfl) (Nat.le_of_ble_eq_true rfl) dX5_widthOf_16
set_option maxHeartbeats 2000000 in
set_option maxRecDepth 100000 in
theorem k_hasRoom (l : Launch) (D : va_G) (g : Nat → Nat) (ka : Nat → ClassId) (ad : Nat → Nat) (i : Nat → Nat → Int32) (r : Nat → Nat → Nat) (L : Nat → Nat → Int64) (d : Nat → Nat → UInt64) (x : Int32) (hO : OkI i) (hR : RS r) (sz : Nat) (hx0 : 1 ≤ x.toInt) (hx1 : x.toInt ≤ 9) : Met l yX5_hasRoom wsX5_hasRoom ({ frames := 0, cells := 0, slots := 0, locals := 0 }) (va_Pc [.ref (g 3), .int x] (sj_B D (hwc g ka i r L d) (hT ka) sz (gx ad (va_A (hwc g ka i r L d) sz)))) (sj_Qi (S := Unit) D (fun v u => ((0 : Int) ≤ v.toInt ∧ v.toInt ≤ 1) ∧ ((v.toInt = 1 ∧ roomQ i x.toInt) ∨ (v.toInt = 0 ∧ ¬ roomQ i x.toInt))) (fun _ => hwc g ka i r L d) (fun _ => []) (va_A (hwc g ka i r L d) sz)) 0 0 (va_A (hwc g ka i r L d) sz) := by
  refine x_met (Ex := gx ad) (cc := cX5_hasRoom) (maxL := 2) (ret := (some .boolean)) (by decide) rfl (Nat.le_of_ble_eq_true rfl) ?_
  intro p e s m below meth c A ls hx hb hr hml hts hown hlocks hA hS hH hK hE hl
  have hown : s.vm.findClass RX5 = some m.cls := hown
  have in5 : ∀ w ∈ wsX50, w ∈ wsX5_hasRoom := (fun _ h => (List.mem_cons_of_mem _ (List.mem_append_right _ h)))
  have wd0 := hts (.fieldLink RX5 106 "StoryDesk$Reading" "rowCount" "I") (List.mem_cons_of_mem _ (List.mem_append_left _ lm2))
  have wd1 := hts (.fieldLink RX5 94 "StoryDesk$Reading" "rules" "I") (List.mem_cons_of_mem _ (List.mem_append_left _ lm4))
  have wd2 := hts (.fieldLink RX5 97 "StoryDesk$Reading" "scenarioCount" "I") (List.mem_cons_of_mem _ (List.mem_append_left _ lm0))
  have wd3 := hts (.fieldLink RX5 103 "StoryDesk$Reading" "exampleCount" "I") (List.mem_cons_of_mem _ (List.mem_append_left _ lm3))
  have wd4 := hts (.fieldLink RX5 100 "StoryDesk$Reading" "stepCount" "I") (List.mem_cons_of_mem _ (List.mem_append_left _ lm1))
  have hl : lv_has ls 2 [(0, .ref (g 3)), (1, .int x)] := hl
  have hK : va_K D vwCl (hT ka) s := hK
  refine lv_iload_n hx hb dX5_hasRoom_0 rfl (lv_at hl 1 rfl) ?_
  by_cases h_1 : (x).toInt < 2 ∨ 8 < (x).toInt
  · skip
    refine lv_tableOut (tgt := 118) hx hb dX5_hasRoom_1 h_1 (by decide) ?_
    refine lv_iconst (v := 1) hx hb dX5_hasRoom_118 (by decide) ?_
    have hlv_2 : (1 : Int32).toInt = 1 := rfl
    exact sj_zret hx hb hr hlocks (by decide +kernel) hS () ⟨⟨by decide, by decide⟩, (by unfold roomQ; omega)⟩ hH (sj_Knil hK) (Nat.le_of_ble_eq_true rfl) (Nat.le_of_ble_eq_true rfl) dX5_hasRoom_119
  · skip
    rcases (show (x).toInt = 2 ∨ (x).toInt = 3 ∨ (x).toInt = 4 ∨ (x).toInt = 5 ∨ (x).toInt = 6 ∨ (x).toInt = 7 ∨ (x).toInt = 8 by omega) with hh_1 | hh_1 | hh_1 | hh_1 | hh_1 | hh_1 | hh_1
    · skip
      refine lv_tableIn (tgt := 74) hx hb dX5_hasRoom_1 (by omega) (by omega) (by rw [hh_1]; rfl) (by decide) ?_
      refine lv_aload_n hx hb dX5_hasRoom_74 rfl (lv_at hl 0 rfl) ?_
      have bx_3 : (0 : Int) ≤ (i 3 14).toInt ∧ (i 3 14).toInt ≤ 40 := hO 3 14
      refine h_geti (ci := 5) (C := RX5) (F := TX5) (N := 19) hx hb hts in5 hown hK hH (by decide) (rfl : kd 3 = 5) (by decide) rfl 14 (by decide) wd0 (fun _ h9 => h9) (by decide) rfl dX5_hasRoom_75 ?_
      refine lv_bipush (v := 40) hx hb dX5_hasRoom_78 (by decide) ?_
      refine lv_icmp_ge (tgt := 87) hx hb dX5_hasRoom_80 (by decide) (fun c_4 => ?_) (fun c_4 => ?_)
      · skip
        have h_5 := s_le (show (40 : Int32).toInt = 40 from rfl) (rfl : (i 3 14).toInt = _) c_4
        refine lv_iconst (v := 0) hx hb dX5_hasRoom_87 (by decide) ?_
        have hlv_6 : (0 : Int32).toInt = 0 := rfl
        exact sj_zret hx hb hr hlocks (by decide +kernel) hS () ⟨⟨by decide, by decide⟩, (by unfold roomQ; omega)⟩ hH (sj_Knil hK) (Nat.le_of_ble_eq_true rfl) (Nat.le_of_ble_eq_true rfl) dX5_hasRoom_88
      · skip
        have h_7 := s_nle (show (40 : Int32).toInt = 40 from rfl) (rfl : (i 3 14).toInt = _) c_4
        refine lv_iconst (v := 1) hx hb dX5_hasRoom_83 (by decide) ?_
        refine lv_goto (tgt := 88) hx hb dX5_hasRoom_84 (by decide) ?_
        have hlv_8 : (1 : Int32).toInt = 1 := rfl
        exact sj_zret hx hb hr hlocks (by decide +kernel) hS () ⟨⟨by decide, by decide⟩, (by unfold roomQ; omega)⟩ hH (sj_Knil hK) (Nat.le_of_ble_eq_true rfl) (Nat.le_of_ble_eq_true rfl) dX5_hasRoom_88
    · skip
      refine lv_tableIn (tgt := 118) hx hb dX5_hasRoom_1 (by omega) (by omega) (by rw [hh_1]; rfl) (by decide) ?_
      refine lv_iconst (v := 1) hx hb dX5_hasRoom_118 (by decide) ?_
      have hlv_9 : (1 : Int32).toInt = 1 := rfl
      exact sj_zret hx hb hr hlocks (by decide +kernel) hS () ⟨⟨by decide, by decide⟩, (by unfold roomQ; omega)⟩ hH (sj_Knil hK) (Nat.le_of_ble_eq_true rfl) (Nat.le_of_ble_eq_true rfl) dX5_hasRoom_119
    · skip
      refine lv_tableIn (tgt := 104) hx hb dX5_hasRoom_1 (by omega) (by omega) (by rw [hh_1]; rfl) (by decide) ?_
      refine lv_aload_n hx hb dX5_hasRoom_104 rfl (lv_at hl 0 rfl) ?_
      have bx_10 : (0 : Int) ≤ (i 3 6).toInt ∧ (i 3 6).toInt ≤ 4 := hO 3 6
      refine h_geti (ci := 5) (C := RX5) (F := TX5) (N := 19) hx hb hts in5 hown hK hH (by decide) (rfl : kd 3 = 5) (by decide) rfl 6 (by decide) wd1 (fun _ h9 => h9) (by decide) rfl dX5_hasRoom_105 ?_
      refine lv_iconst (v := 4) hx hb dX5_hasRoom_108 (by decide) ?_
      refine lv_icmp_ge (tgt := 116) hx hb dX5_hasRoom_109 (by decide) (fun c_11 => ?_) (fun c_11 => ?_)
      · skip
        have h_12 := s_le (show (4 : Int32).toInt = 4 from rfl) (rfl : (i 3 6).toInt = _) c_11
        refine lv_iconst (v := 0) hx hb dX5_hasRoom_116 (by decide) ?_
        have hlv_13 : (0 : Int32).toInt = 0 := rfl
        exact sj_zret hx hb hr hlocks (by decide +kernel) hS () ⟨⟨by decide, by decide⟩, (by unfold roomQ; omega)⟩ hH (sj_Knil hK) (Nat.le_of_ble_eq_true rfl) (Nat.le_of_ble_eq_true rfl) dX5_hasRoom_117
      · skip
        have h_14 := s_nle (show (4 : Int32).toInt = 4 from rfl) (rfl : (i 3 6).toInt = _) c_11
        refine lv_iconst (v := 1) hx hb dX5_hasRoom_112 (by decide) ?_
        refine lv_goto (tgt := 117) hx hb dX5_hasRoom_113 (by decide) ?_
        have hlv_15 : (1 : Int32).toInt = 1 := rfl
        exact sj_zret hx hb hr hlocks (by decide +kernel) hS () ⟨⟨by decide, by decide⟩, (by unfold roomQ; omega)⟩ hH (sj_Knil hK) (Nat.le_of_ble_eq_true rfl) (Nat.le_of_ble_eq_true rfl) dX5_hasRoom_117
    · skip
      refine lv_tableIn (tgt := 118) hx hb dX5_hasRoom_1 (by omega) (by omega) (by rw [hh_1]; rfl) (by decide) ?_
      refine lv_iconst (v := 1) hx hb dX5_hasRoom_118 (by decide) ?_
      have hlv_16 : (1 : Int32).toInt = 1 := rfl
      exact sj_zret hx hb hr hlocks (by decide +kernel) hS () ⟨⟨by decide, by decide⟩, (by unfold roomQ; omega)⟩ hH (sj_Knil hK) (Nat.le_of_ble_eq_true rfl) (Nat.le_of_ble_eq_true rfl) dX5_hasRoom_119
    · skip
      refine lv_tableIn (tgt := 44) hx hb dX5_hasRoom_1 (by omega) (by omega) (by rw [hh_1]; rfl) (by decide) ?_
      refine lv_aload_n hx hb dX5_hasRoom_44 rfl (lv_at hl 0 rfl) ?_
      have bx_17 : (0 : Int) ≤ (i 3 8).toInt ∧ (i 3 8).toInt ≤ 12 := hO 3 8
      refine h_geti (ci := 5) (C := RX5) (F := TX5) (N := 19) hx hb hts in5 hown hK hH (by decide) (rfl : kd 3 = 5) (by decide) rfl 8 (by decide) wd2 (fun _ h9 => h9) (by decide) rfl dX5_hasRoom_45 ?_
      refine lv_bipush (v := 12) hx hb dX5_hasRoom_48 (by decide) ?_
      refine lv_icmp_ge (tgt := 57) hx hb dX5_hasRoom_50 (by decide) (fun c_18 => ?_) (fun c_18 => ?_)
      · skip
        have h_19 := s_le (show (12 : Int32).toInt = 12 from rfl) (rfl : (i 3 8).toInt = _) c_18
        refine lv_iconst (v := 0) hx hb dX5_hasRoom_57 (by decide) ?_
        have hlv_20 : (0 : Int32).toInt = 0 := rfl
        exact sj_zret hx hb hr hlocks (by decide +kernel) hS () ⟨⟨by decide, by decide⟩, (by unfold roomQ; omega)⟩ hH (sj_Knil hK) (Nat.le_of_ble_eq_true rfl) (Nat.le_of_ble_eq_true rfl) dX5_hasRoom_58
      · skip
        have h_21 := s_nle (show (12 : Int32).toInt = 12 from rfl) (rfl : (i 3 8).toInt = _) c_18
        refine lv_iconst (v := 1) hx hb dX5_hasRoom_53 (by decide) ?_
        refine lv_goto (tgt := 58) hx hb dX5_hasRoom_54 (by decide) ?_
        have hlv_22 : (1 : Int32).toInt = 1 := rfl
        exact sj_zret hx hb hr hlocks (by decide +kernel) hS () ⟨⟨by decide, by decide⟩, (by unfold roomQ; omega)⟩ hH (sj_Knil hK) (Nat.le_of_ble_eq_true rfl) (Nat.le_of_ble_eq_true rfl) dX5_hasRoom_58
    · skip
      refine lv_tableIn (tgt := 89) hx hb dX5_hasRoom_1 (by omega) (by omega) (by rw [hh_1]; rfl) (by decide) ?_
      refine lv_aload_n hx hb dX5_hasRoom_89 rfl (lv_at hl 0 rfl) ?_
      have bx_23 : (0 : Int) ≤ (i 3 12).toInt ∧ (i 3 12).toInt ≤ 12 := hO 3 12
      refine h_geti (ci := 5) (C := RX5) (F := TX5) (N := 19) hx hb hts in5 hown hK hH (by decide) (rfl : kd 3 = 5) (by decide) rfl 12 (by decide) wd3 (fun _ h9 => h9) (by decide) rfl dX5_hasRoom_90 ?_
      refine lv_bipush (v := 12) hx hb dX5_hasRoom_93 (by decide) ?_
      refine lv_icmp_ge (tgt := 102) hx hb dX5_hasRoom_95 (by decide) (fun c_24 => ?_) (fun c_24 => ?_)
      · skip
        have h_25 := s_le (show (12 : Int32).toInt = 12 from rfl) (rfl : (i 3 12).toInt = _) c_24
        refine lv_iconst (v := 0) hx hb dX5_hasRoom_102 (by decide) ?_
        have hlv_26 : (0 : Int32).toInt = 0 := rfl
        exact sj_zret hx hb hr hlocks (by decide +kernel) hS () ⟨⟨by decide, by decide⟩, (by unfold roomQ; omega)⟩ hH (sj_Knil hK) (Nat.le_of_ble_eq_true rfl) (Nat.le_of_ble_eq_true rfl) dX5_hasRoom_103
      · skip
        have h_27 := s_nle (show (12 : Int32).toInt = 12 from rfl) (rfl : (i 3 12).toInt = _) c_24
        refine lv_iconst (v := 1) hx hb dX5_hasRoom_98 (by decide) ?_
        refine lv_goto (tgt := 103) hx hb dX5_hasRoom_99 (by decide) ?_
        have hlv_28 : (1 : Int32).toInt = 1 := rfl
        exact sj_zret hx hb hr hlocks (by decide +kernel) hS () ⟨⟨by decide, by decide⟩, (by unfold roomQ; omega)⟩ hH (sj_Knil hK) (Nat.le_of_ble_eq_true rfl) (Nat.le_of_ble_eq_true rfl) dX5_hasRoom_103
    · skip
      refine lv_tableIn (tgt := 59) hx hb dX5_hasRoom_1 (by omega) (by omega) (by rw [hh_1]; rfl) (by decide) ?_
      refine lv_aload_n hx hb dX5_hasRoom_59 rfl (lv_at hl 0 rfl) ?_
      have bx_29 : (0 : Int) ≤ (i 3 10).toInt ∧ (i 3 10).toInt ≤ 30 := hO 3 10
      refine h_geti (ci := 5) (C := RX5) (F := TX5) (N := 19) hx hb hts in5 hown hK hH (by decide) (rfl : kd 3 = 5) (by decide) rfl 10 (by decide) wd4 (fun _ h9 => h9) (by decide) rfl dX5_hasRoom_60 ?_
      refine lv_bipush (v := 30) hx hb dX5_hasRoom_63 (by decide) ?_
      refine lv_icmp_ge (tgt := 72) hx hb dX5_hasRoom_65 (by decide) (fun c_30 => ?_) (fun c_30 => ?_)
      · skip
        have h_31 := s_le (show (30 : Int32).toInt = 30 from rfl) (rfl : (i 3 10).toInt = _) c_30
        refine lv_iconst (v := 0) hx hb dX5_hasRoom_72 (by decide) ?_
        have hlv_32 : (0 : Int32).toInt = 0 := rfl
        exact sj_zret hx hb hr hlocks (by decide +kernel) hS () ⟨⟨by decide, by decide⟩, (by unfold roomQ; omega)⟩ hH (sj_Knil hK) (Nat.le_of_ble_eq_true rfl) (Nat.le_of_ble_eq_true rfl) dX5_hasRoom_73
      · skip
        have h_33 := s_nle (show (30 : Int32).toInt = 30 from rfl) (rfl : (i 3 10).toInt = _) c_30
        refine lv_iconst (v := 1) hx hb dX5_hasRoom_68 (by decide) ?_
        refine lv_goto (tgt := 73) hx hb dX5_hasRoom_69 (by decide) ?_
        have hlv_34 : (1 : Int32).toInt = 1 := rfl
        exact sj_zret hx hb hr hlocks (by decide +kernel) hS () ⟨⟨by decide, by decide⟩, (by unfold roomQ; omega)⟩ hH (sj_Knil hK) (Nat.le_of_ble_eq_true rfl) (Nat.le_of_ble_eq_true rfl) dX5_hasRoom_73
