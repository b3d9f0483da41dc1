theorem dX12_step_0 : decode cX12_step 0 = .ok (.aload_n 0, 1) := by decide +kernel
theorem dX12_step_1 : decode cX12_step 1 = .ok (.getfield 99, 3) := by decide +kernel
theorem dX12_step_4 : decode cX12_step 4 = .ok (.bipush 30, 2) := by decide +kernel
theorem dX12_step_6 : decode cX12_step 6 = .ok (.if_icmp .ne 5, 3) := by decide +kernel
theorem dX12_step_11 : decode cX12_step 11 = .ok (.aload_n 0, 1) := by decide +kernel
theorem dX12_step_12 : decode cX12_step 12 = .ok (.getfield 19, 3) := by decide +kernel
theorem dX12_step_15 : decode cX12_step 15 = .ok (.iconst 1, 1) := by decide +kernel
theorem dX12_step_16 : decode cX12_step 16 = .ok (.aload_n 0, 1) := by decide +kernel
theorem dX12_step_17 : decode cX12_step 17 = .ok (.getfield 16, 3) := by decide +kernel
theorem dX12_step_20 : decode cX12_step 20 = .ok (.invokestatic 22, 3) := by decide +kernel
theorem dX12_step_23 : decode cX12_step 23 = .ok (.istore_n 2, 1) := by decide +kernel
theorem dX12_step_24 : decode cX12_step 24 = .ok (.aload_n 0, 1) := by decide +kernel
theorem dX12_step_25 : decode cX12_step 25 = .ok (.getfield 102, 3) := by decide +kernel
theorem dX12_step_28 : decode cX12_step 28 = .ok (.aload_n 0, 1) := by decide +kernel
theorem dX12_step_29 : decode cX12_step 29 = .ok (.getfield 99, 3) := by decide +kernel
theorem dX12_step_32 : decode cX12_step 32 = .ok (.aload_n 0, 1) := by decide +kernel
theorem dX12_step_33 : decode cX12_step 33 = .ok (.getfield 105, 3) := by decide +kernel
theorem dX12_step_36 : decode cX12_step 36 = .ok (.iastore, 1) := by decide +kernel
theorem dX12_step_37 : decode cX12_step 37 = .ok (.aload_n 0, 1) := by decide +kernel
theorem dX12_step_38 : decode cX12_step 38 = .ok (.getfield 108, 3) := by decide +kernel
theorem dX12_step_41 : decode cX12_step 41 = .ok (.aload_n 0, 1) := by decide +kernel
theorem dX12_step_42 : decode cX12_step 42 = .ok (.getfield 99, 3) := by decide +kernel
theorem dX12_step_45 : decode cX12_step 45 = .ok (.iload_n 1, 1) := by decide +kernel
theorem dX12_step_46 : decode cX12_step 46 = .ok (.iastore, 1) := by decide +kernel
theorem dX12_step_47 : decode cX12_step 47 = .ok (.aload_n 0, 1) := by decide +kernel
theorem dX12_step_48 : decode cX12_step 48 = .ok (.getfield 111, 3) := by decide +kernel
theorem dX12_step_51 : decode cX12_step 51 = .ok (.aload_n 0, 1) := by decide +kernel
theorem dX12_step_52 : decode cX12_step 52 = .ok (.getfield 99, 3) := by decide +kernel
theorem dX12_step_55 : decode cX12_step 55 = .ok (.aload_n 0, 1) := by decide +kernel
theorem dX12_step_56 : decode cX12_step 56 = .ok (.getfield 16, 3) := by decide +kernel
theorem dX12_step_59 : decode cX12_step 59 = .ok (.iload_n 2, 1) := by decide +kernel
theorem dX12_step_60 : decode cX12_step 60 = .ok (.isub, 1) := by decide +kernel
theorem dX12_step_61 : decode cX12_step 61 = .ok (.bipush 60, 2) := by decide +kernel
theorem dX12_step_63 : decode cX12_step 63 = .ok (.if_icmp .ge 12, 3) := by decide +kernel
theorem dX12_step_75 : decode cX12_step 75 = .ok (.bipush 60, 2) := by decide +kernel
theorem dX12_step_77 : decode cX12_step 77 = .ok (.iastore, 1) := by decide +kernel
theorem dX12_step_78 : decode cX12_step 78 = .ok (.iconst 0, 1) := by decide +kernel
theorem dX12_step_79 : decode cX12_step 79 = .ok (.istore_n 3, 1) := by decide +kernel
theorem dX12_step_80 : decode cX12_step 80 = .ok (.iload_n 3, 1) := by decide +kernel
theorem dX12_step_81 : decode cX12_step 81 = .ok (.aload_n 0, 1) := by decide +kernel
theorem dX12_step_82 : decode cX12_step 82 = .ok (.getfield 111, 3) := by decide +kernel
theorem dX12_step_85 : decode cX12_step 85 = .ok (.aload_n 0, 1) := by decide +kernel
theorem dX12_step_86 : decode cX12_step 86 = .ok (.getfield 99, 3) := by decide +kernel
theorem dX12_step_89 : decode cX12_step 89 = .ok (.iaload, 1) := by decide +kernel
theorem dX12_step_90 : decode cX12_step 90 = .ok (.if_icmp .ge 31, 3) := by decide +kernel
theorem dX12_step_121 : decode cX12_step 121 = .ok (.aload_n 0, 1) := by decide +kernel
theorem dX12_step_122 : decode cX12_step 122 = .ok (.aload_n 0, 1) := by decide +kernel
theorem dX12_step_123 : decode cX12_step 123 = .ok (.getfield 99, 3) := by decide +kernel
theorem dX12_step_126 : decode cX12_step 126 = .ok (.putfield 77, 3) := by decide +kernel
theorem dX12_step_129 : decode cX12_step 129 = .ok (.aload_n 0, 1) := by decide +kernel
theorem dX12_step_130 : decode cX12_step 130 = .ok (.dup, 1) := by decide +kernel
theorem dX12_step_131 : decode cX12_step 131 = .ok (.getfield 99, 3) := by decide +kernel
theorem dX12_step_134 : decode cX12_step 134 = .ok (.iconst 1, 1) := by decide +kernel
theorem dX12_step_135 : decode cX12_step 135 = .ok (.iadd, 1) := by decide +kernel
theorem dX12_step_136 : decode cX12_step 136 = .ok (.putfield 99, 3) := by decide +kernel
theorem dX12_step_139 : decode cX12_step 139 = .ok (.aload_n 0, 1) := by decide +kernel
theorem dX12_step_140 : decode cX12_step 140 = .ok (.aload_n 0, 1) := by decide +kernel
theorem dX12_step_141 : decode cX12_step 141 = .ok (.getfield 50, 3) := by decide +kernel
theorem dX12_step_144 : decode cX12_step 144 = .ok (.iconst 4, 1) := by decide +kernel
theorem dX12_step_145 : decode cX12_step 145 = .ok (.if_icmp .ge 7, 3) := by decide +kernel
theorem dX12_step_152 : decode cX12_step 152 = .ok (.iconst 5, 1) := by decide +kernel
theorem dX12_step_153 : decode cX12_step 153 = .ok (.putfield 50, 3) := by decide +kernel
theorem dX12_step_156 : decode cX12_step 156 = .ok (.iconst 0, 1) := by decide +kernel
theorem dX12_step_157 : decode cX12_step 157 = .ok (.ireturn, 1) := by decide +kernel
theorem dX12_step_148 : decode cX12_step 148 = .ok (.iconst 3, 1) := by decide +kernel
theorem dX12_step_149 : decode cX12_step 149 = .ok (.goto 4, 3) := by decide +kernel
theorem dX12_step_93 : decode cX12_step 93 = .ok (.aload_n 0, 1) := by decide +kernel
theorem dX12_step_94 : decode cX12_step 94 = .ok (.getfield 114, 3) := by decide +kernel
theorem dX12_step_97 : decode cX12_step 97 = .ok (.bipush 60, 2) := by decide +kernel
theorem dX12_step_99 : decode cX12_step 99 = .ok (.aload_n 0, 1) := by decide +kernel
theorem dX12_step_100 : decode cX12_step 100 = .ok (.getfield 99, 3) := by decide +kernel
theorem dX12_step_103 : decode cX12_step 103 = .ok (.imul, 1) := by decide +kernel
theorem dX12_step_104 : decode cX12_step 104 = .ok (.iload_n 3, 1) := by decide +kernel
theorem dX12_step_105 : decode cX12_step 105 = .ok (.iadd, 1) := by decide +kernel
theorem dX12_step_106 : decode cX12_step 106 = .ok (.aload_n 0, 1) := by decide +kernel
theorem dX12_step_107 : decode cX12_step 107 = .ok (.getfield 19, 3) := by decide +kernel
theorem dX12_step_110 : decode cX12_step 110 = .ok (.iload_n 2, 1) := by decide +kernel
theorem dX12_step_111 : decode cX12_step 111 = .ok (.iload_n 3, 1) := by decide +kernel
theorem dX12_step_112 : decode cX12_step 112 = .ok (.iadd, 1) := by decide +kernel
theorem dX12_step_113 : decode cX12_step 113 = .ok (.caload, 1) := by decide +kernel
theorem dX12_step_114 : decode cX12_step 114 = .ok (.castore, 1) := by decide +kernel
theorem dX12_step_115 : decode cX12_step 115 = .ok (.iinc 3 1, 3) := by decide +kernel
theorem dX12_step_118 : decode cX12_step 118 = .ok (.goto (-38), 3) := by decide +kernel
theorem dX12_step_66 : decode cX12_step 66 = .ok (.aload_n 0, 1) := by decide +kernel
theorem dX12_step_67 : decode cX12_step 67 = .ok (.getfield 16, 3) := by decide +kernel
theorem dX12_step_70 : decode cX12_step 70 = .ok (.iload_n 2, 1) := by decide +kernel
theorem dX12_step_71 : decode cX12_step 71 = .ok (.isub, 1) := by decide +kernel
theorem dX12_step_72 : decode cX12_step 72 = .ok (.goto 5, 3) := by decide +kernel
theorem dX12_step_9 : decode cX12_step 9 = .ok (.iconst 5, 1) := by decide +kernel
theorem dX12_step_10 : decode cX12_step 10 = .ok (.ireturn, 1) := by decide +kernel
theorem dX12_title_0 : decode cX12_title 0 = .ok (.iload_n 1, 1) := by decide +kernel
theorem dX12_title_1 : decode cX12_title 1 = .ok (.iconst 4, 1) := by decide +kernel
theorem dX12_title_2 : decode cX12_title 2 = .ok (.if_icmp .ne 11, 3) := by decide +kernel
theorem dX12_title_13 : decode cX12_title 13 = .ok (.iload_n 1, 1) := by decide +kernel
theorem dX12_title_14 : decode cX12_title 14 = .ok (.bipush 6, 2) := by decide +kernel
theorem dX12_title_16 : decode cX12_title 16 = .ok (.if_icmp .ne 12, 3) := by decide +kernel
theorem dX12_title_28 : decode cX12_title 28 = .ok (.iload_n 1, 1) := by decide +kernel
theorem dX12_title_29 : decode cX12_title 29 = .ok (.bipush 7, 2) := by decide +kernel
theorem dX12_title_31 : decode cX12_title 31 = .ok (.if_icmp .ne 14, 3) := by decide +kernel
theorem dX12_title_45 : decode cX12_title 45 = .ok (.iload_n 1, 1) := by decide +kernel
theorem dX12_title_46 : decode cX12_title 46 = .ok (.iconst 5, 1) := by decide +kernel
theorem dX12_title_47 : decode cX12_title 47 = .ok (.if_icmp .ge 44, 3) := by decide +kernel
theorem dX12_title_91 : decode cX12_title 91 = .ok (.iload_n 1, 1) := by decide +kernel
theorem dX12_title_92 : decode cX12_title 92 = .ok (.bipush 6, 2) := by decide +kernel
theorem dX12_title_94 : decode cX12_title 94 = .ok (.if_icmp .ne 67, 3) := by decide +kernel
theorem dX12_title_161 : decode cX12_title 161 = .ok (.aload_n 0, 1) := by decide +kernel
theorem dX12_title_162 : decode cX12_title 162 = .ok (.getfield 138, 3) := by decide +kernel
theorem dX12_title_165 : decode cX12_title 165 = .ok (.aload_n 0, 1) := by decide +kernel
theorem dX12_title_166 : decode cX12_title 166 = .ok (.getfield 123, 3) := by decide +kernel
theorem dX12_title_169 : decode cX12_title 169 = .ok (.aload_n 0, 1) := by decide +kernel
theorem dX12_title_170 : decode cX12_title 170 = .ok (.getfield 64, 3) := by decide +kernel
theorem dX12_title_173 : decode cX12_title 173 = .ok (.iastore, 1) := by decide +kernel
theorem dX12_title_174 : decode cX12_title 174 = .ok (.aload_n 0, 1) := by decide +kernel
theorem dX12_title_175 : decode cX12_title 175 = .ok (.getfield 141, 3) := by decide +kernel
theorem dX12_title_178 : decode cX12_title 178 = .ok (.aload_n 0, 1) := by decide +kernel
theorem dX12_title_179 : decode cX12_title 179 = .ok (.getfield 123, 3) := by decide +kernel
theorem dX12_title_182 : decode cX12_title 182 = .ok (.aload_n 0, 1) := by decide +kernel
theorem dX12_title_183 : decode cX12_title 183 = .ok (.getfield 120, 3) := by decide +kernel
theorem dX12_title_186 : decode cX12_title 186 = .ok (.iconst 1, 1) := by decide +kernel
theorem dX12_title_187 : decode cX12_title 187 = .ok (.isub, 1) := by decide +kernel
theorem dX12_title_188 : decode cX12_title 188 = .ok (.iastore, 1) := by decide +kernel
theorem dX12_title_189 : decode cX12_title 189 = .ok (.aload_n 0, 1) := by decide +kernel
theorem dX12_title_190 : decode cX12_title 190 = .ok (.bipush 100, 2) := by decide +kernel
theorem dX12_title_192 : decode cX12_title 192 = .ok (.aload_n 0, 1) := by decide +kernel
theorem dX12_title_193 : decode cX12_title 193 = .ok (.getfield 123, 3) := by decide +kernel
theorem dX12_title_196 : decode cX12_title 196 = .ok (.iadd, 1) := by decide +kernel
theorem dX12_title_197 : decode cX12_title 197 = .ok (.putfield 77, 3) := by decide +kernel
theorem dX12_title_200 : decode cX12_title 200 = .ok (.aload_n 0, 1) := by decide +kernel
theorem dX12_title_201 : decode cX12_title 201 = .ok (.dup, 1) := by decide +kernel
theorem dX12_title_202 : decode cX12_title 202 = .ok (.getfield 123, 3) := by decide +kernel
theorem dX12_title_205 : decode cX12_title 205 = .ok (.iconst 1, 1) := by decide +kernel
theorem dX12_title_206 : decode cX12_title 206 = .ok (.iadd, 1) := by decide +kernel
theorem dX12_title_207 : decode cX12_title 207 = .ok (.putfield 123, 3) := by decide +kernel
theorem dX12_title_210 : decode cX12_title 210 = .ok (.aload_n 0, 1) := by decide +kernel
theorem dX12_title_211 : decode cX12_title 211 = .ok (.bipush 6, 2) := by decide +kernel
theorem dX12_title_213 : decode cX12_title 213 = .ok (.putfield 50, 3) := by decide +kernel
theorem dX12_title_216 : decode cX12_title 216 = .ok (.aload_n 0, 1) := by decide +kernel
theorem dX12_title_217 : decode cX12_title 217 = .ok (.iconst 0, 1) := by decide +kernel
theorem dX12_title_218 : decode cX12_title 218 = .ok (.putfield 64, 3) := by decide +kernel
theorem dX12_title_221 : decode cX12_title 221 = .ok (.aload_n 0, 1) := by decide +kernel
theorem dX12_title_222 : decode cX12_title 222 = .ok (.iconst 0, 1) := by decide +kernel
theorem dX12_title_223 : decode cX12_title 223 = .ok (.putfield 46, 3) := by decide +kernel
theorem dX12_title_226 : decode cX12_title 226 = .ok (.iconst 0, 1) := by decide +kernel
theorem dX12_title_227 : decode cX12_title 227 = .ok (.ireturn, 1) := by decide +kernel
theorem dX12_title_97 : decode cX12_title 97 = .ok (.aload_n 0, 1) := by decide +kernel
theorem dX12_title_98 : decode cX12_title 98 = .ok (.getfield 129, 3) := by decide +kernel
theorem dX12_title_101 : decode cX12_title 101 = .ok (.aload_n 0, 1) := by decide +kernel
theorem dX12_title_102 : decode cX12_title 102 = .ok (.getfield 120, 3) := by decide +kernel
theorem dX12_title_105 : decode cX12_title 105 = .ok (.aload_n 0, 1) := by decide +kernel
theorem dX12_title_106 : decode cX12_title 106 = .ok (.getfield 64, 3) := by decide +kernel
theorem dX12_title_109 : decode cX12_title 109 = .ok (.iastore, 1) := by decide +kernel
theorem dX12_title_110 : decode cX12_title 110 = .ok (.aload_n 0, 1) := by decide +kernel
theorem dX12_title_111 : decode cX12_title 111 = .ok (.getfield 132, 3) := by decide +kernel
theorem dX12_title_114 : decode cX12_title 114 = .ok (.aload_n 0, 1) := by decide +kernel
theorem dX12_title_115 : decode cX12_title 115 = .ok (.getfield 120, 3) := by decide +kernel
theorem dX12_title_118 : decode cX12_title 118 = .ok (.iload_n 2, 1) := by decide +kernel
theorem dX12_title_119 : decode cX12_title 119 = .ok (.iastore, 1) := by decide +kernel
theorem dX12_title_120 : decode cX12_title 120 = .ok (.aload_n 0, 1) := by decide +kernel
theorem dX12_title_121 : decode cX12_title 121 = .ok (.getfield 135, 3) := by decide +kernel
theorem dX12_title_124 : decode cX12_title 124 = .ok (.aload_n 0, 1) := by decide +kernel
theorem dX12_title_125 : decode cX12_title 125 = .ok (.getfield 120, 3) := by decide +kernel
theorem dX12_title_128 : decode cX12_title 128 = .ok (.aload_n 0, 1) := by decide +kernel
theorem dX12_title_129 : decode cX12_title 129 = .ok (.getfield 117, 3) := by decide +kernel
theorem dX12_title_132 : decode cX12_title 132 = .ok (.iconst 1, 1) := by decide +kernel
theorem dX12_title_133 : decode cX12_title 133 = .ok (.isub, 1) := by decide +kernel
theorem dX12_title_134 : decode cX12_title 134 = .ok (.iastore, 1) := by decide +kernel
theorem dX12_title_135 : decode cX12_title 135 = .ok (.aload_n 0, 1) := by decide +kernel
theorem dX12_title_136 : decode cX12_title 136 = .ok (.aload_n 0, 1) := by decide +kernel
theorem dX12_title_137 : decode cX12_title 137 = .ok (.getfield 120, 3) := by decide +kernel
theorem dX12_title_140 : decode cX12_title 140 = .ok (.putfield 105, 3) := by decide +kernel
theorem dX12_title_143 : decode cX12_title 143 = .ok (.aload_n 0, 1) := by decide +kernel
theorem dX12_title_144 : decode cX12_title 144 = .ok (.dup, 1) := by decide +kernel
theorem dX12_title_145 : decode cX12_title 145 = .ok (.getfield 120, 3) := by decide +kernel
theorem dX12_title_148 : decode cX12_title 148 = .ok (.iconst 1, 1) := by decide +kernel
theorem dX12_title_149 : decode cX12_title 149 = .ok (.iadd, 1) := by decide +kernel
theorem dX12_title_150 : decode cX12_title 150 = .ok (.putfield 120, 3) := by decide +kernel
theorem dX12_title_153 : decode cX12_title 153 = .ok (.aload_n 0, 1) := by decide +kernel
theorem dX12_title_154 : decode cX12_title 154 = .ok (.iconst 4, 1) := by decide +kernel
theorem dX12_title_155 : decode cX12_title 155 = .ok (.putfield 50, 3) := by decide +kernel
theorem dX12_title_158 : decode cX12_title 158 = .ok (.goto 58, 3) := by decide +kernel
theorem dX12_title_50 : decode cX12_title 50 = .ok (.aload_n 0, 1) := by decide +kernel
theorem dX12_title_51 : decode cX12_title 51 = .ok (.getfield 126, 3) := by decide +kernel
theorem dX12_title_54 : decode cX12_title 54 = .ok (.aload_n 0, 1) := by decide +kernel
theorem dX12_title_55 : decode cX12_title 55 = .ok (.getfield 117, 3) := by decide +kernel
theorem dX12_title_58 : decode cX12_title 58 = .ok (.aload_n 0, 1) := by decide +kernel
theorem dX12_title_59 : decode cX12_title 59 = .ok (.getfield 64, 3) := by decide +kernel
theorem dX12_title_62 : decode cX12_title 62 = .ok (.iastore, 1) := by decide +kernel
theorem dX12_title_63 : decode cX12_title 63 = .ok (.aload_n 0, 1) := by decide +kernel
theorem dX12_title_64 : decode cX12_title 64 = .ok (.dup, 1) := by decide +kernel
theorem dX12_title_65 : decode cX12_title 65 = .ok (.getfield 117, 3) := by decide +kernel
theorem dX12_title_68 : decode cX12_title 68 = .ok (.iconst 1, 1) := by decide +kernel
theorem dX12_title_69 : decode cX12_title 69 = .ok (.iadd, 1) := by decide +kernel
theorem dX12_title_70 : decode cX12_title 70 = .ok (.putfield 117, 3) := by decide +kernel
theorem dX12_title_73 : decode cX12_title 73 = .ok (.aload_n 0, 1) := by decide +kernel
theorem dX12_title_74 : decode cX12_title 74 = .ok (.iload_n 1, 1) := by decide +kernel
theorem dX12_title_75 : decode cX12_title 75 = .ok (.iconst 3, 1) := by decide +kernel
theorem dX12_title_76 : decode cX12_title 76 = .ok (.if_icmp .ne 7, 3) := by decide +kernel
theorem dX12_title_83 : decode cX12_title 83 = .ok (.bipush 8, 2) := by decide +kernel
theorem dX12_title_85 : decode cX12_title 85 = .ok (.putfield 50, 3) := by decide +kernel
theorem dX12_title_88 : decode cX12_title 88 = .ok (.goto 128, 3) := by decide +kernel
theorem dX12_title_79 : decode cX12_title 79 = .ok (.iconst 1, 1) := by decide +kernel
theorem dX12_title_80 : decode cX12_title 80 = .ok (.goto 5, 3) := by decide +kernel
theorem dX12_title_34 : decode cX12_title 34 = .ok (.aload_n 0, 1) := by decide +kernel
theorem dX12_title_35 : decode cX12_title 35 = .ok (.getfield 123, 3) := by decide +kernel
theorem dX12_title_38 : decode cX12_title 38 = .ok (.bipush 12, 2) := by decide +kernel
theorem dX12_title_40 : decode cX12_title 40 = .ok (.if_icmp .ne 5, 3) := by decide +kernel
theorem dX12_title_43 : decode cX12_title 43 = .ok (.iconst 5, 1) := by decide +kernel
theorem dX12_title_44 : decode cX12_title 44 = .ok (.ireturn, 1) := by decide +kernel
theorem dX12_title_19 : decode cX12_title 19 = .ok (.aload_n 0, 1) := by decide +kernel
theorem dX12_title_20 : decode cX12_title 20 = .ok (.getfield 120, 3) := by decide +kernel
theorem dX12_title_23 : decode cX12_title 23 = .ok (.bipush 12, 2) := by decide +kernel
theorem dX12_title_25 : decode cX12_title 25 = .ok (.if_icmp .eq 18, 3) := by decide +kernel
theorem dX12_title_5 : decode cX12_title 5 = .ok (.aload_n 0, 1) := by decide +kernel
theorem dX12_title_6 : decode cX12_title 6 = .ok (.getfield 117, 3) := by decide +kernel
theorem dX12_title_9 : decode cX12_title 9 = .ok (.iconst 5, 1) := by decide +kernel
theorem dX12_title_10 : decode cX12_title 10 = .ok (.if_icmp .eq 33, 3) := by decide +kernel
theorem gX12_step_X12_begin : GoodIn wsX12_step (va_wsS RX12 22 yX12_begin wsX12_begin) := goodIn_app (goodIn_sub (List.forall_mem_cons.mpr ⟨(List.mem_cons_of_mem _ (List.mem_append_left _ lm10)), List.forall_mem_cons.mpr ⟨(List.mem_cons_of_mem _ (List.mem_append_left _ lm11)), List.forall_mem_cons.mpr ⟨(List.mem_cons_of_mem _ (List.mem_append_left _ lm12)), (fun _ h => absurd h List.not_mem_nil)⟩⟩⟩) (by decide +kernel)) (goodIn_sub (by unfold wsX12_begin; exact List.forall_mem_cons.mpr ⟨(List.mem_cons_of_mem _ (List.mem_append_left _ lm13)), (fun _ h => absurd h List.not_mem_nil)⟩) gw_X12_begin)
set_option maxHeartbeats 2000000 in
set_option maxRecDepth 100000 in
theorem m_step (l : Launch) (D : va_G) (g : Nat → Nat) (ka : Nat → ClassId) (ad : Nat → Nat) (i : Nat → Nat → Int32) (r : Nat → Nat → Nat) (L : Nat → Nat → Int64) (d : Nat → Nat → UInt64) (x : Int32) (hO : OkI i) (hR : RS r) (sz : Nat) (hw1 : 1 ≤ (i 36 4).toInt) : Met l yX12_step wsX12_step ({ frames := 1, cells := 0, slots := 0, locals := 23 }) (va_Pc [.ref (g 36), .int x] (sj_B D (hwc g ka i r L d) (hT ka) sz (gx ad (va_A (hwc g ka i r L d) sz)))) (sj_Qi (S := (Nat → Nat → Int32)) D (fun v u => OkI u ∧ (∀ a b, ¬ ((a = 36 ∧ (b = 8 ∨ b = 17 ∨ b = 27)) ∨ a = 386 ∨ a = 387 ∨ a = 388 ∨ a = 389) → u a b = i a b) ∧ ((0 : Int) ≤ v.toInt ∧ v.toInt ≤ 5) ∧ ((v.toInt = 5 ∧ (i 36 17).toInt = 30 ∧ u = i) ∨ (v.toInt = 0 ∧ (i 36 17).toInt < 30 ∧ stM i u))) (fun u => hwc g ka u r L d) (fun _ => []) (va_A (hwc g ka i r L d) sz)) 0 0 (va_A (hwc g ka i r L d) sz) := by
  refine x_met (Ex := gx ad) (cc := cX12_step) (maxL := 4) (ret := (some .int)) (by decide) rfl (Nat.le_of_ble_eq_true rfl) ?_
  intro p e s m below meth c A ls hx hb hr hml hts hown hlocks hA hS hH hK hE hl
  have hown : s.vm.findClass RX12 = some m.cls := hown
  have in12 : ∀ w ∈ wsX120, w ∈ wsX12_step := (fun _ h => (List.mem_cons_of_mem _ (List.mem_append_right _ h)))
  have wd0 := hts (.fieldLink RX12 99 "StoryDeskModel" "steps" "I") (List.mem_cons_of_mem _ (List.mem_append_left _ lm0))
  have wd1 := hts (.fieldLink RX12 19 "StoryDeskModel" "line" "[C") (List.mem_cons_of_mem _ (List.mem_append_left _ lm1))
  have wd2 := hts (.fieldLink RX12 16 "StoryDeskModel" "width" "I") (List.mem_cons_of_mem _ (List.mem_append_left _ lm2))
  have wd3 := hts (.fieldLink RX12 102 "StoryDeskModel" "stepOwner" "[I") (List.mem_cons_of_mem _ (List.mem_append_left _ lm3))
  have wd4 := hts (.fieldLink RX12 105 "StoryDeskModel" "owner" "I") (List.mem_cons_of_mem _ (List.mem_append_left _ lm4))
  have wd5 := hts (.fieldLink RX12 108 "StoryDeskModel" "stepLine" "[I") (List.mem_cons_of_mem _ (List.mem_append_left _ lm5))
  have wd6 := hts (.fieldLink RX12 111 "StoryDeskModel" "stepSize" "[I") (List.mem_cons_of_mem _ (List.mem_append_left _ lm6))
  have wd7 := hts (.fieldLink RX12 77 "StoryDeskModel" "rowsFor" "I") (List.mem_cons_of_mem _ (List.mem_append_left _ lm8))
  have wd8 := hts (.fieldLink RX12 50 "StoryDeskModel" "state" "I") (List.mem_cons_of_mem _ (List.mem_append_left _ lm9))
  have wd9 := hts (.fieldLink RX12 114 "StoryDeskModel" "stepText" "[C") (List.mem_cons_of_mem _ (List.mem_append_left _ lm7))
  have hl : lv_has ls 4 [(0, .ref (g 36)), (1, .int x)] := hl
  have hK : va_K D vwCl (hT ka) s := hK
  have hg_1 := s_rng x
  have hw4 : (0 : Int) ≤ (i 36 4).toInt ∧ (i 36 4).toInt ≤ 480 := hO 36 4
  have hd7 : (0 : Int) ≤ (i 36 7).toInt ∧ (i 36 7).toInt ≤ 1 := hO 36 7
  have hb17 : (0 : Int) ≤ (i 36 17).toInt ∧ (i 36 17).toInt ≤ 30 := hO 36 17
  refine lv_aload_n hx hb dX12_step_0 rfl (lv_at hl 0 rfl) ?_
  have bx_2 : (0 : Int) ≤ (i 36 17).toInt ∧ (i 36 17).toInt ≤ 30 := hO 36 17
  refine h_geti (ci := 12) (C := RX12) (F := TX12) (N := 86) hx hb hts in12 hown hK hH (by decide) (rfl : kd 36 = 12) (by decide) rfl 17 (by decide) wd0 (fun _ h9 => h9) (by decide) rfl dX12_step_1 ?_
  refine lv_bipush (v := 30) hx hb dX12_step_4 (by decide) ?_
  refine lv_icmp_ne (tgt := 11) hx hb dX12_step_6 (by decide) (fun c_3 => ?_) (fun c_3 => ?_)
  · skip
    have h_4 := s_ne (rfl : (i 36 17).toInt = _) (show (30 : Int32).toInt = 30 from rfl) c_3
    refine lv_aload_n hx hb dX12_step_11 rfl (lv_at hl 0 rfl) ?_
    refine h_getr (ci := 12) (C := RX12) (F := TX12) (N := 86) hx hb hts in12 hown hK hH (by decide) (rfl : kd 36 = 12) (by decide) rfl 3 (by decide) wd1 (fun _ h9 => h9) (by decide) rfl (t := 380) (hR 36 3 rfl) (by decide) dX12_step_12 ?_
    refine lv_iconst (v := 1) hx hb dX12_step_15 (by decide) ?_
    refine lv_aload_n hx hb dX12_step_16 rfl (lv_at hl 0 rfl) ?_
    have bx_5 : (0 : Int) ≤ (i 36 4).toInt ∧ (i 36 4).toInt ≤ 480 := hO 36 4
    refine h_geti (ci := 12) (C := RX12) (F := TX12) (N := 86) hx hb hts in12 hown hK hH (by decide) (rfl : kd 36 = 12) (by decide) rfl 4 (by decide) wd2 (fun _ h9 => h9) (by decide) rfl dX12_step_17 ?_
    have hl_6 : (1 : Int32).toInt = 1 := rfl
    refine x_calli (va_runS (As := [.ref (g 380), .int 1, .int (i 36 4)]) (rest := []) ⟨hx, hb, hml, hown, hts⟩ (m_begin_line l D g ka ad i r L d 1 (i 36 4) hO hR s.heap.size (by first | omega | decide) (by first | omega | decide) (by first | omega | decide)) (cwS 3 hts gX12_step_X12_begin rfl rfl rfl (by decide +kernel) ⟨(Nat.le_of_ble_eq_true rfl), (Nat.le_of_ble_eq_true rfl)⟩) (x_preS hH hK gxb (gxw hE hS (x_F hH hS hA))) rfl rfl hl.1 rfl (lv_room (Nat.le_of_ble_eq_true rfl)) dX12_step_20 ⟨(Nat.le_of_ble_eq_true rfl), (Nat.le_of_ble_eq_true rfl)⟩) hH hS hA rfl rfl (fun r_7 _ H locs hw_8 hH hS => ?_)
    obtain ⟨hr_10, hx2_11⟩ := hw_8
    have hr_10 : (0 : Int) ≤ r_7.toInt ∧ r_7.toInt ≤ 480 := hr_10
    have hsk_12 := hx2_11.1
    have hsk_13 := hx2_11.2.1
    refine lv_istore_n (lv' := [(2, .int r_7), (0, .ref (g 36)), (1, .int x)]) hx hb dX12_step_23 rfl hl (by decide) rfl (fun ls hl => ?_)
    refine lv_aload_n hx hb dX12_step_24 rfl (lv_at hl 1 rfl) ?_
    refine h_getr (ci := 12) (C := RX12) (F := TX12) (N := 86) hx hb hts in12 hown hK hH (by decide) (rfl : kd 36 = 12) (by decide) rfl 19 (by decide) wd3 (fun _ h9 => h9) (by decide) rfl (t := 386) (hR 36 19 rfl) (by decide) dX12_step_25 ?_
    refine lv_aload_n hx hb dX12_step_28 rfl (lv_at hl 1 rfl) ?_
    refine h_geti (ci := 12) (C := RX12) (F := TX12) (N := 86) hx hb hts in12 hown hK hH (by decide) (rfl : kd 36 = 12) (by decide) rfl 17 (by decide) wd0 (fun _ h9 => h9) (by decide) rfl dX12_step_29 ?_
    refine lv_aload_n hx hb dX12_step_32 rfl (lv_at hl 1 rfl) ?_
    have bx_14 : (0 : Int) ≤ (i 36 18).toInt ∧ (i 36 18).toInt ≤ 24 := hO 36 18
    refine h_geti (ci := 12) (C := RX12) (F := TX12) (N := 86) hx hb hts in12 hown hK hH (by decide) (rfl : kd 36 = 12) (by decide) rfl 18 (by decide) wd4 (fun _ h9 => h9) (by decide) rfl dX12_step_33 ?_
    have hO_15 := okp hO (n := 386) (k := ((i 36 17).toInt).toNat) (v := (i 36 18)) (show (-2147483648 : Int) ≤ ((i 36 18) : Int32).toInt ∧ ((i 36 18) : Int32).toInt ≤ 2147483647 from s_rng (i 36 18))
    refine h_iast hx hb hK hH hS (by decide) (rfl : kd 386 = 13) (s_vin (N := 30) (rfl : (i 36 17).toInt = _) (rfl : ln 386 = 30) (by omega) (by omega)) dX12_step_36 (fun H locs hH hS => ?_)
    rw [s_cl (show (i 36 17).toInt = (i 36 17).toInt by omega)] at hH
    refine lv_aload_n hx hb dX12_step_37 rfl (lv_at hl 1 rfl) ?_
    refine h_getr (ci := 12) (C := RX12) (F := TX12) (N := 86) hx hb hts in12 hown hK hH (by decide) (rfl : kd 36 = 12) (by decide) rfl 20 (by decide) wd5 (fun _ h9 => h9) (by decide) rfl (t := 387) (hR 36 20 rfl) (by decide) dX12_step_38 ?_
    refine lv_aload_n hx hb dX12_step_41 rfl (lv_at hl 1 rfl) ?_
    refine h_geti (ci := 12) (C := RX12) (F := TX12) (N := 86) hx hb hts in12 hown hK hH (by decide) (rfl : kd 36 = 12) (by decide) rfl 17 (by decide) wd0 (fun _ h9 => h9) (by decide) rfl dX12_step_42 ?_
    refine sj_i (y := (i 36 17)) (congrFun (up2_n _ _ (by decide)) _) ?_
    refine lv_iload_n hx hb dX12_step_45 rfl (lv_at hl 2 rfl) ?_
    have hO_16 := okp hO_15 (n := 387) (k := ((i 36 17).toInt).toNat) (v := x) (show (-2147483648 : Int) ≤ (x : Int32).toInt ∧ (x : Int32).toInt ≤ 2147483647 from s_rng x)
    refine h_iast hx hb hK hH hS (by decide) (rfl : kd 387 = 13) (s_vin (N := 30) (rfl : (i 36 17).toInt = _) (rfl : ln 387 = 30) (by omega) (by omega)) dX12_step_46 (fun H locs hH hS => ?_)
    rw [s_cl (show (i 36 17).toInt = (i 36 17).toInt by omega)] at hH
    refine lv_aload_n hx hb dX12_step_47 rfl (lv_at hl 1 rfl) ?_
    refine h_getr (ci := 12) (C := RX12) (F := TX12) (N := 86) hx hb hts in12 hown hK hH (by decide) (rfl : kd 36 = 12) (by decide) rfl 21 (by decide) wd6 (fun _ h9 => h9) (by decide) rfl (t := 388) (hR 36 21 rfl) (by decide) dX12_step_48 ?_
    refine lv_aload_n hx hb dX12_step_51 rfl (lv_at hl 1 rfl) ?_
    refine h_geti (ci := 12) (C := RX12) (F := TX12) (N := 86) hx hb hts in12 hown hK hH (by decide) (rfl : kd 36 = 12) (by decide) rfl 17 (by decide) wd0 (fun _ h9 => h9) (by decide) rfl dX12_step_52 ?_
    refine sj_i (y := (i 36 17)) ((congrFun (up2_n _ _ (by decide)) _).trans (congrFun (up2_n _ _ (by decide)) _)) ?_
    refine lv_aload_n hx hb dX12_step_55 rfl (lv_at hl 1 rfl) ?_
    refine h_geti (ci := 12) (C := RX12) (F := TX12) (N := 86) hx hb hts in12 hown hK hH (by decide) (rfl : kd 36 = 12) (by decide) rfl 4 (by decide) wd2 (fun _ h9 => h9) (by decide) rfl dX12_step_56 ?_
    refine sj_i (y := (i 36 4)) ((congrFun (up2_n _ _ (by decide)) _).trans (congrFun (up2_n _ _ (by decide)) _)) ?_
    refine lv_iload_n hx hb dX12_step_59 rfl (lv_at hl 0 rfl) ?_
    refine lv_isub hx hb dX12_step_60 ?_
    obtain ⟨z_17, ez_17, hz_17⟩ := s_sub (rfl : (i 36 4).toInt = _) (rfl : r_7.toInt = _) (by omega) (by omega)
    refine sj_i ez_17 ?_
    refine lv_bipush (v := 60) hx hb dX12_step_61 (by decide) ?_
    refine lv_icmp_ge (tgt := 75) hx hb dX12_step_63 (by decide) (fun c_18 => ?_) (fun c_18 => ?_)
    · skip
      have h_19 := s_le (show (60 : Int32).toInt = 60 from rfl) (rfl : z_17.toInt = _) c_18
      refine lv_bipush (v := 60) hx hb dX12_step_75 (by decide) ?_
      have hO_20 := okp hO_16 (n := 388) (k := ((i 36 17).toInt).toNat) (v := 60) (show (0 : Int) ≤ (60 : Int32).toInt ∧ (60 : Int32).toInt ≤ 60 from ⟨by decide, by decide⟩)
      refine h_iast hx hb hK hH hS (by decide) (rfl : kd 388 = 13) (s_vin (N := 30) (rfl : (i 36 17).toInt = _) (rfl : ln 388 = 30) (by omega) (by omega)) dX12_step_77 (fun H locs hH hS => ?_)
      rw [s_cl (show (i 36 17).toInt = (i 36 17).toInt by omega)] at hH
      refine lv_iconst (v := 0) hx hb dX12_step_78 (by decide) ?_
      refine lv_istore_n (lv' := [(3, .int 0), (2, .int r_7), (0, .ref (g 36)), (1, .int x)]) hx hb dX12_step_79 rfl hl (by decide) rfl (fun ls hl => ?_)
      -- loop at 80
      have lp_21 : ∀ (fuel_lp_21 : Nat) (f : Int32) (j1 : Nat → Nat → Int32) (H : Heap) (locs : List Loc) (ls : Array Slot), (60 - f.toInt).toNat < fuel_lp_21 → (0 : Int) ≤ f.toInt ∧ f.toInt ≤ 60 → 0 ≤ f.toInt → OkI j1 → (∀ a b, ¬ (a = 389) → j1 a b = (up2 (up2 (up2 i 386 ((i 36 17).toInt).toNat (i 36 18)) 387 ((i 36 17).toInt).toNat x) 388 ((i 36 17).toInt).toNat 60) a b) → lv_has ls 4 [(3, .int f), (2, .int r_7), (0, .ref (g 36)), (1, .int x)] → sj_H D A (hwc g ka j1 r L d) H → va_S A s.heap H locs → W p l e (headSpec wsX12_step ({ frames := 1, cells := 0, slots := 0, locals := 23 })).room s m ([.ref (g 36), .int x] : List Value).toArray below meth c H locs 0 0 (MQ below (sj_Qi (S := (Nat → Nat → Int32)) D (fun v u => OkI u ∧ (∀ a b, ¬ ((a = 36 ∧ (b = 8 ∨ b = 17 ∨ b = 27)) ∨ a = 386 ∨ a = 387 ∨ a = 388 ∨ a = 389) → u a b = i a b) ∧ ((0 : Int) ≤ v.toInt ∧ v.toInt ≤ 5) ∧ ((v.toInt = 5 ∧ (i 36 17).toInt = 30 ∧ u = i) ∨ (v.toInt = 0 ∧ (i 36 17).toInt < 30 ∧ stM i u))) (fun u => hwc g ka u r L d) (fun _ => []) A) ([.ref (g 36), .int x] : List Value).toArray s 0 0 A) (F0 m 80 ls []) := by
        intro fuel_lp_21
        induction fuel_lp_21 with
        | zero => intros; omega
        | succ fuel_lp_21 ih_lp_21 =>
          intro f j1 H locs ls hm hr_f hi_lp_21_0 hO_j1 hfr_j1 hl hH hS
          refine lv_iload_n hx hb dX12_step_80 rfl (lv_at hl 0 rfl) ?_
          refine lv_aload_n hx hb dX12_step_81 rfl (lv_at hl 2 rfl) ?_
          refine h_getr (ci := 12) (C := RX12) (F := TX12) (N := 86) hx hb hts in12 hown hK hH (by decide) (rfl : kd 36 = 12) (by decide) rfl 21 (by decide) wd6 (fun _ h9 => h9) (by decide) rfl (t := 388) (hR 36 21 rfl) (by decide) dX12_step_82 ?_
          refine lv_aload_n hx hb dX12_step_85 rfl (lv_at hl 2 rfl) ?_
          refine h_geti (ci := 12) (C := RX12) (F := TX12) (N := 86) hx hb hts in12 hown hK hH (by decide) (rfl : kd 36 = 12) (by decide) rfl 17 (by decide) wd0 (fun _ h9 => h9) (by decide) rfl dX12_step_86 ?_
          refine sj_i (y := (i 36 17)) ((hfr_j1 36 17 (by omega)).trans ((congrFun (up2_n _ _ (by decide)) _).trans ((congrFun (up2_n _ _ (by decide)) _).trans (congrFun (up2_n _ _ (by decide)) _)))) ?_
          refine h_iald hx hb hK hH (by decide) (rfl : kd 388 = 13) (s_vin (N := 30) (rfl : (i 36 17).toInt = _) (rfl : ln 388 = 30) (by omega) (by omega)) dX12_step_89 ?_
          have ek_22 : (i 36 17).toNatClampNeg = ((i 36 17).toInt).toNat := (s_cl (show (i 36 17).toInt = (i 36 17).toInt by omega))
          refine sj_i (y := 60) (by rw [ek_22]; exact ((hfr_j1 388 ((i 36 17).toInt).toNat (by omega)).trans (up2_at _ _ _ _))) ?_
          refine lv_icmp_ge (tgt := 121) hx hb dX12_step_90 (by decide) (fun c_23 => ?_) (fun c_23 => ?_)
          · skip
            have h_24 := s_le (show (60 : Int32).toInt = 60 from rfl) (rfl : f.toInt = _) c_23
            refine lv_aload_n hx hb dX12_step_121 rfl (lv_at hl 2 rfl) ?_
            refine lv_aload_n hx hb dX12_step_122 rfl (lv_at hl 2 rfl) ?_
            refine h_geti (ci := 12) (C := RX12) (F := TX12) (N := 86) hx hb hts in12 hown hK hH (by decide) (rfl : kd 36 = 12) (by decide) rfl 17 (by decide) wd0 (fun _ h9 => h9) (by decide) rfl dX12_step_123 ?_
            refine sj_i (y := (i 36 17)) ((hfr_j1 36 17 (by omega)).trans ((congrFun (up2_n _ _ (by decide)) _).trans ((congrFun (up2_n _ _ (by decide)) _).trans (congrFun (up2_n _ _ (by decide)) _)))) ?_
            have hO_25 := okp hO_j1 (n := 36) (k := 27) (v := (i 36 17)) (show (0 : Int) ≤ ((i 36 17) : Int32).toInt ∧ ((i 36 17) : Int32).toInt ≤ 111 from ⟨by omega, by omega⟩)
            refine h_puti (ty := .int) (ci := 12) (C := RX12) (F := TX12) (N := 86) hx hb hts in12 tyX12 tyX12_ok nmX12 hown hK hH hS (by decide) (rfl : kd 36 = 12) (by decide) rfl 27 (by decide) wd7 (fun _ h9 => h9) rfl (by decide +kernel) rfl rfl (by decide) rfl dX12_step_126 (fun H locs hH hS => ?_)
            refine lv_aload_n hx hb dX12_step_129 rfl (lv_at hl 2 rfl) ?_
            refine lv_dup hx hb dX12_step_130 rfl ?_
            refine h_geti (ci := 12) (C := RX12) (F := TX12) (N := 86) hx hb hts in12 hown hK hH (by decide) (rfl : kd 36 = 12) (by decide) rfl 17 (by decide) wd0 (fun _ h9 => h9) (by decide) rfl dX12_step_131 ?_
            refine sj_i (y := (i 36 17)) ((up2_k _ _ (by decide)).trans ((hfr_j1 36 17 (by omega)).trans ((congrFun (up2_n _ _ (by decide)) _).trans ((congrFun (up2_n _ _ (by decide)) _).trans (congrFun (up2_n _ _ (by decide)) _))))) ?_
            refine lv_iconst (v := 1) hx hb dX12_step_134 (by decide) ?_
            refine lv_iadd hx hb dX12_step_135 ?_
            obtain ⟨z_26, ez_26, hz_26⟩ := s_add (rfl : (i 36 17).toInt = _) (show (1 : Int32).toInt = 1 from rfl) (by omega) (by omega)
            refine sj_i ez_26 ?_
            have hO_27 := okp hO_25 (n := 36) (k := 17) (v := z_26) (show (0 : Int) ≤ (z_26 : Int32).toInt ∧ (z_26 : Int32).toInt ≤ 30 from ⟨by omega, by omega⟩)
            refine h_puti (ty := .int) (ci := 12) (C := RX12) (F := TX12) (N := 86) hx hb hts in12 tyX12 tyX12_ok nmX12 hown hK hH hS (by decide) (rfl : kd 36 = 12) (by decide) rfl 17 (by decide) wd0 (fun _ h9 => h9) rfl (by decide +kernel) rfl rfl (by decide) rfl dX12_step_136 (fun H locs hH hS => ?_)
            refine lv_aload_n hx hb dX12_step_139 rfl (lv_at hl 2 rfl) ?_
            refine lv_aload_n hx hb dX12_step_140 rfl (lv_at hl 2 rfl) ?_
            have bx_28 : (0 : Int) ≤ (i 36 8).toInt ∧ (i 36 8).toInt ≤ 8 := hO 36 8
            refine h_geti (ci := 12) (C := RX12) (F := TX12) (N := 86) hx hb hts in12 hown hK hH (by decide) (rfl : kd 36 = 12) (by decide) rfl 8 (by decide) wd8 (fun _ h9 => h9) (by decide) rfl dX12_step_141 ?_
            refine sj_i (y := (i 36 8)) ((up2_k _ _ (by decide)).trans ((up2_k _ _ (by decide)).trans ((hfr_j1 36 8 (by omega)).trans ((congrFun (up2_n _ _ (by decide)) _).trans ((congrFun (up2_n _ _ (by decide)) _).trans (congrFun (up2_n _ _ (by decide)) _)))))) ?_
            refine lv_iconst (v := 4) hx hb dX12_step_144 (by decide) ?_
            refine lv_icmp_ge (tgt := 152) hx hb dX12_step_145 (by decide) (fun c_29 => ?_) (fun c_29 => ?_)
            · skip
              have h_30 := s_le (show (4 : Int32).toInt = 4 from rfl) (rfl : (i 36 8).toInt = _) c_29
              refine lv_iconst (v := 5) hx hb dX12_step_152 (by decide) ?_
              have hO_31 := okp hO_27 (n := 36) (k := 8) (v := 5) (show (0 : Int) ≤ (5 : Int32).toInt ∧ (5 : Int32).toInt ≤ 8 from ⟨by decide, by decide⟩)
              refine h_puti (ty := .int) (ci := 12) (C := RX12) (F := TX12) (N := 86) hx hb hts in12 tyX12 tyX12_ok nmX12 hown hK hH hS (by decide) (rfl : kd 36 = 12) (by decide) rfl 8 (by decide) wd8 (fun _ h9 => h9) rfl (by decide +kernel) rfl rfl (by decide) rfl dX12_step_153 (fun H locs hH hS => ?_)
              refine lv_iconst (v := 0) hx hb dX12_step_156 (by decide) ?_
              have hp_32 : ((up2 (up2 (up2 j1 36 27 (i 36 17)) 36 17 z_26) 36 8 5) 36 17).toInt = (z_26 : Int32).toInt := congrArg Int32.toInt (((up2_k _ _ (by decide)).trans (up2_at _ _ _ _)))
              have hp_33 : ((up2 (up2 (up2 j1 36 27 (i 36 17)) 36 17 z_26) 36 8 5) 36 27).toInt = ((i 36 17) : Int32).toInt := congrArg Int32.toInt (((up2_k _ _ (by decide)).trans ((up2_k _ _ (by decide)).trans (up2_at _ _ _ _))))
              have hp_34 : ((up2 (up2 (up2 j1 36 27 (i 36 17)) 36 17 z_26) 36 8 5) 36 8).toInt = (5 : Int32).toInt := congrArg Int32.toInt ((up2_at _ _ _ _))
              have hl_35 : (5 : Int32).toInt = 5 := rfl
              have hV_36 : ((0 : Int32).toInt = 5 ∧ (i 36 17).toInt = 30 ∧ (up2 (up2 (up2 j1 36 27 (i 36 17)) 36 17 z_26) 36 8 5) = i) ∨ ((0 : Int32).toInt = 0 ∧ (i 36 17).toInt < 30 ∧ stM i (up2 (up2 (up2 j1 36 27 (i 36 17)) 36 17 z_26) 36 8 5)) := (Or.inr ⟨by rfl, by omega, by omega, by omega, by omega, (show ((up2 (up2 (up2 j1 36 27 (i 36 17)) 36 17 z_26) 36 8 5) 386 (i 36 17).toInt.toNat).toInt = _ from congrArg Int32.toInt (((congrFun (up2_n _ _ (by decide)) _).trans ((congrFun (up2_n _ _ (by decide)) _).trans ((congrFun (up2_n _ _ (by decide)) _).trans ((hfr_j1 386 ((i 36 17).toInt).toNat (by omega)).trans ((congrFun (up2_n _ _ (by decide)) _).trans ((congrFun (up2_n _ _ (by decide)) _).trans (up2_at _ _ _ _))))))))), (fun k hk => ((up2_o _ _ (by omega)).trans ((up2_o _ _ (by omega)).trans ((up2_o _ _ (by omega)).trans ((hfr_j1 386 k (by omega)).trans ((up2_o _ _ (by omega)).trans ((up2_o _ _ (by omega)).trans (up2_o _ _ (by omega))))))))), (fun b hb => by
                    have hb9 : b ≠ 17 ∧ b ≠ 27 ∧ b ≠ 8 := ⟨fun e9 => hb (by rw [e9]; decide), fun e9 => hb (by rw [e9]; decide), fun e9 => hb (by rw [e9]; decide)⟩
                    exact ((up2_o _ _ (by omega)).trans ((up2_o _ _ (by omega)).trans ((up2_o _ _ (by omega)).trans ((hfr_j1 36 b (by omega)).trans ((up2_o _ _ (by omega)).trans ((up2_o _ _ (by omega)).trans (up2_o _ _ (by omega))))))))), (fun a h1 h2 => by
                    have h9 : a ≠ 386 ∧ a ≠ 387 ∧ a ≠ 388 ∧ a ≠ 389 := ⟨fun e9 => h2 (by rw [e9]; decide), fun e9 => h2 (by rw [e9]; decide), fun e9 => h2 (by rw [e9]; decide), fun e9 => h2 (by rw [e9]; decide)⟩
                    exact funext fun b => ((up2_o _ _ (by omega)).trans ((up2_o _ _ (by omega)).trans ((up2_o _ _ (by omega)).trans ((hfr_j1 a b (by omega)).trans ((up2_o _ _ (by omega)).trans ((up2_o _ _ (by omega)).trans (up2_o _ _ (by omega)))))))))⟩)
              exact sj_zret hx hb hr hlocks rfl hS (up2 (up2 (up2 j1 36 27 (i 36 17)) 36 17 z_26) 36 8 5) ⟨hO_31, (fun a b ha => ((up2_o _ _ (by omega)).trans ((up2_o _ _ (by omega)).trans ((up2_o _ _ (by omega)).trans ((hfr_j1 a b (by omega)).trans ((up2_o _ _ (by omega)).trans ((up2_o _ _ (by omega)).trans (up2_o _ _ (by omega))))))))), ⟨by decide, by decide⟩, hV_36⟩ hH (sj_Knil hK) (Nat.le_of_ble_eq_true rfl) (Nat.le_of_ble_eq_true rfl) dX12_step_157
            · skip
              have h_37 := s_nle (show (4 : Int32).toInt = 4 from rfl) (rfl : (i 36 8).toInt = _) c_29
              refine lv_iconst (v := 3) hx hb dX12_step_148 (by decide) ?_
              refine lv_goto (tgt := 153) hx hb dX12_step_149 (by decide) ?_
              have hO_38 := okp hO_27 (n := 36) (k := 8) (v := 3) (show (0 : Int) ≤ (3 : Int32).toInt ∧ (3 : Int32).toInt ≤ 8 from ⟨by decide, by decide⟩)
              refine h_puti (ty := .int) (ci := 12) (C := RX12) (F := TX12) (N := 86) hx hb hts in12 tyX12 tyX12_ok nmX12 hown hK hH hS (by decide) (rfl : kd 36 = 12) (by decide) rfl 8 (by decide) wd8 (fun _ h9 => h9) rfl (by decide +kernel) rfl rfl (by decide) rfl dX12_step_153 (fun H locs hH hS => ?_)
              refine lv_iconst (v := 0) hx hb dX12_step_156 (by decide) ?_
              have hp_39 : ((up2 (up2 (up2 j1 36 27 (i 36 17)) 36 17 z_26) 36 8 3) 36 17).toInt = (z_26 : Int32).toInt := congrArg Int32.toInt (((up2_k _ _ (by decide)).trans (up2_at _ _ _ _)))
              have hp_40 : ((up2 (up2 (up2 j1 36 27 (i 36 17)) 36 17 z_26) 36 8 3) 36 27).toInt = ((i 36 17) : Int32).toInt := congrArg Int32.toInt (((up2_k _ _ (by decide)).trans ((up2_k _ _ (by decide)).trans (up2_at _ _ _ _))))
              have hp_41 : ((up2 (up2 (up2 j1 36 27 (i 36 17)) 36 17 z_26) 36 8 3) 36 8).toInt = (3 : Int32).toInt := congrArg Int32.toInt ((up2_at _ _ _ _))
              have hl_42 : (3 : Int32).toInt = 3 := rfl
              have hV_43 : ((0 : Int32).toInt = 5 ∧ (i 36 17).toInt = 30 ∧ (up2 (up2 (up2 j1 36 27 (i 36 17)) 36 17 z_26) 36 8 3) = i) ∨ ((0 : Int32).toInt = 0 ∧ (i 36 17).toInt < 30 ∧ stM i (up2 (up2 (up2 j1 36 27 (i 36 17)) 36 17 z_26) 36 8 3)) := (Or.inr ⟨by rfl, by omega, by omega, by omega, by omega, (show ((up2 (up2 (up2 j1 36 27 (i 36 17)) 36 17 z_26) 36 8 3) 386 (i 36 17).toInt.toNat).toInt = _ from congrArg Int32.toInt (((congrFun (up2_n _ _ (by decide)) _).trans ((congrFun (up2_n _ _ (by decide)) _).trans ((congrFun (up2_n _ _ (by decide)) _).trans ((hfr_j1 386 ((i 36 17).toInt).toNat (by omega)).trans ((congrFun (up2_n _ _ (by decide)) _).trans ((congrFun (up2_n _ _ (by decide)) _).trans (up2_at _ _ _ _))))))))), (fun k hk => ((up2_o _ _ (by omega)).trans ((up2_o _ _ (by omega)).trans ((up2_o _ _ (by omega)).trans ((hfr_j1 386 k (by omega)).trans ((up2_o _ _ (by omega)).trans ((up2_o _ _ (by omega)).trans (up2_o _ _ (by omega))))))))), (fun b hb => by
                    have hb9 : b ≠ 17 ∧ b ≠ 27 ∧ b ≠ 8 := ⟨fun e9 => hb (by rw [e9]; decide), fun e9 => hb (by rw [e9]; decide), fun e9 => hb (by rw [e9]; decide)⟩
                    exact ((up2_o _ _ (by omega)).trans ((up2_o _ _ (by omega)).trans ((up2_o _ _ (by omega)).trans ((hfr_j1 36 b (by omega)).trans ((up2_o _ _ (by omega)).trans ((up2_o _ _ (by omega)).trans (up2_o _ _ (by omega))))))))), (fun a h1 h2 => by
                    have h9 : a ≠ 386 ∧ a ≠ 387 ∧ a ≠ 388 ∧ a ≠ 389 := ⟨fun e9 => h2 (by rw [e9]; decide), fun e9 => h2 (by rw [e9]; decide), fun e9 => h2 (by rw [e9]; decide), fun e9 => h2 (by rw [e9]; decide)⟩
                    exact funext fun b => ((up2_o _ _ (by omega)).trans ((up2_o _ _ (by omega)).trans ((up2_o _ _ (by omega)).trans ((hfr_j1 a b (by omega)).trans ((up2_o _ _ (by omega)).trans ((up2_o _ _ (by omega)).trans (up2_o _ _ (by omega)))))))))⟩)
              exact sj_zret hx hb hr hlocks rfl hS (up2 (up2 (up2 j1 36 27 (i 36 17)) 36 17 z_26) 36 8 3) ⟨hO_38, (fun a b ha => ((up2_o _ _ (by omega)).trans ((up2_o _ _ (by omega)).trans ((up2_o _ _ (by omega)).trans ((hfr_j1 a b (by omega)).trans ((up2_o _ _ (by omega)).trans ((up2_o _ _ (by omega)).trans (up2_o _ _ (by omega))))))))), ⟨by decide, by decide⟩, hV_43⟩ hH (sj_Knil hK) (Nat.le_of_ble_eq_true rfl) (Nat.le_of_ble_eq_true rfl) dX12_step_157
          · skip
            have h_44 := s_nle (show (60 : Int32).toInt = 60 from rfl) (rfl : f.toInt = _) c_23
            refine lv_aload_n hx hb dX12_step_93 rfl (lv_at hl 2 rfl) ?_
            refine h_getr (ci := 12) (C := RX12) (F := TX12) (N := 86) hx hb hts in12 hown hK hH (by decide) (rfl : kd 36 = 12) (by decide) rfl 22 (by decide) wd9 (fun _ h9 => h9) (by decide) rfl (t := 389) (hR 36 22 rfl) (by decide) dX12_step_94 ?_
            refine lv_bipush (v := 60) hx hb dX12_step_97 (by decide) ?_
            refine lv_aload_n hx hb dX12_step_99 rfl (lv_at hl 2 rfl) ?_
            refine h_geti (ci := 12) (C := RX12) (F := TX12) (N := 86) hx hb hts in12 hown hK hH (by decide) (rfl : kd 36 = 12) (by decide) rfl 17 (by decide) wd0 (fun _ h9 => h9) (by decide) rfl dX12_step_100 ?_
            refine sj_i (y := (i 36 17)) ((hfr_j1 36 17 (by omega)).trans ((congrFun (up2_n _ _ (by decide)) _).trans ((congrFun (up2_n _ _ (by decide)) _).trans (congrFun (up2_n _ _ (by decide)) _)))) ?_
            refine lv_imul hx hb dX12_step_103 ?_
            obtain ⟨z_45, ez_45, hz_45⟩ := s_mul (show (60 : Int32).toInt = 60 from rfl) (rfl : (i 36 17).toInt = _) (by omega) (by omega)
            refine sj_i ez_45 ?_
            refine lv_iload_n hx hb dX12_step_104 rfl (lv_at hl 0 rfl) ?_
            refine lv_iadd hx hb dX12_step_105 ?_
            obtain ⟨z_46, ez_46, hz_46⟩ := s_add (rfl : z_45.toInt = _) (rfl : f.toInt = _) (by omega) (by omega)
            refine sj_i ez_46 ?_
            refine lv_aload_n hx hb dX12_step_106 rfl (lv_at hl 2 rfl) ?_
            refine h_getr (ci := 12) (C := RX12) (F := TX12) (N := 86) hx hb hts in12 hown hK hH (by decide) (rfl : kd 36 = 12) (by decide) rfl 3 (by decide) wd1 (fun _ h9 => h9) (by decide) rfl (t := 380) (hR 36 3 rfl) (by decide) dX12_step_107 ?_
            refine lv_iload_n hx hb dX12_step_110 rfl (lv_at hl 1 rfl) ?_
            refine lv_iload_n hx hb dX12_step_111 rfl (lv_at hl 0 rfl) ?_
            refine lv_iadd hx hb dX12_step_112 ?_
            obtain ⟨z_47, ez_47, hz_47⟩ := s_add (rfl : r_7.toInt = _) (rfl : f.toInt = _) (by omega) (by omega)
            refine sj_i ez_47 ?_
            have bx_48 : (0 : Int) ≤ (i 380 (f.toInt + r_7.toInt).toNat).toInt ∧ (i 380 (f.toInt + r_7.toInt).toNat).toInt ≤ 65535 := hO 380 (f.toInt + r_7.toInt).toNat
            refine h_cald hx hb hK hH (by decide) (rfl : kd 380 = 14) (s_vin (N := 480) (rfl : z_47.toInt = _) (rfl : ln 380 = 480) (by omega) (by omega)) dX12_step_113 ?_
            have ek_49 : z_47.toNatClampNeg = (f.toInt + r_7.toInt).toNat := (s_cl (show z_47.toInt = f.toInt + r_7.toInt by omega))
            refine sj_i (y := (i 380 (f.toInt + r_7.toInt).toNat)) (by rw [ek_49]; exact ((hfr_j1 380 (f.toInt + r_7.toInt).toNat (by omega)).trans ((congrFun (up2_n _ _ (by decide)) _).trans ((congrFun (up2_n _ _ (by decide)) _).trans (congrFun (up2_n _ _ (by decide)) _))))) ?_
            obtain ⟨z_50, ez_50⟩ : ∃ z, vp_nar .char (i 380 (f.toInt + r_7.toInt).toNat) = z := ⟨_, rfl⟩
            have hz_50 : z_50.toInt = (i 380 (f.toInt + r_7.toInt).toNat).toInt := by rw [← ez_50, s_narc (rfl : (i 380 (f.toInt + r_7.toInt).toNat).toInt = _) (by omega) (by omega)] <;> exact (rfl : (i 380 (f.toInt + r_7.toInt).toNat).toInt = _)
            have hO_51 := okp hO_j1 (n := 389) (k := (60 * (i 36 17).toInt + f.toInt).toNat) (v := z_50) (show (0 : Int) ≤ (z_50 : Int32).toInt ∧ (z_50 : Int32).toInt ≤ 65535 from ⟨by omega, by omega⟩)
            refine h_cast hx hb hK hH hS (by decide) (rfl : kd 389 = 14) (s_vin (N := 1800) (rfl : z_46.toInt = _) (rfl : ln 389 = 1800) (by omega) (by omega)) dX12_step_114 (fun H locs hH hS => ?_)
            rw [ez_50] at hH
            rw [s_cl (show z_46.toInt = 60 * (i 36 17).toInt + f.toInt by omega)] at hH
            obtain ⟨z_52, ez_52, hz_52⟩ := s_add (rfl : f.toInt = _) (show (1 : Int32).toInt = 1 from rfl) (by omega) (by omega)
            refine lv_iinc (v := z_52) (lv' := [(3, .int z_52), (2, .int r_7), (0, .ref (g 36)), (1, .int x)]) hx hb dX12_step_115 hl (k := 0) rfl ez_52 (by decide) rfl (fun ls hl => ?_)
            refine lv_goto (tgt := 80) hx hb dX12_step_118 (by decide) ?_
            exact ih_lp_21 z_52 _ _ _ ls (by omega) (by omega) (by omega) hO_51 (fun a b ha => ((up2_o _ _ (by omega)).trans (hfr_j1 a b (by omega)))) (lv_sub hl [0, 1, 2, 3] rfl) hH hS
      have hl_53 : (0 : Int32).toInt = 0 := rfl
      exact lp_21 _ 0 _ _ _ ls (Nat.lt_succ_self _) (by omega) (by omega) hO_20 (fun a b ha => rfl) (lv_sub hl [0, 1, 2, 3] rfl) hH hS
    · skip
      have h_54 := s_nle (show (60 : Int32).toInt = 60 from rfl) (rfl : z_17.toInt = _) c_18
      refine lv_aload_n hx hb dX12_step_66 rfl (lv_at hl 1 rfl) ?_
      refine h_geti (ci := 12) (C := RX12) (F := TX12) (N := 86) hx hb hts in12 hown hK hH (by decide) (rfl : kd 36 = 12) (by decide) rfl 4 (by decide) wd2 (fun _ h9 => h9) (by decide) rfl dX12_step_67 ?_
      refine sj_i (y := (i 36 4)) ((congrFun (up2_n _ _ (by decide)) _).trans (congrFun (up2_n _ _ (by decide)) _)) ?_
      refine lv_iload_n hx hb dX12_step_70 rfl (lv_at hl 0 rfl) ?_
      refine lv_isub hx hb dX12_step_71 ?_
      obtain ⟨z_55, ez_55, hz_55⟩ := s_sub (rfl : (i 36 4).toInt = _) (rfl : r_7.toInt = _) (by omega) (by omega)
      refine sj_i ez_55 ?_
      refine lv_goto (tgt := 77) hx hb dX12_step_72 (by decide) ?_
      have hO_56 := okp hO_16 (n := 388) (k := ((i 36 17).toInt).toNat) (v := z_55) (show (0 : Int) ≤ (z_55 : Int32).toInt ∧ (z_55 : Int32).toInt ≤ 60 from ⟨by omega, by omega⟩)
      refine h_iast hx hb hK hH hS (by decide) (rfl : kd 388 = 13) (s_vin (N := 30) (rfl : (i 36 17).toInt = _) (rfl : ln 388 = 30) (by omega) (by omega)) dX12_step_77 (fun H locs hH hS => ?_)
      rw [s_cl (show (i 36 17).toInt = (i 36 17).toInt by omega)] at hH
      refine lv_iconst (v := 0) hx hb dX12_step_78 (by decide) ?_
      refine lv_istore_n (lv' := [(3, .int 0), (2, .int r_7), (0, .ref (g 36)), (1, .int x)]) hx hb dX12_step_79 rfl hl (by decide) rfl (fun ls hl => ?_)
      -- loop at 80
      have lp_57 : ∀ (fuel_lp_57 : Nat) (f : Int32) (j1 : Nat → Nat → Int32) (H : Heap) (locs : List Loc) (ls : Array Slot), (60 - f.toInt).toNat < fuel_lp_57 → (0 : Int) ≤ f.toInt ∧ f.toInt ≤ 60 → 0 ≤ f.toInt → OkI j1 → (∀ a b, ¬ (a = 389) → j1 a b = (up2 (up2 (up2 i 386 ((i 36 17).toInt).toNat (i 36 18)) 387 ((i 36 17).toInt).toNat x) 388 ((i 36 17).toInt).toNat z_55) a b) → lv_has ls 4 [(3, .int f), (2, .int r_7), (0, .ref (g 36)), (1, .int x)] → sj_H D A (hwc g ka j1 r L d) H → va_S A s.heap H locs → W p l e (headSpec wsX12_step ({ frames := 1, cells := 0, slots := 0, locals := 23 })).room s m ([.ref (g 36), .int x] : List Value).toArray below meth c H locs 0 0 (MQ below (sj_Qi (S := (Nat → Nat → Int32)) D (fun v u => OkI u ∧ (∀ a b, ¬ ((a = 36 ∧ (b = 8 ∨ b = 17 ∨ b = 27)) ∨ a = 386 ∨ a = 387 ∨ a = 388 ∨ a = 389) → u a b = i a b) ∧ ((0 : Int) ≤ v.toInt ∧ v.toInt ≤ 5) ∧ ((v.toInt = 5 ∧ (i 36 17).toInt = 30 ∧ u = i) ∨ (v.toInt = 0 ∧ (i 36 17).toInt < 30 ∧ stM i u))) (fun u => hwc g ka u r L d) (fun _ => []) A) ([.ref (g 36), .int x] : List Value).toArray s 0 0 A) (F0 m 80 ls []) := by
        intro fuel_lp_57
        induction fuel_lp_57 with
        | zero => intros; omega
        | succ fuel_lp_57 ih_lp_57 =>
          intro f j1 H locs ls hm hr_f hi_lp_57_0 hO_j1 hfr_j1 hl hH hS
          refine lv_iload_n hx hb dX12_step_80 rfl (lv_at hl 0 rfl) ?_
          refine lv_aload_n hx hb dX12_step_81 rfl (lv_at hl 2 rfl) ?_
          refine h_getr (ci := 12) (C := RX12) (F := TX12) (N := 86) hx hb hts in12 hown hK hH (by decide) (rfl : kd 36 = 12) (by decide) rfl 21 (by decide) wd6 (fun _ h9 => h9) (by decide) rfl (t := 388) (hR 36 21 rfl) (by decide) dX12_step_82 ?_
          refine lv_aload_n hx hb dX12_step_85 rfl (lv_at hl 2 rfl) ?_
          refine h_geti (ci := 12) (C := RX12) (F := TX12) (N := 86) hx hb hts in12 hown hK hH (by decide) (rfl : kd 36 = 12) (by decide) rfl 17 (by decide) wd0 (fun _ h9 => h9) (by decide) rfl dX12_step_86 ?_
          refine sj_i (y := (i 36 17)) ((hfr_j1 36 17 (by omega)).trans ((congrFun (up2_n _ _ (by decide)) _).trans ((congrFun (up2_n _ _ (by decide)) _).trans (congrFun (up2_n _ _ (by decide)) _)))) ?_
          refine h_iald hx hb hK hH (by decide) (rfl : kd 388 = 13) (s_vin (N := 30) (rfl : (i 36 17).toInt = _) (rfl : ln 388 = 30) (by omega) (by omega)) dX12_step_89 ?_
          have ek_58 : (i 36 17).toNatClampNeg = ((i 36 17).toInt).toNat := (s_cl (show (i 36 17).toInt = (i 36 17).toInt by omega))
          refine sj_i (y := z_55) (by rw [ek_58]; exact ((hfr_j1 388 ((i 36 17).toInt).toNat (by omega)).trans (up2_at _ _ _ _))) ?_
          refine lv_icmp_ge (tgt := 121) hx hb dX12_step_90 (by decide) (fun c_59 => ?_) (fun c_59 => ?_)
          · skip
            have h_60 := s_le (rfl : z_55.toInt = _) (rfl : f.toInt = _) c_59
            refine lv_aload_n hx hb dX12_step_121 rfl (lv_at hl 2 rfl) ?_
            refine lv_aload_n hx hb dX12_step_122 rfl (lv_at hl 2 rfl) ?_
            refine h_geti (ci := 12) (C := RX12) (F := TX12) (N := 86) hx hb hts in12 hown hK hH (by decide) (rfl : kd 36 = 12) (by decide) rfl 17 (by decide) wd0 (fun _ h9 => h9) (by decide) rfl dX12_step_123 ?_
            refine sj_i (y := (i 36 17)) ((hfr_j1 36 17 (by omega)).trans ((congrFun (up2_n _ _ (by decide)) _).trans ((congrFun (up2_n _ _ (by decide)) _).trans (congrFun (up2_n _ _ (by decide)) _)))) ?_
            have hO_61 := okp hO_j1 (n := 36) (k := 27) (v := (i 36 17)) (show (0 : Int) ≤ ((i 36 17) : Int32).toInt ∧ ((i 36 17) : Int32).toInt ≤ 111 from ⟨by omega, by omega⟩)
            refine h_puti (ty := .int) (ci := 12) (C := RX12) (F := TX12) (N := 86) hx hb hts in12 tyX12 tyX12_ok nmX12 hown hK hH hS (by decide) (rfl : kd 36 = 12) (by decide) rfl 27 (by decide) wd7 (fun _ h9 => h9) rfl (by decide +kernel) rfl rfl (by decide) rfl dX12_step_126 (fun H locs hH hS => ?_)
            refine lv_aload_n hx hb dX12_step_129 rfl (lv_at hl 2 rfl) ?_
            refine lv_dup hx hb dX12_step_130 rfl ?_
            refine h_geti (ci := 12) (C := RX12) (F := TX12) (N := 86) hx hb hts in12 hown hK hH (by decide) (rfl : kd 36 = 12) (by decide) rfl 17 (by decide) wd0 (fun _ h9 => h9) (by decide) rfl dX12_step_131 ?_
            refine sj_i (y := (i 36 17)) ((up2_k _ _ (by decide)).trans ((hfr_j1 36 17 (by omega)).trans ((congrFun (up2_n _ _ (by decide)) _).trans ((congrFun (up2_n _ _ (by decide)) _).trans (congrFun (up2_n _ _ (by decide)) _))))) ?_
            refine lv_iconst (v := 1) hx hb dX12_step_134 (by decide) ?_
            refine lv_iadd hx hb dX12_step_135 ?_
            obtain ⟨z_62, ez_62, hz_62⟩ := s_add (rfl : (i 36 17).toInt = _) (show (1 : Int32).toInt = 1 from rfl) (by omega) (by omega)
            refine sj_i ez_62 ?_
            have hO_63 := okp hO_61 (n := 36) (k := 17) (v := z_62) (show (0 : Int) ≤ (z_62 : Int32).toInt ∧ (z_62 : Int32).toInt ≤ 30 from ⟨by omega, by omega⟩)
            refine h_puti (ty := .int) (ci := 12) (C := RX12) (F := TX12) (N := 86) hx hb hts in12 tyX12 tyX12_ok nmX12 hown hK hH hS (by decide) (rfl : kd 36 = 12) (by decide) rfl 17 (by decide) wd0 (fun _ h9 => h9) rfl (by decide +kernel) rfl rfl (by decide) rfl dX12_step_136 (fun H locs hH hS => ?_)
            refine lv_aload_n hx hb dX12_step_139 rfl (lv_at hl 2 rfl) ?_
            refine lv_aload_n hx hb dX12_step_140 rfl (lv_at hl 2 rfl) ?_
            have bx_64 : (0 : Int) ≤ (i 36 8).toInt ∧ (i 36 8).toInt ≤ 8 := hO 36 8
            refine h_geti (ci := 12) (C := RX12) (F := TX12) (N := 86) hx hb hts in12 hown hK hH (by decide) (rfl : kd 36 = 12) (by decide) rfl 8 (by decide) wd8 (fun _ h9 => h9) (by decide) rfl dX12_step_141 ?_
            refine sj_i (y := (i 36 8)) ((up2_k _ _ (by decide)).trans ((up2_k _ _ (by decide)).trans ((hfr_j1 36 8 (by omega)).trans ((congrFun (up2_n _ _ (by decide)) _).trans ((congrFun (up2_n _ _ (by decide)) _).trans (congrFun (up2_n _ _ (by decide)) _)))))) ?_
            refine lv_iconst (v := 4) hx hb dX12_step_144 (by decide) ?_
            refine lv_icmp_ge (tgt := 152) hx hb dX12_step_145 (by decide) (fun c_65 => ?_) (fun c_65 => ?_)
            · skip
              have h_66 := s_le (show (4 : Int32).toInt = 4 from rfl) (rfl : (i 36 8).toInt = _) c_65
              refine lv_iconst (v := 5) hx hb dX12_step_152 (by decide) ?_
              have hO_67 := okp hO_63 (n := 36) (k := 8) (v := 5) (show (0 : Int) ≤ (5 : Int32).toInt ∧ (5 : Int32).toInt ≤ 8 from ⟨by decide, by decide⟩)
              refine h_puti (ty := .int) (ci := 12) (C := RX12) (F := TX12) (N := 86) hx hb hts in12 tyX12 tyX12_ok nmX12 hown hK hH hS (by decide) (rfl : kd 36 = 12) (by decide) rfl 8 (by decide) wd8 (fun _ h9 => h9) rfl (by decide +kernel) rfl rfl (by decide) rfl dX12_step_153 (fun H locs hH hS => ?_)
              refine lv_iconst (v := 0) hx hb dX12_step_156 (by decide) ?_
              have hp_68 : ((up2 (up2 (up2 j1 36 27 (i 36 17)) 36 17 z_62) 36 8 5) 36 17).toInt = (z_62 : Int32).toInt := congrArg Int32.toInt (((up2_k _ _ (by decide)).trans (up2_at _ _ _ _)))
              have hp_69 : ((up2 (up2 (up2 j1 36 27 (i 36 17)) 36 17 z_62) 36 8 5) 36 27).toInt = ((i 36 17) : Int32).toInt := congrArg Int32.toInt (((up2_k _ _ (by decide)).trans ((up2_k _ _ (by decide)).trans (up2_at _ _ _ _))))
              have hp_70 : ((up2 (up2 (up2 j1 36 27 (i 36 17)) 36 17 z_62) 36 8 5) 36 8).toInt = (5 : Int32).toInt := congrArg Int32.toInt ((up2_at _ _ _ _))
              have hl_71 : (5 : Int32).toInt = 5 := rfl
              have hV_72 : ((0 : Int32).toInt = 5 ∧ (i 36 17).toInt = 30 ∧ (up2 (up2 (up2 j1 36 27 (i 36 17)) 36 17 z_62) 36 8 5) = i) ∨ ((0 : Int32).toInt = 0 ∧ (i 36 17).toInt < 30 ∧ stM i (up2 (up2 (up2 j1 36 27 (i 36 17)) 36 17 z_62) 36 8 5)) := (Or.inr ⟨by rfl, by omega, by omega, by omega, by omega, (show ((up2 (up2 (up2 j1 36 27 (i 36 17)) 36 17 z_62) 36 8 5) 386 (i 36 17).toInt.toNat).toInt = _ from congrArg Int32.toInt (((congrFun (up2_n _ _ (by decide)) _).trans ((congrFun (up2_n _ _ (by decide)) _).trans ((congrFun (up2_n _ _ (by decide)) _).trans ((hfr_j1 386 ((i 36 17).toInt).toNat (by omega)).trans ((congrFun (up2_n _ _ (by decide)) _).trans ((congrFun (up2_n _ _ (by decide)) _).trans (up2_at _ _ _ _))))))))), (fun k hk => ((up2_o _ _ (by omega)).trans ((up2_o _ _ (by omega)).trans ((up2_o _ _ (by omega)).trans ((hfr_j1 386 k (by omega)).trans ((up2_o _ _ (by omega)).trans ((up2_o _ _ (by omega)).trans (up2_o _ _ (by omega))))))))), (fun b hb => by
                    have hb9 : b ≠ 17 ∧ b ≠ 27 ∧ b ≠ 8 := ⟨fun e9 => hb (by rw [e9]; decide), fun e9 => hb (by rw [e9]; decide), fun e9 => hb (by rw [e9]; decide)⟩
                    exact ((up2_o _ _ (by omega)).trans ((up2_o _ _ (by omega)).trans ((up2_o _ _ (by omega)).trans ((hfr_j1 36 b (by omega)).trans ((up2_o _ _ (by omega)).trans ((up2_o _ _ (by omega)).trans (up2_o _ _ (by omega))))))))), (fun a h1 h2 => by
                    have h9 : a ≠ 386 ∧ a ≠ 387 ∧ a ≠ 388 ∧ a ≠ 389 := ⟨fun e9 => h2 (by rw [e9]; decide), fun e9 => h2 (by rw [e9]; decide), fun e9 => h2 (by rw [e9]; decide), fun e9 => h2 (by rw [e9]; decide)⟩
                    exact funext fun b => ((up2_o _ _ (by omega)).trans ((up2_o _ _ (by omega)).trans ((up2_o _ _ (by omega)).trans ((hfr_j1 a b (by omega)).trans ((up2_o _ _ (by omega)).trans ((up2_o _ _ (by omega)).trans (up2_o _ _ (by omega)))))))))⟩)
              exact sj_zret hx hb hr hlocks rfl hS (up2 (up2 (up2 j1 36 27 (i 36 17)) 36 17 z_62) 36 8 5) ⟨hO_67, (fun a b ha => ((up2_o _ _ (by omega)).trans ((up2_o _ _ (by omega)).trans ((up2_o _ _ (by omega)).trans ((hfr_j1 a b (by omega)).trans ((up2_o _ _ (by omega)).trans ((up2_o _ _ (by omega)).trans (up2_o _ _ (by omega))))))))), ⟨by decide, by decide⟩, hV_72⟩ hH (sj_Knil hK) (Nat.le_of_ble_eq_true rfl) (Nat.le_of_ble_eq_true rfl) dX12_step_157
            · skip
              have h_73 := s_nle (show (4 : Int32).toInt = 4 from rfl) (rfl : (i 36 8).toInt = _) c_65
              refine lv_iconst (v := 3) hx hb dX12_step_148 (by decide) ?_
              refine lv_goto (tgt := 153) hx hb dX12_step_149 (by decide) ?_
              have hO_74 := okp hO_63 (n := 36) (k := 8) (v := 3) (show (0 : Int) ≤ (3 : Int32).toInt ∧ (3 : Int32).toInt ≤ 8 from ⟨by decide, by decide⟩)
              refine h_puti (ty := .int) (ci := 12) (C := RX12) (F := TX12) (N := 86) hx hb hts in12 tyX12 tyX12_ok nmX12 hown hK hH hS (by decide) (rfl : kd 36 = 12) (by decide) rfl 8 (by decide) wd8 (fun _ h9 => h9) rfl (by decide +kernel) rfl rfl (by decide) rfl dX12_step_153 (fun H locs hH hS => ?_)
              refine lv_iconst (v := 0) hx hb dX12_step_156 (by decide) ?_
              have hp_75 : ((up2 (up2 (up2 j1 36 27 (i 36 17)) 36 17 z_62) 36 8 3) 36 17).toInt = (z_62 : Int32).toInt := congrArg Int32.toInt (((up2_k _ _ (by decide)).trans (up2_at _ _ _ _)))
              have hp_76 : ((up2 (up2 (up2 j1 36 27 (i 36 17)) 36 17 z_62) 36 8 3) 36 27).toInt = ((i 36 17) : Int32).toInt := congrArg Int32.toInt (((up2_k _ _ (by decide)).trans ((up2_k _ _ (by decide)).trans (up2_at _ _ _ _))))
              have hp_77 : ((up2 (up2 (up2 j1 36 27 (i 36 17)) 36 17 z_62) 36 8 3) 36 8).toInt = (3 : Int32).toInt := congrArg Int32.toInt ((up2_at _ _ _ _))
              have hl_78 : (3 : Int32).toInt = 3 := rfl
              have hV_79 : ((0 : Int32).toInt = 5 ∧ (i 36 17).toInt = 30 ∧ (up2 (up2 (up2 j1 36 27 (i 36 17)) 36 17 z_62) 36 8 3) = i) ∨ ((0 : Int32).toInt = 0 ∧ (i 36 17).toInt < 30 ∧ stM i (up2 (up2 (up2 j1 36 27 (i 36 17)) 36 17 z_62) 36 8 3)) := (Or.inr ⟨by rfl, by omega, by omega, by omega, by omega, (show ((up2 (up2 (up2 j1 36 27 (i 36 17)) 36 17 z_62) 36 8 3) 386 (i 36 17).toInt.toNat).toInt = _ from congrArg Int32.toInt (((congrFun (up2_n _ _ (by decide)) _).trans ((congrFun (up2_n _ _ (by decide)) _).trans ((congrFun (up2_n _ _ (by decide)) _).trans ((hfr_j1 386 ((i 36 17).toInt).toNat (by omega)).trans ((congrFun (up2_n _ _ (by decide)) _).trans ((congrFun (up2_n _ _ (by decide)) _).trans (up2_at _ _ _ _))))))))), (fun k hk => ((up2_o _ _ (by omega)).trans ((up2_o _ _ (by omega)).trans ((up2_o _ _ (by omega)).trans ((hfr_j1 386 k (by omega)).trans ((up2_o _ _ (by omega)).trans ((up2_o _ _ (by omega)).trans (up2_o _ _ (by omega))))))))), (fun b hb => by
                    have hb9 : b ≠ 17 ∧ b ≠ 27 ∧ b ≠ 8 := ⟨fun e9 => hb (by rw [e9]; decide), fun e9 => hb (by rw [e9]; decide), fun e9 => hb (by rw [e9]; decide)⟩
                    exact ((up2_o _ _ (by omega)).trans ((up2_o _ _ (by omega)).trans ((up2_o _ _ (by omega)).trans ((hfr_j1 36 b (by omega)).trans ((up2_o _ _ (by omega)).trans ((up2_o _ _ (by omega)).trans (up2_o _ _ (by omega))))))))), (fun a h1 h2 => by
                    have h9 : a ≠ 386 ∧ a ≠ 387 ∧ a ≠ 388 ∧ a ≠ 389 := ⟨fun e9 => h2 (by rw [e9]; decide), fun e9 => h2 (by rw [e9]; decide), fun e9 => h2 (by rw [e9]; decide), fun e9 => h2 (by rw [e9]; decide)⟩
                    exact funext fun b => ((up2_o _ _ (by omega)).trans ((up2_o _ _ (by omega)).trans ((up2_o _ _ (by omega)).trans ((hfr_j1 a b (by omega)).trans ((up2_o _ _ (by omega)).trans ((up2_o _ _ (by omega)).trans (up2_o _ _ (by omega)))))))))⟩)
              exact sj_zret hx hb hr hlocks rfl hS (up2 (up2 (up2 j1 36 27 (i 36 17)) 36 17 z_62) 36 8 3) ⟨hO_74, (fun a b ha => ((up2_o _ _ (by omega)).trans ((up2_o _ _ (by omega)).trans ((up2_o _ _ (by omega)).trans ((hfr_j1 a b (by omega)).trans ((up2_o _ _ (by omega)).trans ((up2_o _ _ (by omega)).trans (up2_o _ _ (by omega))))))))), ⟨by decide, by decide⟩, hV_79⟩ hH (sj_Knil hK) (Nat.le_of_ble_eq_true rfl) (Nat.le_of_ble_eq_true rfl) dX12_step_157
          · skip
            have h_80 := s_nle (rfl : z_55.toInt = _) (rfl : f.toInt = _) c_59
            refine lv_aload_n hx hb dX12_step_93 rfl (lv_at hl 2 rfl) ?_
            refine h_getr (ci := 12) (C := RX12) (F := TX12) (N := 86) hx hb hts in12 hown hK hH (by decide) (rfl : kd 36 = 12) (by decide) rfl 22 (by decide) wd9 (fun _ h9 => h9) (by decide) rfl (t := 389) (hR 36 22 rfl) (by decide) dX12_step_94 ?_
            refine lv_bipush (v := 60) hx hb dX12_step_97 (by decide) ?_
            refine lv_aload_n hx hb dX12_step_99 rfl (lv_at hl 2 rfl) ?_
            refine h_geti (ci := 12) (C := RX12) (F := TX12) (N := 86) hx hb hts in12 hown hK hH (by decide) (rfl : kd 36 = 12) (by decide) rfl 17 (by decide) wd0 (fun _ h9 => h9) (by decide) rfl dX12_step_100 ?_
            refine sj_i (y := (i 36 17)) ((hfr_j1 36 17 (by omega)).trans ((congrFun (up2_n _ _ (by decide)) _).trans ((congrFun (up2_n _ _ (by decide)) _).trans (congrFun (up2_n _ _ (by decide)) _)))) ?_
            refine lv_imul hx hb dX12_step_103 ?_
            obtain ⟨z_81, ez_81, hz_81⟩ := s_mul (show (60 : Int32).toInt = 60 from rfl) (rfl : (i 36 17).toInt = _) (by omega) (by omega)
            refine sj_i ez_81 ?_
            refine lv_iload_n hx hb dX12_step_104 rfl (lv_at hl 0 rfl) ?_
            refine lv_iadd hx hb dX12_step_105 ?_
            obtain ⟨z_82, ez_82, hz_82⟩ := s_add (rfl : z_81.toInt = _) (rfl : f.toInt = _) (by omega) (by omega)
            refine sj_i ez_82 ?_
            refine lv_aload_n hx hb dX12_step_106 rfl (lv_at hl 2 rfl) ?_
            refine h_getr (ci := 12) (C := RX12) (F := TX12) (N := 86) hx hb hts in12 hown hK hH (by decide) (rfl : kd 36 = 12) (by decide) rfl 3 (by decide) wd1 (fun _ h9 => h9) (by decide) rfl (t := 380) (hR 36 3 rfl) (by decide) dX12_step_107 ?_
            refine lv_iload_n hx hb dX12_step_110 rfl (lv_at hl 1 rfl) ?_
            refine lv_iload_n hx hb dX12_step_111 rfl (lv_at hl 0 rfl) ?_
            refine lv_iadd hx hb dX12_step_112 ?_
            obtain ⟨z_83, ez_83, hz_83⟩ := s_add (rfl : r_7.toInt = _) (rfl : f.toInt = _) (by omega) (by omega)
            refine sj_i ez_83 ?_
            have bx_84 : (0 : Int) ≤ (i 380 (f.toInt + r_7.toInt).toNat).toInt ∧ (i 380 (f.toInt + r_7.toInt).toNat).toInt ≤ 65535 := hO 380 (f.toInt + r_7.toInt).toNat
            refine h_cald hx hb hK hH (by decide) (rfl : kd 380 = 14) (s_vin (N := 480) (rfl : z_83.toInt = _) (rfl : ln 380 = 480) (by omega) (by omega)) dX12_step_113 ?_
            have ek_85 : z_83.toNatClampNeg = (f.toInt + r_7.toInt).toNat := (s_cl (show z_83.toInt = f.toInt + r_7.toInt by omega))
            refine sj_i (y := (i 380 (f.toInt + r_7.toInt).toNat)) (by rw [ek_85]; exact ((hfr_j1 380 (f.toInt + r_7.toInt).toNat (by omega)).trans ((congrFun (up2_n _ _ (by decide)) _).trans ((congrFun (up2_n _ _ (by decide)) _).trans (congrFun (up2_n _ _ (by decide)) _))))) ?_
            obtain ⟨z_86, ez_86⟩ : ∃ z, vp_nar .char (i 380 (f.toInt + r_7.toInt).toNat) = z := ⟨_, rfl⟩
            have hz_86 : z_86.toInt = (i 380 (f.toInt + r_7.toInt).toNat).toInt := by rw [← ez_86, s_narc (rfl : (i 380 (f.toInt + r_7.toInt).toNat).toInt = _) (by omega) (by omega)] <;> exact (rfl : (i 380 (f.toInt + r_7.toInt).toNat).toInt = _)
            have hO_87 := okp hO_j1 (n := 389) (k := (60 * (i 36 17).toInt + f.toInt).toNat) (v := z_86) (show (0 : Int) ≤ (z_86 : Int32).toInt ∧ (z_86 : Int32).toInt ≤ 65535 from ⟨by omega, by omega⟩)
            refine h_cast hx hb hK hH hS (by decide) (rfl : kd 389 = 14) (s_vin (N := 1800) (rfl : z_82.toInt = _) (rfl : ln 389 = 1800) (by omega) (by omega)) dX12_step_114 (fun H locs hH hS => ?_)
            rw [ez_86] at hH
            rw [s_cl (show z_82.toInt = 60 * (i 36 17).toInt + f.toInt by omega)] at hH
            obtain ⟨z_88, ez_88, hz_88⟩ := s_add (rfl : f.toInt = _) (show (1 : Int32).toInt = 1 from rfl) (by omega) (by omega)
            refine lv_iinc (v := z_88) (lv' := [(3, .int z_88), (2, .int r_7), (0, .ref (g 36)), (1, .int x)]) hx hb dX12_step_115 hl (k := 0) rfl ez_88 (by decide) rfl (fun ls hl => ?_)
            refine lv_goto (tgt := 80) hx hb dX12_step_118 (by decide) ?_
            exact ih_lp_57 z_88 _ _ _ ls (by omega) (by omega) (by omega) hO_87 (fun a b ha => ((up2_o _ _ (by omega)).trans (hfr_j1 a b (by omega)))) (lv_sub hl [0, 1, 2, 3] rfl) hH hS
      have hl_89 : (0 : Int32).toInt = 0 := rfl
      exact lp_57 _ 0 _ _ _ ls (Nat.lt_succ_self _) (by omega) (by omega) hO_56 (fun a b ha => rfl) (lv_sub hl [0, 1, 2, 3] rfl) hH hS
  · skip
    have h_90 := s_eq (rfl : (i 36 17).toInt = _) (show (30 : Int32).toInt = 30 from rfl) c_3
    refine lv_iconst (v := 5) hx hb dX12_step_9 (by decide) ?_
    have hV_91 : ((5 : Int32).toInt = 5 ∧ (i 36 17).toInt = 30 ∧ i = i) ∨ ((5 : Int32).toInt = 0 ∧ (i 36 17).toInt < 30 ∧ stM i i) := (Or.inl ⟨by rfl, by omega, rfl⟩)
    exact sj_zret hx hb hr hlocks rfl hS i ⟨hO, (fun a b ha => rfl), ⟨by decide, by decide⟩, hV_91⟩ hH (sj_Knil hK) (Nat.le_of_ble_eq_true rfl) (Nat.le_of_ble_eq_true rfl) dX12_step_10
set_option maxHeartbeats 2000000 in
set_option maxRecDepth 100000 in
theorem m_title (l : Launch) (D : va_G) (g : Nat → Nat) (ka : Nat → ClassId) (ad : Nat → Nat) (i : Nat → Nat → Int32) (r : Nat → Nat → Nat) (L : Nat → Nat → Int64) (d : Nat → Nat → UInt64) (x : Int32) (y : Int32) (hO : OkI i) (hR : RS r) (sz : Nat) (hx0 : 3 ≤ x.toInt) (hx1 : x.toInt ≤ 7) (hx5 : x.toInt ≠ 5) (hg : x.toInt ≠ 3 ∨ (i 36 11).toInt = 0) (hg2 : x.toInt = 3 ∨ 1 ≤ (i 36 11).toInt) : Met l yX12_title wsX12_title ({ frames := 0, cells := 0, slots := 0, locals := 0 }) (va_Pc [.ref (g 36), .int x, .int y] (sj_B D (hwc g ka i r L d) (hT ka) sz (gx ad (va_A (hwc g ka i r L d) sz)))) (sj_Qi (S := (Nat → Nat → Int32)) D (fun v u => OkI u ∧ (∀ a b, ¬ ((a = 36 ∧ (b = 8 ∨ b = 9 ∨ b = 10 ∨ b = 11 ∨ b = 13 ∨ b = 18 ∨ b = 23 ∨ b = 27)) ∨ a = 382 ∨ a = 383 ∨ a = 384 ∨ a = 385 ∨ a = 390 ∨ a = 391) → u a b = i a b) ∧ ((0 : Int) ≤ v.toInt ∧ v.toInt ≤ 5) ∧ ((v.toInt = 5 ∧ ((x.toInt = 4 ∧ (i 36 11).toInt = 5) ∨ (x.toInt = 6 ∧ (i 36 13).toInt = 12) ∨ (x.toInt = 7 ∧ (i 36 23).toInt = 12)) ∧ u = i) ∨ (v.toInt = 0 ∧ ¬ ((x.toInt = 4 ∧ (i 36 11).toInt = 5) ∨ (x.toInt = 6 ∧ (i 36 13).toInt = 12) ∨ (x.toInt = 7 ∧ (i 36 23).toInt = 12)) ∧ hdM i u x.toInt))) (fun u => hwc g ka u r L d) (fun _ => []) (va_A (hwc g ka i r L d) sz)) 0 0 (va_A (hwc g ka i r L d) sz) := by
  refine x_met (Ex := gx ad) (cc := cX12_title) (maxL := 3) (ret := (some .int)) (by decide) rfl (Nat.le_of_ble_eq_true rfl) ?_
  intro p e s m below meth c A ls hx hb hr hml hts hown hlocks hA hS hH hK hE hl
  have hown : s.vm.findClass RX12 = some m.cls := hown
  have in12 : ∀ w ∈ wsX120, w ∈ wsX12_title := (fun _ h => (List.mem_cons_of_mem _ (List.mem_append_right _ h)))
  have wd0 := hts (.fieldLink RX12 138 "StoryDeskModel" "exampleTags" "[I") (List.mem_cons_of_mem _ (List.mem_append_left _ lm10))
  have wd1 := hts (.fieldLink RX12 123 "StoryDeskModel" "examples" "I") (List.mem_cons_of_mem _ (List.mem_append_left _ lm2))
  have wd2 := hts (.fieldLink RX12 64 "StoryDeskModel" "pending" "I") (List.mem_cons_of_mem _ (List.mem_append_left _ lm4))
  have wd3 := hts (.fieldLink RX12 141 "StoryDeskModel" "exampleOwner" "[I") (List.mem_cons_of_mem _ (List.mem_append_left _ lm11))
  have wd4 := hts (.fieldLink RX12 120 "StoryDeskModel" "scenarios" "I") (List.mem_cons_of_mem _ (List.mem_append_left _ lm1))
  have wd5 := hts (.fieldLink RX12 77 "StoryDeskModel" "rowsFor" "I") (List.mem_cons_of_mem _ (List.mem_append_left _ lm12))
  have wd6 := hts (.fieldLink RX12 50 "StoryDeskModel" "state" "I") (List.mem_cons_of_mem _ (List.mem_append_left _ lm5))
  have wd7 := hts (.fieldLink RX12 46 "StoryDeskModel" "tagged" "Z") (List.mem_cons_of_mem _ (List.mem_append_left _ lm13))
  have wd8 := hts (.fieldLink RX12 129 "StoryDeskModel" "scenarioTags" "[I") (List.mem_cons_of_mem _ (List.mem_append_left _ lm6))
  have wd9 := hts (.fieldLink RX12 132 "StoryDeskModel" "scenarioLine" "[I") (List.mem_cons_of_mem _ (List.mem_append_left _ lm7))
  have wd10 := hts (.fieldLink RX12 135 "StoryDeskModel" "scenarioGroup" "[I") (List.mem_cons_of_mem _ (List.mem_append_left _ lm8))
  have wd11 := hts (.fieldLink RX12 117 "StoryDeskModel" "groups" "I") (List.mem_cons_of_mem _ (List.mem_append_left _ lm0))
  have wd12 := hts (.fieldLink RX12 105 "StoryDeskModel" "owner" "I") (List.mem_cons_of_mem _ (List.mem_append_left _ lm9))
  have wd13 := hts (.fieldLink RX12 126 "StoryDeskModel" "groupTags" "[I") (List.mem_cons_of_mem _ (List.mem_append_left _ lm3))
  have hl : lv_has ls 3 [(0, .ref (g 36)), (1, .int x), (2, .int y)] := hl
  have hK : va_K D vwCl (hT ka) s := hK
  have hg_1 := s_rng y
  have hb11 : (0 : Int) ≤ (i 36 11).toInt ∧ (i 36 11).toInt ≤ 5 := hO 36 11
  have hb13 : (0 : Int) ≤ (i 36 13).toInt ∧ (i 36 13).toInt ≤ 12 := hO 36 13
  have hb23 : (0 : Int) ≤ (i 36 23).toInt ∧ (i 36 23).toInt ≤ 12 := hO 36 23
  have hb9 : (0 : Int) ≤ (i 36 9).toInt ∧ (i 36 9).toInt ≤ 65535 := hO 36 9
  refine lv_iload_n hx hb dX12_title_0 rfl (lv_at hl 1 rfl) ?_
  refine lv_iconst (v := 4) hx hb dX12_title_1 (by decide) ?_
  refine lv_icmp_ne (tgt := 13) hx hb dX12_title_2 (by decide) (fun c_2 => ?_) (fun c_2 => ?_)
  · skip
    have h_3 := s_ne (rfl : x.toInt = _) (show (4 : Int32).toInt = 4 from rfl) c_2
    refine lv_iload_n hx hb dX12_title_13 rfl (lv_at hl 1 rfl) ?_
    refine lv_bipush (v := 6) hx hb dX12_title_14 (by decide) ?_
    refine lv_icmp_ne (tgt := 28) hx hb dX12_title_16 (by decide) (fun c_4 => ?_) (fun c_4 => ?_)
    · skip
      have h_5 := s_ne (rfl : x.toInt = _) (show (6 : Int32).toInt = 6 from rfl) c_4
      refine lv_iload_n hx hb dX12_title_28 rfl (lv_at hl 1 rfl) ?_
      refine lv_bipush (v := 7) hx hb dX12_title_29 (by decide) ?_
      refine lv_icmp_ne (tgt := 45) hx hb dX12_title_31 (by decide) (fun c_6 => ?_) (fun c_6 => ?_)
      · skip
        have h_7 := s_ne (rfl : x.toInt = _) (show (7 : Int32).toInt = 7 from rfl) c_6
        refine lv_iload_n hx hb dX12_title_45 rfl (lv_at hl 1 rfl) ?_
        refine lv_iconst (v := 5) hx hb dX12_title_46 (by decide) ?_
        refine lv_icmp_ge (tgt := 91) hx hb dX12_title_47 (by decide) (fun c_8 => ?_) (fun c_8 => ?_)
        · skip
          have h_9 := s_le (show (5 : Int32).toInt = 5 from rfl) (rfl : x.toInt = _) c_8
          refine lv_iload_n hx hb dX12_title_91 rfl (lv_at hl 1 rfl) ?_
          refine lv_bipush (v := 6) hx hb dX12_title_92 (by decide) ?_
          refine lv_icmp_ne (tgt := 161) hx hb dX12_title_94 (by decide) (fun c_10 => ?_) (fun c_10 => ?_)
          · skip
            have h_11 := s_ne (rfl : x.toInt = _) (show (6 : Int32).toInt = 6 from rfl) c_10
            refine lv_aload_n hx hb dX12_title_161 rfl (lv_at hl 0 rfl) ?_
            refine h_getr (ci := 12) (C := RX12) (F := TX12) (N := 86) hx hb hts in12 hown hK hH (by decide) (rfl : kd 36 = 12) (by decide) rfl 25 (by decide) wd0 (fun _ h9 => h9) (by decide) rfl (t := 391) (hR 36 25 rfl) (by decide) dX12_title_162 ?_
            refine lv_aload_n hx hb dX12_title_165 rfl (lv_at hl 0 rfl) ?_
            have bx_12 : (0 : Int) ≤ (i 36 23).toInt ∧ (i 36 23).toInt ≤ 12 := hO 36 23
            refine h_geti (ci := 12) (C := RX12) (F := TX12) (N := 86) hx hb hts in12 hown hK hH (by decide) (rfl : kd 36 = 12) (by decide) rfl 23 (by decide) wd1 (fun _ h9 => h9) (by decide) rfl dX12_title_166 ?_
            refine lv_aload_n hx hb dX12_title_169 rfl (lv_at hl 0 rfl) ?_
            have bx_13 : (0 : Int) ≤ (i 36 9).toInt ∧ (i 36 9).toInt ≤ 65535 := hO 36 9
            refine h_geti (ci := 12) (C := RX12) (F := TX12) (N := 86) hx hb hts in12 hown hK hH (by decide) (rfl : kd 36 = 12) (by decide) rfl 9 (by decide) wd2 (fun _ h9 => h9) (by decide) rfl dX12_title_170 ?_
            have hO_14 := okp hO (n := 391) (k := ((i 36 23).toInt).toNat) (v := (i 36 9)) (show (0 : Int) ≤ ((i 36 9) : Int32).toInt ∧ ((i 36 9) : Int32).toInt ≤ 65535 from ⟨by omega, by omega⟩)
            refine h_iast hx hb hK hH hS (by decide) (rfl : kd 391 = 13) (s_vin (N := 12) (rfl : (i 36 23).toInt = _) (rfl : ln 391 = 12) (by omega) (by omega)) dX12_title_173 (fun H locs hH hS => ?_)
            rw [s_cl (show (i 36 23).toInt = (i 36 23).toInt by omega)] at hH
            refine lv_aload_n hx hb dX12_title_174 rfl (lv_at hl 0 rfl) ?_
            refine h_getr (ci := 12) (C := RX12) (F := TX12) (N := 86) hx hb hts in12 hown hK hH (by decide) (rfl : kd 36 = 12) (by decide) rfl 24 (by decide) wd3 (fun _ h9 => h9) (by decide) rfl (t := 390) (hR 36 24 rfl) (by decide) dX12_title_175 ?_
            refine lv_aload_n hx hb dX12_title_178 rfl (lv_at hl 0 rfl) ?_
            refine h_geti (ci := 12) (C := RX12) (F := TX12) (N := 86) hx hb hts in12 hown hK hH (by decide) (rfl : kd 36 = 12) (by decide) rfl 23 (by decide) wd1 (fun _ h9 => h9) (by decide) rfl dX12_title_179 ?_
            refine sj_i (y := (i 36 23)) (congrFun (up2_n _ _ (by decide)) _) ?_
            refine lv_aload_n hx hb dX12_title_182 rfl (lv_at hl 0 rfl) ?_
            have bx_15 : (0 : Int) ≤ (i 36 13).toInt ∧ (i 36 13).toInt ≤ 12 := hO 36 13
            refine h_geti (ci := 12) (C := RX12) (F := TX12) (N := 86) hx hb hts in12 hown hK hH (by decide) (rfl : kd 36 = 12) (by decide) rfl 13 (by decide) wd4 (fun _ h9 => h9) (by decide) rfl dX12_title_183 ?_
            refine sj_i (y := (i 36 13)) (congrFun (up2_n _ _ (by decide)) _) ?_
            refine lv_iconst (v := 1) hx hb dX12_title_186 (by decide) ?_
            refine lv_isub hx hb dX12_title_187 ?_
            obtain ⟨z_16, ez_16, hz_16⟩ := s_sub (rfl : (i 36 13).toInt = _) (show (1 : Int32).toInt = 1 from rfl) (by omega) (by omega)
            refine sj_i ez_16 ?_
            have hO_17 := okp hO_14 (n := 390) (k := ((i 36 23).toInt).toNat) (v := z_16) (show (-2147483648 : Int) ≤ (z_16 : Int32).toInt ∧ (z_16 : Int32).toInt ≤ 2147483647 from s_rng z_16)
            refine h_iast hx hb hK hH hS (by decide) (rfl : kd 390 = 13) (s_vin (N := 12) (rfl : (i 36 23).toInt = _) (rfl : ln 390 = 12) (by omega) (by omega)) dX12_title_188 (fun H locs hH hS => ?_)
            rw [s_cl (show (i 36 23).toInt = (i 36 23).toInt by omega)] at hH
            refine lv_aload_n hx hb dX12_title_189 rfl (lv_at hl 0 rfl) ?_
            refine lv_bipush (v := 100) hx hb dX12_title_190 (by decide) ?_
            refine lv_aload_n hx hb dX12_title_192 rfl (lv_at hl 0 rfl) ?_
            refine h_geti (ci := 12) (C := RX12) (F := TX12) (N := 86) hx hb hts in12 hown hK hH (by decide) (rfl : kd 36 = 12) (by decide) rfl 23 (by decide) wd1 (fun _ h9 => h9) (by decide) rfl dX12_title_193 ?_
            refine sj_i (y := (i 36 23)) ((congrFun (up2_n _ _ (by decide)) _).trans (congrFun (up2_n _ _ (by decide)) _)) ?_
            refine lv_iadd hx hb dX12_title_196 ?_
            obtain ⟨z_18, ez_18, hz_18⟩ := s_add (show (100 : Int32).toInt = 100 from rfl) (rfl : (i 36 23).toInt = _) (by omega) (by omega)
            refine sj_i ez_18 ?_
            have hO_19 := okp hO_17 (n := 36) (k := 27) (v := z_18) (show (0 : Int) ≤ (z_18 : Int32).toInt ∧ (z_18 : Int32).toInt ≤ 111 from ⟨by omega, by omega⟩)
            refine h_puti (ty := .int) (ci := 12) (C := RX12) (F := TX12) (N := 86) hx hb hts in12 tyX12 tyX12_ok nmX12 hown hK hH hS (by decide) (rfl : kd 36 = 12) (by decide) rfl 27 (by decide) wd5 (fun _ h9 => h9) rfl (by decide +kernel) rfl rfl (by decide) rfl dX12_title_197 (fun H locs hH hS => ?_)
            refine lv_aload_n hx hb dX12_title_200 rfl (lv_at hl 0 rfl) ?_
            refine lv_dup hx hb dX12_title_201 rfl ?_
            refine h_geti (ci := 12) (C := RX12) (F := TX12) (N := 86) hx hb hts in12 hown hK hH (by decide) (rfl : kd 36 = 12) (by decide) rfl 23 (by decide) wd1 (fun _ h9 => h9) (by decide) rfl dX12_title_202 ?_
            refine sj_i (y := (i 36 23)) ((up2_k _ _ (by decide)).trans ((congrFun (up2_n _ _ (by decide)) _).trans (congrFun (up2_n _ _ (by decide)) _))) ?_
            refine lv_iconst (v := 1) hx hb dX12_title_205 (by decide) ?_
            refine lv_iadd hx hb dX12_title_206 ?_
            obtain ⟨z_20, ez_20, hz_20⟩ := s_add (rfl : (i 36 23).toInt = _) (show (1 : Int32).toInt = 1 from rfl) (by omega) (by omega)
            refine sj_i ez_20 ?_
            have hO_21 := okp hO_19 (n := 36) (k := 23) (v := z_20) (show (0 : Int) ≤ (z_20 : Int32).toInt ∧ (z_20 : Int32).toInt ≤ 12 from ⟨by omega, by omega⟩)
            refine h_puti (ty := .int) (ci := 12) (C := RX12) (F := TX12) (N := 86) hx hb hts in12 tyX12 tyX12_ok nmX12 hown hK hH hS (by decide) (rfl : kd 36 = 12) (by decide) rfl 23 (by decide) wd1 (fun _ h9 => h9) rfl (by decide +kernel) rfl rfl (by decide) rfl dX12_title_207 (fun H locs hH hS => ?_)
            refine lv_aload_n hx hb dX12_title_210 rfl (lv_at hl 0 rfl) ?_
            refine lv_bipush (v := 6) hx hb dX12_title_211 (by decide) ?_
            have hO_22 := okp hO_21 (n := 36) (k := 8) (v := 6) (show (0 : Int) ≤ (6 : Int32).toInt ∧ (6 : Int32).toInt ≤ 8 from ⟨by decide, by decide⟩)
            refine h_puti (ty := .int) (ci := 12) (C := RX12) (F := TX12) (N := 86) hx hb hts in12 tyX12 tyX12_ok nmX12 hown hK hH hS (by decide) (rfl : kd 36 = 12) (by decide) rfl 8 (by decide) wd6 (fun _ h9 => h9) rfl (by decide +kernel) rfl rfl (by decide) rfl dX12_title_213 (fun H locs hH hS => ?_)
            refine lv_aload_n hx hb dX12_title_216 rfl (lv_at hl 0 rfl) ?_
            refine lv_iconst (v := 0) hx hb dX12_title_217 (by decide) ?_
            have hO_23 := okp hO_22 (n := 36) (k := 9) (v := 0) (show (0 : Int) ≤ (0 : Int32).toInt ∧ (0 : Int32).toInt ≤ 65535 from ⟨by decide, by decide⟩)
            refine h_puti (ty := .int) (ci := 12) (C := RX12) (F := TX12) (N := 86) hx hb hts in12 tyX12 tyX12_ok nmX12 hown hK hH hS (by decide) (rfl : kd 36 = 12) (by decide) rfl 9 (by decide) wd2 (fun _ h9 => h9) rfl (by decide +kernel) rfl rfl (by decide) rfl dX12_title_218 (fun H locs hH hS => ?_)
            refine lv_aload_n hx hb dX12_title_221 rfl (lv_at hl 0 rfl) ?_
            refine lv_iconst (v := 0) hx hb dX12_title_222 (by decide) ?_
            have hO_24 := okp hO_23 (n := 36) (k := 10) (v := 0) (show (0 : Int) ≤ (0 : Int32).toInt ∧ (0 : Int32).toInt ≤ 1 from ⟨by decide, by decide⟩)
            refine h_puti (ty := .boolean) (ci := 12) (C := RX12) (F := TX12) (N := 86) hx hb hts in12 tyX12 tyX12_ok nmX12 hown hK hH hS (by decide) (rfl : kd 36 = 12) (by decide) rfl 10 (by decide) wd7 (fun _ h9 => h9) rfl (by decide +kernel) (by decide +kernel) (by decide +kernel) (by decide) rfl dX12_title_223 (fun H locs hH hS => ?_)
            refine lv_iconst (v := 0) hx hb dX12_title_226 (by decide) ?_
            have hp_25 : ((up2 (up2 (up2 (up2 (up2 (up2 (up2 i 391 ((i 36 23).toInt).toNat (i 36 9)) 390 ((i 36 23).toInt).toNat z_16) 36 27 z_18) 36 23 z_20) 36 8 6) 36 9 0) 36 10 0) 36 8).toInt = (6 : Int32).toInt := congrArg Int32.toInt (((up2_k _ _ (by decide)).trans ((up2_k _ _ (by decide)).trans (up2_at _ _ _ _))))
            have hl_26 : (6 : Int32).toInt = 6 := rfl
            have hp_27 : ((up2 (up2 (up2 (up2 (up2 (up2 (up2 i 391 ((i 36 23).toInt).toNat (i 36 9)) 390 ((i 36 23).toInt).toNat z_16) 36 27 z_18) 36 23 z_20) 36 8 6) 36 9 0) 36 10 0) 36 9).toInt = (0 : Int32).toInt := congrArg Int32.toInt (((up2_k _ _ (by decide)).trans (up2_at _ _ _ _)))
            have hl_28 : (0 : Int32).toInt = 0 := rfl
            have hp_29 : ((up2 (up2 (up2 (up2 (up2 (up2 (up2 i 391 ((i 36 23).toInt).toNat (i 36 9)) 390 ((i 36 23).toInt).toNat z_16) 36 27 z_18) 36 23 z_20) 36 8 6) 36 9 0) 36 10 0) 36 10).toInt = (0 : Int32).toInt := congrArg Int32.toInt ((up2_at _ _ _ _))
            have hl_30 : (0 : Int32).toInt = 0 := rfl
            have hp_31 : ((up2 (up2 (up2 (up2 (up2 (up2 (up2 i 391 ((i 36 23).toInt).toNat (i 36 9)) 390 ((i 36 23).toInt).toNat z_16) 36 27 z_18) 36 23 z_20) 36 8 6) 36 9 0) 36 10 0) 391 (i 36 23).toInt.toNat).toInt = ((i 36 9) : Int32).toInt := congrArg Int32.toInt (((congrFun (up2_n _ _ (by decide)) _).trans ((congrFun (up2_n _ _ (by decide)) _).trans ((congrFun (up2_n _ _ (by decide)) _).trans ((congrFun (up2_n _ _ (by decide)) _).trans ((congrFun (up2_n _ _ (by decide)) _).trans ((congrFun (up2_n _ _ (by decide)) _).trans (up2_at _ _ _ _))))))))
            have hp_32 : ((up2 (up2 (up2 (up2 (up2 (up2 (up2 i 391 ((i 36 23).toInt).toNat (i 36 9)) 390 ((i 36 23).toInt).toNat z_16) 36 27 z_18) 36 23 z_20) 36 8 6) 36 9 0) 36 10 0) 390 (i 36 23).toInt.toNat).toInt = (z_16 : Int32).toInt := congrArg Int32.toInt (((congrFun (up2_n _ _ (by decide)) _).trans ((congrFun (up2_n _ _ (by decide)) _).trans ((congrFun (up2_n _ _ (by decide)) _).trans ((congrFun (up2_n _ _ (by decide)) _).trans ((congrFun (up2_n _ _ (by decide)) _).trans (up2_at _ _ _ _)))))))
            have hp_33 : ((up2 (up2 (up2 (up2 (up2 (up2 (up2 i 391 ((i 36 23).toInt).toNat (i 36 9)) 390 ((i 36 23).toInt).toNat z_16) 36 27 z_18) 36 23 z_20) 36 8 6) 36 9 0) 36 10 0) 36 27).toInt = (z_18 : Int32).toInt := congrArg Int32.toInt (((up2_k _ _ (by decide)).trans ((up2_k _ _ (by decide)).trans ((up2_k _ _ (by decide)).trans ((up2_k _ _ (by decide)).trans (up2_at _ _ _ _))))))
            have hp_34 : ((up2 (up2 (up2 (up2 (up2 (up2 (up2 i 391 ((i 36 23).toInt).toNat (i 36 9)) 390 ((i 36 23).toInt).toNat z_16) 36 27 z_18) 36 23 z_20) 36 8 6) 36 9 0) 36 10 0) 36 23).toInt = (z_20 : Int32).toInt := congrArg Int32.toInt (((up2_k _ _ (by decide)).trans ((up2_k _ _ (by decide)).trans ((up2_k _ _ (by decide)).trans (up2_at _ _ _ _)))))
            have hV_35 : ((0 : Int32).toInt = 5 ∧ ((x.toInt = 4 ∧ (i 36 11).toInt = 5) ∨ (x.toInt = 6 ∧ (i 36 13).toInt = 12) ∨ (x.toInt = 7 ∧ (i 36 23).toInt = 12)) ∧ (up2 (up2 (up2 (up2 (up2 (up2 (up2 i 391 ((i 36 23).toInt).toNat (i 36 9)) 390 ((i 36 23).toInt).toNat z_16) 36 27 z_18) 36 23 z_20) 36 8 6) 36 9 0) 36 10 0) = i) ∨ ((0 : Int32).toInt = 0 ∧ ¬ ((x.toInt = 4 ∧ (i 36 11).toInt = 5) ∨ (x.toInt = 6 ∧ (i 36 13).toInt = 12) ∨ (x.toInt = 7 ∧ (i 36 23).toInt = 12)) ∧ hdM i (up2 (up2 (up2 (up2 (up2 (up2 (up2 i 391 ((i 36 23).toInt).toNat (i 36 9)) 390 ((i 36 23).toInt).toNat z_16) 36 27 z_18) 36 23 z_20) 36 8 6) 36 9 0) 36 10 0) x.toInt) := (Or.inr ⟨by rfl, by omega, Or.inr (Or.inr (Or.inr ⟨by omega, by omega, by omega, by omega, by omega, (fun j hj => ⟨((up2_o _ _ (by omega)).trans ((up2_o _ _ (by omega)).trans ((up2_o _ _ (by omega)).trans ((up2_o _ _ (by omega)).trans ((up2_o _ _ (by omega)).trans ((up2_o _ _ (by omega)).trans (up2_o _ _ (by omega)))))))), ((up2_o _ _ (by omega)).trans ((up2_o _ _ (by omega)).trans ((up2_o _ _ (by omega)).trans ((up2_o _ _ (by omega)).trans ((up2_o _ _ (by omega)).trans ((up2_o _ _ (by omega)).trans (up2_o _ _ (by omega))))))))⟩), by omega, by omega, by omega, (fun b hb => by
                  have hb9 : b ≠ 23 ∧ b ≠ 27 ∧ b ≠ 8 ∧ b ≠ 9 ∧ b ≠ 10 := ⟨fun e9 => hb (by rw [e9]; decide), fun e9 => hb (by rw [e9]; decide), fun e9 => hb (by rw [e9]; decide), fun e9 => hb (by rw [e9]; decide), fun e9 => hb (by rw [e9]; decide)⟩
                  exact ((up2_o _ _ (by omega)).trans ((up2_o _ _ (by omega)).trans ((up2_o _ _ (by omega)).trans ((up2_o _ _ (by omega)).trans ((up2_o _ _ (by omega)).trans ((up2_o _ _ (by omega)).trans (up2_o _ _ (by omega))))))))), (fun a h1 h2 => by
                  have h9 : a ≠ 390 ∧ a ≠ 391 := ⟨fun e9 => h2 (by rw [e9]; decide), fun e9 => h2 (by rw [e9]; decide)⟩
                  exact funext fun b => ((up2_o _ _ (by omega)).trans ((up2_o _ _ (by omega)).trans ((up2_o _ _ (by omega)).trans ((up2_o _ _ (by omega)).trans ((up2_o _ _ (by omega)).trans ((up2_o _ _ (by omega)).trans (up2_o _ _ (by omega)))))))))⟩))⟩)
            exact sj_zret hx hb hr hlocks rfl hS (up2 (up2 (up2 (up2 (up2 (up2 (up2 i 391 ((i 36 23).toInt).toNat (i 36 9)) 390 ((i 36 23).toInt).toNat z_16) 36 27 z_18) 36 23 z_20) 36 8 6) 36 9 0) 36 10 0) ⟨hO_24, (fun a b ha => ((up2_o _ _ (by omega)).trans ((up2_o _ _ (by omega)).trans ((up2_o _ _ (by omega)).trans ((up2_o _ _ (by omega)).trans ((up2_o _ _ (by omega)).trans ((up2_o _ _ (by omega)).trans (up2_o _ _ (by omega))))))))), ⟨by decide, by decide⟩, hV_35⟩ hH (sj_Knil hK) (Nat.le_of_ble_eq_true rfl) (Nat.le_of_ble_eq_true rfl) dX12_title_227
          · skip
            have h_36 := s_eq (rfl : x.toInt = _) (show (6 : Int32).toInt = 6 from rfl) c_10
            refine lv_aload_n hx hb dX12_title_97 rfl (lv_at hl 0 rfl) ?_
            refine h_getr (ci := 12) (C := RX12) (F := TX12) (N := 86) hx hb hts in12 hown hK hH (by decide) (rfl : kd 36 = 12) (by decide) rfl 14 (by decide) wd8 (fun _ h9 => h9) (by decide) rfl (t := 383) (hR 36 14 rfl) (by decide) dX12_title_98 ?_
            refine lv_aload_n hx hb dX12_title_101 rfl (lv_at hl 0 rfl) ?_
            have bx_37 : (0 : Int) ≤ (i 36 13).toInt ∧ (i 36 13).toInt ≤ 12 := hO 36 13
            refine h_geti (ci := 12) (C := RX12) (F := TX12) (N := 86) hx hb hts in12 hown hK hH (by decide) (rfl : kd 36 = 12) (by decide) rfl 13 (by decide) wd4 (fun _ h9 => h9) (by decide) rfl dX12_title_102 ?_
            refine lv_aload_n hx hb dX12_title_105 rfl (lv_at hl 0 rfl) ?_
            have bx_38 : (0 : Int) ≤ (i 36 9).toInt ∧ (i 36 9).toInt ≤ 65535 := hO 36 9
            refine h_geti (ci := 12) (C := RX12) (F := TX12) (N := 86) hx hb hts in12 hown hK hH (by decide) (rfl : kd 36 = 12) (by decide) rfl 9 (by decide) wd2 (fun _ h9 => h9) (by decide) rfl dX12_title_106 ?_
            have hO_39 := okp hO (n := 383) (k := ((i 36 13).toInt).toNat) (v := (i 36 9)) (show (0 : Int) ≤ ((i 36 9) : Int32).toInt ∧ ((i 36 9) : Int32).toInt ≤ 65535 from ⟨by omega, by omega⟩)
            refine h_iast hx hb hK hH hS (by decide) (rfl : kd 383 = 13) (s_vin (N := 12) (rfl : (i 36 13).toInt = _) (rfl : ln 383 = 12) (by omega) (by omega)) dX12_title_109 (fun H locs hH hS => ?_)
            rw [s_cl (show (i 36 13).toInt = (i 36 13).toInt by omega)] at hH
            refine lv_aload_n hx hb dX12_title_110 rfl (lv_at hl 0 rfl) ?_
            refine h_getr (ci := 12) (C := RX12) (F := TX12) (N := 86) hx hb hts in12 hown hK hH (by decide) (rfl : kd 36 = 12) (by decide) rfl 15 (by decide) wd9 (fun _ h9 => h9) (by decide) rfl (t := 384) (hR 36 15 rfl) (by decide) dX12_title_111 ?_
            refine lv_aload_n hx hb dX12_title_114 rfl (lv_at hl 0 rfl) ?_
            refine h_geti (ci := 12) (C := RX12) (F := TX12) (N := 86) hx hb hts in12 hown hK hH (by decide) (rfl : kd 36 = 12) (by decide) rfl 13 (by decide) wd4 (fun _ h9 => h9) (by decide) rfl dX12_title_115 ?_
            refine sj_i (y := (i 36 13)) (congrFun (up2_n _ _ (by decide)) _) ?_
            refine lv_iload_n hx hb dX12_title_118 rfl (lv_at hl 2 rfl) ?_
            have hO_40 := okp hO_39 (n := 384) (k := ((i 36 13).toInt).toNat) (v := y) (show (-2147483648 : Int) ≤ (y : Int32).toInt ∧ (y : Int32).toInt ≤ 2147483647 from s_rng y)
            refine h_iast hx hb hK hH hS (by decide) (rfl : kd 384 = 13) (s_vin (N := 12) (rfl : (i 36 13).toInt = _) (rfl : ln 384 = 12) (by omega) (by omega)) dX12_title_119 (fun H locs hH hS => ?_)
            rw [s_cl (show (i 36 13).toInt = (i 36 13).toInt by omega)] at hH
            refine lv_aload_n hx hb dX12_title_120 rfl (lv_at hl 0 rfl) ?_
            refine h_getr (ci := 12) (C := RX12) (F := TX12) (N := 86) hx hb hts in12 hown hK hH (by decide) (rfl : kd 36 = 12) (by decide) rfl 16 (by decide) wd10 (fun _ h9 => h9) (by decide) rfl (t := 385) (hR 36 16 rfl) (by decide) dX12_title_121 ?_
            refine lv_aload_n hx hb dX12_title_124 rfl (lv_at hl 0 rfl) ?_
            refine h_geti (ci := 12) (C := RX12) (F := TX12) (N := 86) hx hb hts in12 hown hK hH (by decide) (rfl : kd 36 = 12) (by decide) rfl 13 (by decide) wd4 (fun _ h9 => h9) (by decide) rfl dX12_title_125 ?_
            refine sj_i (y := (i 36 13)) ((congrFun (up2_n _ _ (by decide)) _).trans (congrFun (up2_n _ _ (by decide)) _)) ?_
            refine lv_aload_n hx hb dX12_title_128 rfl (lv_at hl 0 rfl) ?_
            have bx_41 : (0 : Int) ≤ (i 36 11).toInt ∧ (i 36 11).toInt ≤ 5 := hO 36 11
            refine h_geti (ci := 12) (C := RX12) (F := TX12) (N := 86) hx hb hts in12 hown hK hH (by decide) (rfl : kd 36 = 12) (by decide) rfl 11 (by decide) wd11 (fun _ h9 => h9) (by decide) rfl dX12_title_129 ?_
            refine sj_i (y := (i 36 11)) ((congrFun (up2_n _ _ (by decide)) _).trans (congrFun (up2_n _ _ (by decide)) _)) ?_
            refine lv_iconst (v := 1) hx hb dX12_title_132 (by decide) ?_
            refine lv_isub hx hb dX12_title_133 ?_
            obtain ⟨z_42, ez_42, hz_42⟩ := s_sub (rfl : (i 36 11).toInt = _) (show (1 : Int32).toInt = 1 from rfl) (by omega) (by omega)
            refine sj_i ez_42 ?_
            have hO_43 := okp hO_40 (n := 385) (k := ((i 36 13).toInt).toNat) (v := z_42) (show (0 : Int) ≤ (z_42 : Int32).toInt ∧ (z_42 : Int32).toInt ≤ 4 from ⟨by omega, by omega⟩)
            refine h_iast hx hb hK hH hS (by decide) (rfl : kd 385 = 13) (s_vin (N := 12) (rfl : (i 36 13).toInt = _) (rfl : ln 385 = 12) (by omega) (by omega)) dX12_title_134 (fun H locs hH hS => ?_)
            rw [s_cl (show (i 36 13).toInt = (i 36 13).toInt by omega)] at hH
            refine lv_aload_n hx hb dX12_title_135 rfl (lv_at hl 0 rfl) ?_
            refine lv_aload_n hx hb dX12_title_136 rfl (lv_at hl 0 rfl) ?_
            refine h_geti (ci := 12) (C := RX12) (F := TX12) (N := 86) hx hb hts in12 hown hK hH (by decide) (rfl : kd 36 = 12) (by decide) rfl 13 (by decide) wd4 (fun _ h9 => h9) (by decide) rfl dX12_title_137 ?_
            refine sj_i (y := (i 36 13)) ((congrFun (up2_n _ _ (by decide)) _).trans ((congrFun (up2_n _ _ (by decide)) _).trans (congrFun (up2_n _ _ (by decide)) _))) ?_
            have hO_44 := okp hO_43 (n := 36) (k := 18) (v := (i 36 13)) (show (0 : Int) ≤ ((i 36 13) : Int32).toInt ∧ ((i 36 13) : Int32).toInt ≤ 24 from ⟨by omega, by omega⟩)
            refine h_puti (ty := .int) (ci := 12) (C := RX12) (F := TX12) (N := 86) hx hb hts in12 tyX12 tyX12_ok nmX12 hown hK hH hS (by decide) (rfl : kd 36 = 12) (by decide) rfl 18 (by decide) wd12 (fun _ h9 => h9) rfl (by decide +kernel) rfl rfl (by decide) rfl dX12_title_140 (fun H locs hH hS => ?_)
            refine lv_aload_n hx hb dX12_title_143 rfl (lv_at hl 0 rfl) ?_
            refine lv_dup hx hb dX12_title_144 rfl ?_
            refine h_geti (ci := 12) (C := RX12) (F := TX12) (N := 86) hx hb hts in12 hown hK hH (by decide) (rfl : kd 36 = 12) (by decide) rfl 13 (by decide) wd4 (fun _ h9 => h9) (by decide) rfl dX12_title_145 ?_
            refine sj_i (y := (i 36 13)) ((up2_k _ _ (by decide)).trans ((congrFun (up2_n _ _ (by decide)) _).trans ((congrFun (up2_n _ _ (by decide)) _).trans (congrFun (up2_n _ _ (by decide)) _)))) ?_
            refine lv_iconst (v := 1) hx hb dX12_title_148 (by decide) ?_
            refine lv_iadd hx hb dX12_title_149 ?_
            obtain ⟨z_45, ez_45, hz_45⟩ := s_add (rfl : (i 36 13).toInt = _) (show (1 : Int32).toInt = 1 from rfl) (by omega) (by omega)
            refine sj_i ez_45 ?_
            have hO_46 := okp hO_44 (n := 36) (k := 13) (v := z_45) (show (0 : Int) ≤ (z_45 : Int32).toInt ∧ (z_45 : Int32).toInt ≤ 12 from ⟨by omega, by omega⟩)
            refine h_puti (ty := .int) (ci := 12) (C := RX12) (F := TX12) (N := 86) hx hb hts in12 tyX12 tyX12_ok nmX12 hown hK hH hS (by decide) (rfl : kd 36 = 12) (by decide) rfl 13 (by decide) wd4 (fun _ h9 => h9) rfl (by decide +kernel) rfl rfl (by decide) rfl dX12_title_150 (fun H locs hH hS => ?_)
            refine lv_aload_n hx hb dX12_title_153 rfl (lv_at hl 0 rfl) ?_
            refine lv_iconst (v := 4) hx hb dX12_title_154 (by decide) ?_
            have hO_47 := okp hO_46 (n := 36) (k := 8) (v := 4) (show (0 : Int) ≤ (4 : Int32).toInt ∧ (4 : Int32).toInt ≤ 8 from ⟨by decide, by decide⟩)
            refine h_puti (ty := .int) (ci := 12) (C := RX12) (F := TX12) (N := 86) hx hb hts in12 tyX12 tyX12_ok nmX12 hown hK hH hS (by decide) (rfl : kd 36 = 12) (by decide) rfl 8 (by decide) wd6 (fun _ h9 => h9) rfl (by decide +kernel) rfl rfl (by decide) rfl dX12_title_155 (fun H locs hH hS => ?_)
            refine lv_goto (tgt := 216) hx hb dX12_title_158 (by decide) ?_
            refine lv_aload_n hx hb dX12_title_216 rfl (lv_at hl 0 rfl) ?_
            refine lv_iconst (v := 0) hx hb dX12_title_217 (by decide) ?_
            have hO_48 := okp hO_47 (n := 36) (k := 9) (v := 0) (show (0 : Int) ≤ (0 : Int32).toInt ∧ (0 : Int32).toInt ≤ 65535 from ⟨by decide, by decide⟩)
            refine h_puti (ty := .int) (ci := 12) (C := RX12) (F := TX12) (N := 86) hx hb hts in12 tyX12 tyX12_ok nmX12 hown hK hH hS (by decide) (rfl : kd 36 = 12) (by decide) rfl 9 (by decide) wd2 (fun _ h9 => h9) rfl (by decide +kernel) rfl rfl (by decide) rfl dX12_title_218 (fun H locs hH hS => ?_)
            refine lv_aload_n hx hb dX12_title_221 rfl (lv_at hl 0 rfl) ?_
            refine lv_iconst (v := 0) hx hb dX12_title_222 (by decide) ?_
            have hO_49 := okp hO_48 (n := 36) (k := 10) (v := 0) (show (0 : Int) ≤ (0 : Int32).toInt ∧ (0 : Int32).toInt ≤ 1 from ⟨by decide, by decide⟩)
            refine h_puti (ty := .boolean) (ci := 12) (C := RX12) (F := TX12) (N := 86) hx hb hts in12 tyX12 tyX12_ok nmX12 hown hK hH hS (by decide) (rfl : kd 36 = 12) (by decide) rfl 10 (by decide) wd7 (fun _ h9 => h9) rfl (by decide +kernel) (by decide +kernel) (by decide +kernel) (by decide) rfl dX12_title_223 (fun H locs hH hS => ?_)
            refine lv_iconst (v := 0) hx hb dX12_title_226 (by decide) ?_
            have hp_50 : ((up2 (up2 (up2 (up2 (up2 (up2 (up2 (up2 i 383 ((i 36 13).toInt).toNat (i 36 9)) 384 ((i 36 13).toInt).toNat y) 385 ((i 36 13).toInt).toNat z_42) 36 18 (i 36 13)) 36 13 z_45) 36 8 4) 36 9 0) 36 10 0) 36 8).toInt = (4 : Int32).toInt := congrArg Int32.toInt (((up2_k _ _ (by decide)).trans ((up2_k _ _ (by decide)).trans (up2_at _ _ _ _))))
            have hl_51 : (4 : Int32).toInt = 4 := rfl
            have hp_52 : ((up2 (up2 (up2 (up2 (up2 (up2 (up2 (up2 i 383 ((i 36 13).toInt).toNat (i 36 9)) 384 ((i 36 13).toInt).toNat y) 385 ((i 36 13).toInt).toNat z_42) 36 18 (i 36 13)) 36 13 z_45) 36 8 4) 36 9 0) 36 10 0) 36 9).toInt = (0 : Int32).toInt := congrArg Int32.toInt (((up2_k _ _ (by decide)).trans (up2_at _ _ _ _)))
            have hl_53 : (0 : Int32).toInt = 0 := rfl
            have hp_54 : ((up2 (up2 (up2 (up2 (up2 (up2 (up2 (up2 i 383 ((i 36 13).toInt).toNat (i 36 9)) 384 ((i 36 13).toInt).toNat y) 385 ((i 36 13).toInt).toNat z_42) 36 18 (i 36 13)) 36 13 z_45) 36 8 4) 36 9 0) 36 10 0) 36 10).toInt = (0 : Int32).toInt := congrArg Int32.toInt ((up2_at _ _ _ _))
            have hl_55 : (0 : Int32).toInt = 0 := rfl
            have hp_56 : ((up2 (up2 (up2 (up2 (up2 (up2 (up2 (up2 i 383 ((i 36 13).toInt).toNat (i 36 9)) 384 ((i 36 13).toInt).toNat y) 385 ((i 36 13).toInt).toNat z_42) 36 18 (i 36 13)) 36 13 z_45) 36 8 4) 36 9 0) 36 10 0) 383 (i 36 13).toInt.toNat).toInt = ((i 36 9) : Int32).toInt := congrArg Int32.toInt (((congrFun (up2_n _ _ (by decide)) _).trans ((congrFun (up2_n _ _ (by decide)) _).trans ((congrFun (up2_n _ _ (by decide)) _).trans ((congrFun (up2_n _ _ (by decide)) _).trans ((congrFun (up2_n _ _ (by decide)) _).trans ((congrFun (up2_n _ _ (by decide)) _).trans ((congrFun (up2_n _ _ (by decide)) _).trans (up2_at _ _ _ _)))))))))
            have hp_57 : ((up2 (up2 (up2 (up2 (up2 (up2 (up2 (up2 i 383 ((i 36 13).toInt).toNat (i 36 9)) 384 ((i 36 13).toInt).toNat y) 385 ((i 36 13).toInt).toNat z_42) 36 18 (i 36 13)) 36 13 z_45) 36 8 4) 36 9 0) 36 10 0) 385 (i 36 13).toInt.toNat).toInt = (z_42 : Int32).toInt := congrArg Int32.toInt (((congrFun (up2_n _ _ (by decide)) _).trans ((congrFun (up2_n _ _ (by decide)) _).trans ((congrFun (up2_n _ _ (by decide)) _).trans ((congrFun (up2_n _ _ (by decide)) _).trans ((congrFun (up2_n _ _ (by decide)) _).trans (up2_at _ _ _ _)))))))
            have hp_58 : ((up2 (up2 (up2 (up2 (up2 (up2 (up2 (up2 i 383 ((i 36 13).toInt).toNat (i 36 9)) 384 ((i 36 13).toInt).toNat y) 385 ((i 36 13).toInt).toNat z_42) 36 18 (i 36 13)) 36 13 z_45) 36 8 4) 36 9 0) 36 10 0) 36 18).toInt = ((i 36 13) : Int32).toInt := congrArg Int32.toInt (((up2_k _ _ (by decide)).trans ((up2_k _ _ (by decide)).trans ((up2_k _ _ (by decide)).trans ((up2_k _ _ (by decide)).trans (up2_at _ _ _ _))))))
            have hp_59 : ((up2 (up2 (up2 (up2 (up2 (up2 (up2 (up2 i 383 ((i 36 13).toInt).toNat (i 36 9)) 384 ((i 36 13).toInt).toNat y) 385 ((i 36 13).toInt).toNat z_42) 36 18 (i 36 13)) 36 13 z_45) 36 8 4) 36 9 0) 36 10 0) 36 13).toInt = (z_45 : Int32).toInt := congrArg Int32.toInt (((up2_k _ _ (by decide)).trans ((up2_k _ _ (by decide)).trans ((up2_k _ _ (by decide)).trans (up2_at _ _ _ _)))))
            have hV_60 : ((0 : Int32).toInt = 5 ∧ ((x.toInt = 4 ∧ (i 36 11).toInt = 5) ∨ (x.toInt = 6 ∧ (i 36 13).toInt = 12) ∨ (x.toInt = 7 ∧ (i 36 23).toInt = 12)) ∧ (up2 (up2 (up2 (up2 (up2 (up2 (up2 (up2 i 383 ((i 36 13).toInt).toNat (i 36 9)) 384 ((i 36 13).toInt).toNat y) 385 ((i 36 13).toInt).toNat z_42) 36 18 (i 36 13)) 36 13 z_45) 36 8 4) 36 9 0) 36 10 0) = i) ∨ ((0 : Int32).toInt = 0 ∧ ¬ ((x.toInt = 4 ∧ (i 36 11).toInt = 5) ∨ (x.toInt = 6 ∧ (i 36 13).toInt = 12) ∨ (x.toInt = 7 ∧ (i 36 23).toInt = 12)) ∧ hdM i (up2 (up2 (up2 (up2 (up2 (up2 (up2 (up2 i 383 ((i 36 13).toInt).toNat (i 36 9)) 384 ((i 36 13).toInt).toNat y) 385 ((i 36 13).toInt).toNat z_42) 36 18 (i 36 13)) 36 13 z_45) 36 8 4) 36 9 0) 36 10 0) x.toInt) := (Or.inr ⟨by rfl, by omega, Or.inr (Or.inr (Or.inl ⟨by omega, by omega, by omega, by omega, by omega, (fun j hj => ⟨((up2_o _ _ (by omega)).trans ((up2_o _ _ (by omega)).trans ((up2_o _ _ (by omega)).trans ((up2_o _ _ (by omega)).trans ((up2_o _ _ (by omega)).trans ((up2_o _ _ (by omega)).trans ((up2_o _ _ (by omega)).trans (up2_o _ _ (by omega))))))))), ((up2_o _ _ (by omega)).trans ((up2_o _ _ (by omega)).trans ((up2_o _ _ (by omega)).trans ((up2_o _ _ (by omega)).trans ((up2_o _ _ (by omega)).trans ((up2_o _ _ (by omega)).trans ((up2_o _ _ (by omega)).trans (up2_o _ _ (by omega)))))))))⟩), by omega, by omega, by omega, (fun b hb => by
                  have hb9 : b ≠ 13 ∧ b ≠ 18 ∧ b ≠ 8 ∧ b ≠ 9 ∧ b ≠ 10 := ⟨fun e9 => hb (by rw [e9]; decide), fun e9 => hb (by rw [e9]; decide), fun e9 => hb (by rw [e9]; decide), fun e9 => hb (by rw [e9]; decide), fun e9 => hb (by rw [e9]; decide)⟩
                  exact ((up2_o _ _ (by omega)).trans ((up2_o _ _ (by omega)).trans ((up2_o _ _ (by omega)).trans ((up2_o _ _ (by omega)).trans ((up2_o _ _ (by omega)).trans ((up2_o _ _ (by omega)).trans ((up2_o _ _ (by omega)).trans (up2_o _ _ (by omega)))))))))), (fun a h1 h2 => by
                  have h9 : a ≠ 383 ∧ a ≠ 384 ∧ a ≠ 385 := ⟨fun e9 => h2 (by rw [e9]; decide), fun e9 => h2 (by rw [e9]; decide), fun e9 => h2 (by rw [e9]; decide)⟩
                  exact funext fun b => ((up2_o _ _ (by omega)).trans ((up2_o _ _ (by omega)).trans ((up2_o _ _ (by omega)).trans ((up2_o _ _ (by omega)).trans ((up2_o _ _ (by omega)).trans ((up2_o _ _ (by omega)).trans ((up2_o _ _ (by omega)).trans (up2_o _ _ (by omega))))))))))⟩))⟩)
            exact sj_zret hx hb hr hlocks rfl hS (up2 (up2 (up2 (up2 (up2 (up2 (up2 (up2 i 383 ((i 36 13).toInt).toNat (i 36 9)) 384 ((i 36 13).toInt).toNat y) 385 ((i 36 13).toInt).toNat z_42) 36 18 (i 36 13)) 36 13 z_45) 36 8 4) 36 9 0) 36 10 0) ⟨hO_49, (fun a b ha => ((up2_o _ _ (by omega)).trans ((up2_o _ _ (by omega)).trans ((up2_o _ _ (by omega)).trans ((up2_o _ _ (by omega)).trans ((up2_o _ _ (by omega)).trans ((up2_o _ _ (by omega)).trans ((up2_o _ _ (by omega)).trans (up2_o _ _ (by omega)))))))))), ⟨by decide, by decide⟩, hV_60⟩ hH (sj_Knil hK) (Nat.le_of_ble_eq_true rfl) (Nat.le_of_ble_eq_true rfl) dX12_title_227
        · skip
          have h_61 := s_nle (show (5 : Int32).toInt = 5 from rfl) (rfl : x.toInt = _) c_8
          refine lv_aload_n hx hb dX12_title_50 rfl (lv_at hl 0 rfl) ?_
          refine h_getr (ci := 12) (C := RX12) (F := TX12) (N := 86) hx hb hts in12 hown hK hH (by decide) (rfl : kd 36 = 12) (by decide) rfl 12 (by decide) wd13 (fun _ h9 => h9) (by decide) rfl (t := 382) (hR 36 12 rfl) (by decide) dX12_title_51 ?_
          refine lv_aload_n hx hb dX12_title_54 rfl (lv_at hl 0 rfl) ?_
          have bx_62 : (0 : Int) ≤ (i 36 11).toInt ∧ (i 36 11).toInt ≤ 5 := hO 36 11
          refine h_geti (ci := 12) (C := RX12) (F := TX12) (N := 86) hx hb hts in12 hown hK hH (by decide) (rfl : kd 36 = 12) (by decide) rfl 11 (by decide) wd11 (fun _ h9 => h9) (by decide) rfl dX12_title_55 ?_
          refine lv_aload_n hx hb dX12_title_58 rfl (lv_at hl 0 rfl) ?_
          have bx_63 : (0 : Int) ≤ (i 36 9).toInt ∧ (i 36 9).toInt ≤ 65535 := hO 36 9
          refine h_geti (ci := 12) (C := RX12) (F := TX12) (N := 86) hx hb hts in12 hown hK hH (by decide) (rfl : kd 36 = 12) (by decide) rfl 9 (by decide) wd2 (fun _ h9 => h9) (by decide) rfl dX12_title_59 ?_
          have hO_64 := okp hO (n := 382) (k := ((i 36 11).toInt).toNat) (v := (i 36 9)) (show (0 : Int) ≤ ((i 36 9) : Int32).toInt ∧ ((i 36 9) : Int32).toInt ≤ 65535 from ⟨by omega, by omega⟩)
          refine h_iast hx hb hK hH hS (by decide) (rfl : kd 382 = 13) (s_vin (N := 5) (rfl : (i 36 11).toInt = _) (rfl : ln 382 = 5) (by omega) (by omega)) dX12_title_62 (fun H locs hH hS => ?_)
          rw [s_cl (show (i 36 11).toInt = (i 36 11).toInt by omega)] at hH
          refine lv_aload_n hx hb dX12_title_63 rfl (lv_at hl 0 rfl) ?_
          refine lv_dup hx hb dX12_title_64 rfl ?_
          refine h_geti (ci := 12) (C := RX12) (F := TX12) (N := 86) hx hb hts in12 hown hK hH (by decide) (rfl : kd 36 = 12) (by decide) rfl 11 (by decide) wd11 (fun _ h9 => h9) (by decide) rfl dX12_title_65 ?_
          refine sj_i (y := (i 36 11)) (congrFun (up2_n _ _ (by decide)) _) ?_
          refine lv_iconst (v := 1) hx hb dX12_title_68 (by decide) ?_
          refine lv_iadd hx hb dX12_title_69 ?_
          obtain ⟨z_65, ez_65, hz_65⟩ := s_add (rfl : (i 36 11).toInt = _) (show (1 : Int32).toInt = 1 from rfl) (by omega) (by omega)
          refine sj_i ez_65 ?_
          have hO_66 := okp hO_64 (n := 36) (k := 11) (v := z_65) (show (0 : Int) ≤ (z_65 : Int32).toInt ∧ (z_65 : Int32).toInt ≤ 5 from ⟨by omega, by omega⟩)
          refine h_puti (ty := .int) (ci := 12) (C := RX12) (F := TX12) (N := 86) hx hb hts in12 tyX12 tyX12_ok nmX12 hown hK hH hS (by decide) (rfl : kd 36 = 12) (by decide) rfl 11 (by decide) wd11 (fun _ h9 => h9) rfl (by decide +kernel) rfl rfl (by decide) rfl dX12_title_70 (fun H locs hH hS => ?_)
          refine lv_aload_n hx hb dX12_title_73 rfl (lv_at hl 0 rfl) ?_
          refine lv_iload_n hx hb dX12_title_74 rfl (lv_at hl 1 rfl) ?_
          refine lv_iconst (v := 3) hx hb dX12_title_75 (by decide) ?_
          refine lv_icmp_ne (tgt := 83) hx hb dX12_title_76 (by decide) (fun c_67 => ?_) (fun c_67 => ?_)
          · skip
            have h_68 := s_ne (rfl : x.toInt = _) (show (3 : Int32).toInt = 3 from rfl) c_67
            refine lv_bipush (v := 8) hx hb dX12_title_83 (by decide) ?_
            have hO_69 := okp hO_66 (n := 36) (k := 8) (v := 8) (show (0 : Int) ≤ (8 : Int32).toInt ∧ (8 : Int32).toInt ≤ 8 from ⟨by decide, by decide⟩)
            refine h_puti (ty := .int) (ci := 12) (C := RX12) (F := TX12) (N := 86) hx hb hts in12 tyX12 tyX12_ok nmX12 hown hK hH hS (by decide) (rfl : kd 36 = 12) (by decide) rfl 8 (by decide) wd6 (fun _ h9 => h9) rfl (by decide +kernel) rfl rfl (by decide) rfl dX12_title_85 (fun H locs hH hS => ?_)
            refine lv_goto (tgt := 216) hx hb dX12_title_88 (by decide) ?_
            refine lv_aload_n hx hb dX12_title_216 rfl (lv_at hl 0 rfl) ?_
            refine lv_iconst (v := 0) hx hb dX12_title_217 (by decide) ?_
            have hO_70 := okp hO_69 (n := 36) (k := 9) (v := 0) (show (0 : Int) ≤ (0 : Int32).toInt ∧ (0 : Int32).toInt ≤ 65535 from ⟨by decide, by decide⟩)
            refine h_puti (ty := .int) (ci := 12) (C := RX12) (F := TX12) (N := 86) hx hb hts in12 tyX12 tyX12_ok nmX12 hown hK hH hS (by decide) (rfl : kd 36 = 12) (by decide) rfl 9 (by decide) wd2 (fun _ h9 => h9) rfl (by decide +kernel) rfl rfl (by decide) rfl dX12_title_218 (fun H locs hH hS => ?_)
            refine lv_aload_n hx hb dX12_title_221 rfl (lv_at hl 0 rfl) ?_
            refine lv_iconst (v := 0) hx hb dX12_title_222 (by decide) ?_
            have hO_71 := okp hO_70 (n := 36) (k := 10) (v := 0) (show (0 : Int) ≤ (0 : Int32).toInt ∧ (0 : Int32).toInt ≤ 1 from ⟨by decide, by decide⟩)
            refine h_puti (ty := .boolean) (ci := 12) (C := RX12) (F := TX12) (N := 86) hx hb hts in12 tyX12 tyX12_ok nmX12 hown hK hH hS (by decide) (rfl : kd 36 = 12) (by decide) rfl 10 (by decide) wd7 (fun _ h9 => h9) rfl (by decide +kernel) (by decide +kernel) (by decide +kernel) (by decide) rfl dX12_title_223 (fun H locs hH hS => ?_)
            refine lv_iconst (v := 0) hx hb dX12_title_226 (by decide) ?_
            have hp_72 : ((up2 (up2 (up2 (up2 (up2 i 382 ((i 36 11).toInt).toNat (i 36 9)) 36 11 z_65) 36 8 8) 36 9 0) 36 10 0) 36 8).toInt = (8 : Int32).toInt := congrArg Int32.toInt (((up2_k _ _ (by decide)).trans ((up2_k _ _ (by decide)).trans (up2_at _ _ _ _))))
            have hl_73 : (8 : Int32).toInt = 8 := rfl
            have hp_74 : ((up2 (up2 (up2 (up2 (up2 i 382 ((i 36 11).toInt).toNat (i 36 9)) 36 11 z_65) 36 8 8) 36 9 0) 36 10 0) 36 9).toInt = (0 : Int32).toInt := congrArg Int32.toInt (((up2_k _ _ (by decide)).trans (up2_at _ _ _ _)))
            have hl_75 : (0 : Int32).toInt = 0 := rfl
            have hp_76 : ((up2 (up2 (up2 (up2 (up2 i 382 ((i 36 11).toInt).toNat (i 36 9)) 36 11 z_65) 36 8 8) 36 9 0) 36 10 0) 36 10).toInt = (0 : Int32).toInt := congrArg Int32.toInt ((up2_at _ _ _ _))
            have hl_77 : (0 : Int32).toInt = 0 := rfl
            have hp_78 : ((up2 (up2 (up2 (up2 (up2 i 382 ((i 36 11).toInt).toNat (i 36 9)) 36 11 z_65) 36 8 8) 36 9 0) 36 10 0) 382 (i 36 11).toInt.toNat).toInt = ((i 36 9) : Int32).toInt := congrArg Int32.toInt (((congrFun (up2_n _ _ (by decide)) _).trans ((congrFun (up2_n _ _ (by decide)) _).trans ((congrFun (up2_n _ _ (by decide)) _).trans ((congrFun (up2_n _ _ (by decide)) _).trans (up2_at _ _ _ _))))))
            have hp_79 : ((up2 (up2 (up2 (up2 (up2 i 382 ((i 36 11).toInt).toNat (i 36 9)) 36 11 z_65) 36 8 8) 36 9 0) 36 10 0) 36 11).toInt = (z_65 : Int32).toInt := congrArg Int32.toInt (((up2_k _ _ (by decide)).trans ((up2_k _ _ (by decide)).trans ((up2_k _ _ (by decide)).trans (up2_at _ _ _ _)))))
            have hV_80 : ((0 : Int32).toInt = 5 ∧ ((x.toInt = 4 ∧ (i 36 11).toInt = 5) ∨ (x.toInt = 6 ∧ (i 36 13).toInt = 12) ∨ (x.toInt = 7 ∧ (i 36 23).toInt = 12)) ∧ (up2 (up2 (up2 (up2 (up2 i 382 ((i 36 11).toInt).toNat (i 36 9)) 36 11 z_65) 36 8 8) 36 9 0) 36 10 0) = i) ∨ ((0 : Int32).toInt = 0 ∧ ¬ ((x.toInt = 4 ∧ (i 36 11).toInt = 5) ∨ (x.toInt = 6 ∧ (i 36 13).toInt = 12) ∨ (x.toInt = 7 ∧ (i 36 23).toInt = 12)) ∧ hdM i (up2 (up2 (up2 (up2 (up2 i 382 ((i 36 11).toInt).toNat (i 36 9)) 36 11 z_65) 36 8 8) 36 9 0) 36 10 0) x.toInt) := (Or.inr ⟨by rfl, by omega, Or.inl ⟨by omega, by omega, by omega, by omega, (fun j hj => ((up2_o _ _ (by omega)).trans ((up2_o _ _ (by omega)).trans ((up2_o _ _ (by omega)).trans ((up2_o _ _ (by omega)).trans (up2_o _ _ (by omega))))))), by omega, (fun b hb => by
                  have hb9 : b ≠ 11 ∧ b ≠ 8 ∧ b ≠ 9 ∧ b ≠ 10 := ⟨fun e9 => hb (by rw [e9]; decide), fun e9 => hb (by rw [e9]; decide), fun e9 => hb (by rw [e9]; decide), fun e9 => hb (by rw [e9]; decide)⟩
                  exact ((up2_o _ _ (by omega)).trans ((up2_o _ _ (by omega)).trans ((up2_o _ _ (by omega)).trans ((up2_o _ _ (by omega)).trans (up2_o _ _ (by omega))))))), (fun a h1 h2 => by
                  have h9 : a ≠ 382 := fun e9 => h2 (by rw [e9]; decide)
                  exact funext fun b => ((up2_o _ _ (by omega)).trans ((up2_o _ _ (by omega)).trans ((up2_o _ _ (by omega)).trans ((up2_o _ _ (by omega)).trans (up2_o _ _ (by omega)))))))⟩⟩)
            exact sj_zret hx hb hr hlocks rfl hS (up2 (up2 (up2 (up2 (up2 i 382 ((i 36 11).toInt).toNat (i 36 9)) 36 11 z_65) 36 8 8) 36 9 0) 36 10 0) ⟨hO_71, (fun a b ha => ((up2_o _ _ (by omega)).trans ((up2_o _ _ (by omega)).trans ((up2_o _ _ (by omega)).trans ((up2_o _ _ (by omega)).trans (up2_o _ _ (by omega))))))), ⟨by decide, by decide⟩, hV_80⟩ hH (sj_Knil hK) (Nat.le_of_ble_eq_true rfl) (Nat.le_of_ble_eq_true rfl) dX12_title_227
          · skip
            have h_81 := s_eq (rfl : x.toInt = _) (show (3 : Int32).toInt = 3 from rfl) c_67
            refine lv_iconst (v := 1) hx hb dX12_title_79 (by decide) ?_
            refine lv_goto (tgt := 85) hx hb dX12_title_80 (by decide) ?_
            have hO_82 := okp hO_66 (n := 36) (k := 8) (v := 1) (show (0 : Int) ≤ (1 : Int32).toInt ∧ (1 : Int32).toInt ≤ 8 from ⟨by decide, by decide⟩)
            refine h_puti (ty := .int) (ci := 12) (C := RX12) (F := TX12) (N := 86) hx hb hts in12 tyX12 tyX12_ok nmX12 hown hK hH hS (by decide) (rfl : kd 36 = 12) (by decide) rfl 8 (by decide) wd6 (fun _ h9 => h9) rfl (by decide +kernel) rfl rfl (by decide) rfl dX12_title_85 (fun H locs hH hS => ?_)
            refine lv_goto (tgt := 216) hx hb dX12_title_88 (by decide) ?_
            refine lv_aload_n hx hb dX12_title_216 rfl (lv_at hl 0 rfl) ?_
            refine lv_iconst (v := 0) hx hb dX12_title_217 (by decide) ?_
            have hO_83 := okp hO_82 (n := 36) (k := 9) (v := 0) (show (0 : Int) ≤ (0 : Int32).toInt ∧ (0 : Int32).toInt ≤ 65535 from ⟨by decide, by decide⟩)
            refine h_puti (ty := .int) (ci := 12) (C := RX12) (F := TX12) (N := 86) hx hb hts in12 tyX12 tyX12_ok nmX12 hown hK hH hS (by decide) (rfl : kd 36 = 12) (by decide) rfl 9 (by decide) wd2 (fun _ h9 => h9) rfl (by decide +kernel) rfl rfl (by decide) rfl dX12_title_218 (fun H locs hH hS => ?_)
            refine lv_aload_n hx hb dX12_title_221 rfl (lv_at hl 0 rfl) ?_
            refine lv_iconst (v := 0) hx hb dX12_title_222 (by decide) ?_
            have hO_84 := okp hO_83 (n := 36) (k := 10) (v := 0) (show (0 : Int) ≤ (0 : Int32).toInt ∧ (0 : Int32).toInt ≤ 1 from ⟨by decide, by decide⟩)
            refine h_puti (ty := .boolean) (ci := 12) (C := RX12) (F := TX12) (N := 86) hx hb hts in12 tyX12 tyX12_ok nmX12 hown hK hH hS (by decide) (rfl : kd 36 = 12) (by decide) rfl 10 (by decide) wd7 (fun _ h9 => h9) rfl (by decide +kernel) (by decide +kernel) (by decide +kernel) (by decide) rfl dX12_title_223 (fun H locs hH hS => ?_)
            refine lv_iconst (v := 0) hx hb dX12_title_226 (by decide) ?_
            have hp_85 : ((up2 (up2 (up2 (up2 (up2 i 382 ((i 36 11).toInt).toNat (i 36 9)) 36 11 z_65) 36 8 1) 36 9 0) 36 10 0) 36 8).toInt = (1 : Int32).toInt := congrArg Int32.toInt (((up2_k _ _ (by decide)).trans ((up2_k _ _ (by decide)).trans (up2_at _ _ _ _))))
            have hl_86 : (1 : Int32).toInt = 1 := rfl
            have hp_87 : ((up2 (up2 (up2 (up2 (up2 i 382 ((i 36 11).toInt).toNat (i 36 9)) 36 11 z_65) 36 8 1) 36 9 0) 36 10 0) 36 9).toInt = (0 : Int32).toInt := congrArg Int32.toInt (((up2_k _ _ (by decide)).trans (up2_at _ _ _ _)))
            have hl_88 : (0 : Int32).toInt = 0 := rfl
            have hp_89 : ((up2 (up2 (up2 (up2 (up2 i 382 ((i 36 11).toInt).toNat (i 36 9)) 36 11 z_65) 36 8 1) 36 9 0) 36 10 0) 36 10).toInt = (0 : Int32).toInt := congrArg Int32.toInt ((up2_at _ _ _ _))
            have hl_90 : (0 : Int32).toInt = 0 := rfl
            have hp_91 : ((up2 (up2 (up2 (up2 (up2 i 382 ((i 36 11).toInt).toNat (i 36 9)) 36 11 z_65) 36 8 1) 36 9 0) 36 10 0) 382 (i 36 11).toInt.toNat).toInt = ((i 36 9) : Int32).toInt := congrArg Int32.toInt (((congrFun (up2_n _ _ (by decide)) _).trans ((congrFun (up2_n _ _ (by decide)) _).trans ((congrFun (up2_n _ _ (by decide)) _).trans ((congrFun (up2_n _ _ (by decide)) _).trans (up2_at _ _ _ _))))))
            have hp_92 : ((up2 (up2 (up2 (up2 (up2 i 382 ((i 36 11).toInt).toNat (i 36 9)) 36 11 z_65) 36 8 1) 36 9 0) 36 10 0) 36 11).toInt = (z_65 : Int32).toInt := congrArg Int32.toInt (((up2_k _ _ (by decide)).trans ((up2_k _ _ (by decide)).trans ((up2_k _ _ (by decide)).trans (up2_at _ _ _ _)))))
            have hV_93 : ((0 : Int32).toInt = 5 ∧ ((x.toInt = 4 ∧ (i 36 11).toInt = 5) ∨ (x.toInt = 6 ∧ (i 36 13).toInt = 12) ∨ (x.toInt = 7 ∧ (i 36 23).toInt = 12)) ∧ (up2 (up2 (up2 (up2 (up2 i 382 ((i 36 11).toInt).toNat (i 36 9)) 36 11 z_65) 36 8 1) 36 9 0) 36 10 0) = i) ∨ ((0 : Int32).toInt = 0 ∧ ¬ ((x.toInt = 4 ∧ (i 36 11).toInt = 5) ∨ (x.toInt = 6 ∧ (i 36 13).toInt = 12) ∨ (x.toInt = 7 ∧ (i 36 23).toInt = 12)) ∧ hdM i (up2 (up2 (up2 (up2 (up2 i 382 ((i 36 11).toInt).toNat (i 36 9)) 36 11 z_65) 36 8 1) 36 9 0) 36 10 0) x.toInt) := (Or.inr ⟨by rfl, by omega, Or.inl ⟨by omega, by omega, by omega, by omega, (fun j hj => ((up2_o _ _ (by omega)).trans ((up2_o _ _ (by omega)).trans ((up2_o _ _ (by omega)).trans ((up2_o _ _ (by omega)).trans (up2_o _ _ (by omega))))))), by omega, (fun b hb => by
                  have hb9 : b ≠ 11 ∧ b ≠ 8 ∧ b ≠ 9 ∧ b ≠ 10 := ⟨fun e9 => hb (by rw [e9]; decide), fun e9 => hb (by rw [e9]; decide), fun e9 => hb (by rw [e9]; decide), fun e9 => hb (by rw [e9]; decide)⟩
                  exact ((up2_o _ _ (by omega)).trans ((up2_o _ _ (by omega)).trans ((up2_o _ _ (by omega)).trans ((up2_o _ _ (by omega)).trans (up2_o _ _ (by omega))))))), (fun a h1 h2 => by
                  have h9 : a ≠ 382 := fun e9 => h2 (by rw [e9]; decide)
                  exact funext fun b => ((up2_o _ _ (by omega)).trans ((up2_o _ _ (by omega)).trans ((up2_o _ _ (by omega)).trans ((up2_o _ _ (by omega)).trans (up2_o _ _ (by omega)))))))⟩⟩)
            exact sj_zret hx hb hr hlocks rfl hS (up2 (up2 (up2 (up2 (up2 i 382 ((i 36 11).toInt).toNat (i 36 9)) 36 11 z_65) 36 8 1) 36 9 0) 36 10 0) ⟨hO_84, (fun a b ha => ((up2_o _ _ (by omega)).trans ((up2_o _ _ (by omega)).trans ((up2_o _ _ (by omega)).trans ((up2_o _ _ (by omega)).trans (up2_o _ _ (by omega))))))), ⟨by decide, by decide⟩, hV_93⟩ hH (sj_Knil hK) (Nat.le_of_ble_eq_true rfl) (Nat.le_of_ble_eq_true rfl) dX12_title_227
      · skip
        have h_94 := s_eq (rfl : x.toInt = _) (show (7 : Int32).toInt = 7 from rfl) c_6
        refine lv_aload_n hx hb dX12_title_34 rfl (lv_at hl 0 rfl) ?_
        have bx_95 : (0 : Int) ≤ (i 36 23).toInt ∧ (i 36 23).toInt ≤ 12 := hO 36 23
        refine h_geti (ci := 12) (C := RX12) (F := TX12) (N := 86) hx hb hts in12 hown hK hH (by decide) (rfl : kd 36 = 12) (by decide) rfl 23 (by decide) wd1 (fun _ h9 => h9) (by decide) rfl dX12_title_35 ?_
        refine lv_bipush (v := 12) hx hb dX12_title_38 (by decide) ?_
        refine lv_icmp_ne (tgt := 45) hx hb dX12_title_40 (by decide) (fun c_96 => ?_) (fun c_96 => ?_)
        · skip
          have h_97 := s_ne (rfl : (i 36 23).toInt = _) (show (12 : Int32).toInt = 12 from rfl) c_96
          refine lv_iload_n hx hb dX12_title_45 rfl (lv_at hl 1 rfl) ?_
          refine lv_iconst (v := 5) hx hb dX12_title_46 (by decide) ?_
          refine lv_icmp_ge (tgt := 91) hx hb dX12_title_47 (by decide) (fun _ => ?_) (fun h => absurd (p_le (show (5 : Int32).toInt = 5 from rfl) (rfl : x.toInt = _) (by omega)) h)
          refine lv_iload_n hx hb dX12_title_91 rfl (lv_at hl 1 rfl) ?_
          refine lv_bipush (v := 6) hx hb dX12_title_92 (by decide) ?_
          refine lv_icmp_ne (tgt := 161) hx hb dX12_title_94 (by decide) (fun _ => ?_) (fun h => absurd h (p_ne (rfl : x.toInt = _) (show (6 : Int32).toInt = 6 from rfl) (by omega)))
          refine lv_aload_n hx hb dX12_title_161 rfl (lv_at hl 0 rfl) ?_
          refine h_getr (ci := 12) (C := RX12) (F := TX12) (N := 86) hx hb hts in12 hown hK hH (by decide) (rfl : kd 36 = 12) (by decide) rfl 25 (by decide) wd0 (fun _ h9 => h9) (by decide) rfl (t := 391) (hR 36 25 rfl) (by decide) dX12_title_162 ?_
          refine lv_aload_n hx hb dX12_title_165 rfl (lv_at hl 0 rfl) ?_
          refine h_geti (ci := 12) (C := RX12) (F := TX12) (N := 86) hx hb hts in12 hown hK hH (by decide) (rfl : kd 36 = 12) (by decide) rfl 23 (by decide) wd1 (fun _ h9 => h9) (by decide) rfl dX12_title_166 ?_
          refine lv_aload_n hx hb dX12_title_169 rfl (lv_at hl 0 rfl) ?_
          have bx_98 : (0 : Int) ≤ (i 36 9).toInt ∧ (i 36 9).toInt ≤ 65535 := hO 36 9
          refine h_geti (ci := 12) (C := RX12) (F := TX12) (N := 86) hx hb hts in12 hown hK hH (by decide) (rfl : kd 36 = 12) (by decide) rfl 9 (by decide) wd2 (fun _ h9 => h9) (by decide) rfl dX12_title_170 ?_
          have hO_99 := okp hO (n := 391) (k := ((i 36 23).toInt).toNat) (v := (i 36 9)) (show (0 : Int) ≤ ((i 36 9) : Int32).toInt ∧ ((i 36 9) : Int32).toInt ≤ 65535 from ⟨by omega, by omega⟩)
          refine h_iast hx hb hK hH hS (by decide) (rfl : kd 391 = 13) (s_vin (N := 12) (rfl : (i 36 23).toInt = _) (rfl : ln 391 = 12) (by omega) (by omega)) dX12_title_173 (fun H locs hH hS => ?_)
          rw [s_cl (show (i 36 23).toInt = (i 36 23).toInt by omega)] at hH
          refine lv_aload_n hx hb dX12_title_174 rfl (lv_at hl 0 rfl) ?_
          refine h_getr (ci := 12) (C := RX12) (F := TX12) (N := 86) hx hb hts in12 hown hK hH (by decide) (rfl : kd 36 = 12) (by decide) rfl 24 (by decide) wd3 (fun _ h9 => h9) (by decide) rfl (t := 390) (hR 36 24 rfl) (by decide) dX12_title_175 ?_
          refine lv_aload_n hx hb dX12_title_178 rfl (lv_at hl 0 rfl) ?_
          refine h_geti (ci := 12) (C := RX12) (F := TX12) (N := 86) hx hb hts in12 hown hK hH (by decide) (rfl : kd 36 = 12) (by decide) rfl 23 (by decide) wd1 (fun _ h9 => h9) (by decide) rfl dX12_title_179 ?_
          refine sj_i (y := (i 36 23)) (congrFun (up2_n _ _ (by decide)) _) ?_
          refine lv_aload_n hx hb dX12_title_182 rfl (lv_at hl 0 rfl) ?_
          have bx_100 : (0 : Int) ≤ (i 36 13).toInt ∧ (i 36 13).toInt ≤ 12 := hO 36 13
          refine h_geti (ci := 12) (C := RX12) (F := TX12) (N := 86) hx hb hts in12 hown hK hH (by decide) (rfl : kd 36 = 12) (by decide) rfl 13 (by decide) wd4 (fun _ h9 => h9) (by decide) rfl dX12_title_183 ?_
          refine sj_i (y := (i 36 13)) (congrFun (up2_n _ _ (by decide)) _) ?_
          refine lv_iconst (v := 1) hx hb dX12_title_186 (by decide) ?_
          refine lv_isub hx hb dX12_title_187 ?_
          obtain ⟨z_101, ez_101, hz_101⟩ := s_sub (rfl : (i 36 13).toInt = _) (show (1 : Int32).toInt = 1 from rfl) (by omega) (by omega)
          refine sj_i ez_101 ?_
          have hO_102 := okp hO_99 (n := 390) (k := ((i 36 23).toInt).toNat) (v := z_101) (show (-2147483648 : Int) ≤ (z_101 : Int32).toInt ∧ (z_101 : Int32).toInt ≤ 2147483647 from s_rng z_101)
          refine h_iast hx hb hK hH hS (by decide) (rfl : kd 390 = 13) (s_vin (N := 12) (rfl : (i 36 23).toInt = _) (rfl : ln 390 = 12) (by omega) (by omega)) dX12_title_188 (fun H locs hH hS => ?_)
          rw [s_cl (show (i 36 23).toInt = (i 36 23).toInt by omega)] at hH
          refine lv_aload_n hx hb dX12_title_189 rfl (lv_at hl 0 rfl) ?_
          refine lv_bipush (v := 100) hx hb dX12_title_190 (by decide) ?_
          refine lv_aload_n hx hb dX12_title_192 rfl (lv_at hl 0 rfl) ?_
          refine h_geti (ci := 12) (C := RX12) (F := TX12) (N := 86) hx hb hts in12 hown hK hH (by decide) (rfl : kd 36 = 12) (by decide) rfl 23 (by decide) wd1 (fun _ h9 => h9) (by decide) rfl dX12_title_193 ?_
          refine sj_i (y := (i 36 23)) ((congrFun (up2_n _ _ (by decide)) _).trans (congrFun (up2_n _ _ (by decide)) _)) ?_
          refine lv_iadd hx hb dX12_title_196 ?_
          obtain ⟨z_103, ez_103, hz_103⟩ := s_add (show (100 : Int32).toInt = 100 from rfl) (rfl : (i 36 23).toInt = _) (by omega) (by omega)
          refine sj_i ez_103 ?_
          have hO_104 := okp hO_102 (n := 36) (k := 27) (v := z_103) (show (0 : Int) ≤ (z_103 : Int32).toInt ∧ (z_103 : Int32).toInt ≤ 111 from ⟨by omega, by omega⟩)
          refine h_puti (ty := .int) (ci := 12) (C := RX12) (F := TX12) (N := 86) hx hb hts in12 tyX12 tyX12_ok nmX12 hown hK hH hS (by decide) (rfl : kd 36 = 12) (by decide) rfl 27 (by decide) wd5 (fun _ h9 => h9) rfl (by decide +kernel) rfl rfl (by decide) rfl dX12_title_197 (fun H locs hH hS => ?_)
          refine lv_aload_n hx hb dX12_title_200 rfl (lv_at hl 0 rfl) ?_
          refine lv_dup hx hb dX12_title_201 rfl ?_
          refine h_geti (ci := 12) (C := RX12) (F := TX12) (N := 86) hx hb hts in12 hown hK hH (by decide) (rfl : kd 36 = 12) (by decide) rfl 23 (by decide) wd1 (fun _ h9 => h9) (by decide) rfl dX12_title_202 ?_
          refine sj_i (y := (i 36 23)) ((up2_k _ _ (by decide)).trans ((congrFun (up2_n _ _ (by decide)) _).trans (congrFun (up2_n _ _ (by decide)) _))) ?_
          refine lv_iconst (v := 1) hx hb dX12_title_205 (by decide) ?_
          refine lv_iadd hx hb dX12_title_206 ?_
          obtain ⟨z_105, ez_105, hz_105⟩ := s_add (rfl : (i 36 23).toInt = _) (show (1 : Int32).toInt = 1 from rfl) (by omega) (by omega)
          refine sj_i ez_105 ?_
          have hO_106 := okp hO_104 (n := 36) (k := 23) (v := z_105) (show (0 : Int) ≤ (z_105 : Int32).toInt ∧ (z_105 : Int32).toInt ≤ 12 from ⟨by omega, by omega⟩)
          refine h_puti (ty := .int) (ci := 12) (C := RX12) (F := TX12) (N := 86) hx hb hts in12 tyX12 tyX12_ok nmX12 hown hK hH hS (by decide) (rfl : kd 36 = 12) (by decide) rfl 23 (by decide) wd1 (fun _ h9 => h9) rfl (by decide +kernel) rfl rfl (by decide) rfl dX12_title_207 (fun H locs hH hS => ?_)
          refine lv_aload_n hx hb dX12_title_210 rfl (lv_at hl 0 rfl) ?_
          refine lv_bipush (v := 6) hx hb dX12_title_211 (by decide) ?_
          have hO_107 := okp hO_106 (n := 36) (k := 8) (v := 6) (show (0 : Int) ≤ (6 : Int32).toInt ∧ (6 : Int32).toInt ≤ 8 from ⟨by decide, by decide⟩)
          refine h_puti (ty := .int) (ci := 12) (C := RX12) (F := TX12) (N := 86) hx hb hts in12 tyX12 tyX12_ok nmX12 hown hK hH hS (by decide) (rfl : kd 36 = 12) (by decide) rfl 8 (by decide) wd6 (fun _ h9 => h9) rfl (by decide +kernel) rfl rfl (by decide) rfl dX12_title_213 (fun H locs hH hS => ?_)
          refine lv_aload_n hx hb dX12_title_216 rfl (lv_at hl 0 rfl) ?_
          refine lv_iconst (v := 0) hx hb dX12_title_217 (by decide) ?_
          have hO_108 := okp hO_107 (n := 36) (k := 9) (v := 0) (show (0 : Int) ≤ (0 : Int32).toInt ∧ (0 : Int32).toInt ≤ 65535 from ⟨by decide, by decide⟩)
          refine h_puti (ty := .int) (ci := 12) (C := RX12) (F := TX12) (N := 86) hx hb hts in12 tyX12 tyX12_ok nmX12 hown hK hH hS (by decide) (rfl : kd 36 = 12) (by decide) rfl 9 (by decide) wd2 (fun _ h9 => h9) rfl (by decide +kernel) rfl rfl (by decide) rfl dX12_title_218 (fun H locs hH hS => ?_)
          refine lv_aload_n hx hb dX12_title_221 rfl (lv_at hl 0 rfl) ?_
          refine lv_iconst (v := 0) hx hb dX12_title_222 (by decide) ?_
          have hO_109 := okp hO_108 (n := 36) (k := 10) (v := 0) (show (0 : Int) ≤ (0 : Int32).toInt ∧ (0 : Int32).toInt ≤ 1 from ⟨by decide, by decide⟩)
          refine h_puti (ty := .boolean) (ci := 12) (C := RX12) (F := TX12) (N := 86) hx hb hts in12 tyX12 tyX12_ok nmX12 hown hK hH hS (by decide) (rfl : kd 36 = 12) (by decide) rfl 10 (by decide) wd7 (fun _ h9 => h9) rfl (by decide +kernel) (by decide +kernel) (by decide +kernel) (by decide) rfl dX12_title_223 (fun H locs hH hS => ?_)
          refine lv_iconst (v := 0) hx hb dX12_title_226 (by decide) ?_
          have hp_110 : ((up2 (up2 (up2 (up2 (up2 (up2 (up2 i 391 ((i 36 23).toInt).toNat (i 36 9)) 390 ((i 36 23).toInt).toNat z_101) 36 27 z_103) 36 23 z_105) 36 8 6) 36 9 0) 36 10 0) 36 8).toInt = (6 : Int32).toInt := congrArg Int32.toInt (((up2_k _ _ (by decide)).trans ((up2_k _ _ (by decide)).trans (up2_at _ _ _ _))))
          have hl_111 : (6 : Int32).toInt = 6 := rfl
          have hp_112 : ((up2 (up2 (up2 (up2 (up2 (up2 (up2 i 391 ((i 36 23).toInt).toNat (i 36 9)) 390 ((i 36 23).toInt).toNat z_101) 36 27 z_103) 36 23 z_105) 36 8 6) 36 9 0) 36 10 0) 36 9).toInt = (0 : Int32).toInt := congrArg Int32.toInt (((up2_k _ _ (by decide)).trans (up2_at _ _ _ _)))
          have hl_113 : (0 : Int32).toInt = 0 := rfl
          have hp_114 : ((up2 (up2 (up2 (up2 (up2 (up2 (up2 i 391 ((i 36 23).toInt).toNat (i 36 9)) 390 ((i 36 23).toInt).toNat z_101) 36 27 z_103) 36 23 z_105) 36 8 6) 36 9 0) 36 10 0) 36 10).toInt = (0 : Int32).toInt := congrArg Int32.toInt ((up2_at _ _ _ _))
          have hl_115 : (0 : Int32).toInt = 0 := rfl
          have hp_116 : ((up2 (up2 (up2 (up2 (up2 (up2 (up2 i 391 ((i 36 23).toInt).toNat (i 36 9)) 390 ((i 36 23).toInt).toNat z_101) 36 27 z_103) 36 23 z_105) 36 8 6) 36 9 0) 36 10 0) 391 (i 36 23).toInt.toNat).toInt = ((i 36 9) : Int32).toInt := congrArg Int32.toInt (((congrFun (up2_n _ _ (by decide)) _).trans ((congrFun (up2_n _ _ (by decide)) _).trans ((congrFun (up2_n _ _ (by decide)) _).trans ((congrFun (up2_n _ _ (by decide)) _).trans ((congrFun (up2_n _ _ (by decide)) _).trans ((congrFun (up2_n _ _ (by decide)) _).trans (up2_at _ _ _ _))))))))
          have hp_117 : ((up2 (up2 (up2 (up2 (up2 (up2 (up2 i 391 ((i 36 23).toInt).toNat (i 36 9)) 390 ((i 36 23).toInt).toNat z_101) 36 27 z_103) 36 23 z_105) 36 8 6) 36 9 0) 36 10 0) 390 (i 36 23).toInt.toNat).toInt = (z_101 : Int32).toInt := congrArg Int32.toInt (((congrFun (up2_n _ _ (by decide)) _).trans ((congrFun (up2_n _ _ (by decide)) _).trans ((congrFun (up2_n _ _ (by decide)) _).trans ((congrFun (up2_n _ _ (by decide)) _).trans ((congrFun (up2_n _ _ (by decide)) _).trans (up2_at _ _ _ _)))))))
          have hp_118 : ((up2 (up2 (up2 (up2 (up2 (up2 (up2 i 391 ((i 36 23).toInt).toNat (i 36 9)) 390 ((i 36 23).toInt).toNat z_101) 36 27 z_103) 36 23 z_105) 36 8 6) 36 9 0) 36 10 0) 36 27).toInt = (z_103 : Int32).toInt := congrArg Int32.toInt (((up2_k _ _ (by decide)).trans ((up2_k _ _ (by decide)).trans ((up2_k _ _ (by decide)).trans ((up2_k _ _ (by decide)).trans (up2_at _ _ _ _))))))
          have hp_119 : ((up2 (up2 (up2 (up2 (up2 (up2 (up2 i 391 ((i 36 23).toInt).toNat (i 36 9)) 390 ((i 36 23).toInt).toNat z_101) 36 27 z_103) 36 23 z_105) 36 8 6) 36 9 0) 36 10 0) 36 23).toInt = (z_105 : Int32).toInt := congrArg Int32.toInt (((up2_k _ _ (by decide)).trans ((up2_k _ _ (by decide)).trans ((up2_k _ _ (by decide)).trans (up2_at _ _ _ _)))))
          have hV_120 : ((0 : Int32).toInt = 5 ∧ ((x.toInt = 4 ∧ (i 36 11).toInt = 5) ∨ (x.toInt = 6 ∧ (i 36 13).toInt = 12) ∨ (x.toInt = 7 ∧ (i 36 23).toInt = 12)) ∧ (up2 (up2 (up2 (up2 (up2 (up2 (up2 i 391 ((i 36 23).toInt).toNat (i 36 9)) 390 ((i 36 23).toInt).toNat z_101) 36 27 z_103) 36 23 z_105) 36 8 6) 36 9 0) 36 10 0) = i) ∨ ((0 : Int32).toInt = 0 ∧ ¬ ((x.toInt = 4 ∧ (i 36 11).toInt = 5) ∨ (x.toInt = 6 ∧ (i 36 13).toInt = 12) ∨ (x.toInt = 7 ∧ (i 36 23).toInt = 12)) ∧ hdM i (up2 (up2 (up2 (up2 (up2 (up2 (up2 i 391 ((i 36 23).toInt).toNat (i 36 9)) 390 ((i 36 23).toInt).toNat z_101) 36 27 z_103) 36 23 z_105) 36 8 6) 36 9 0) 36 10 0) x.toInt) := (Or.inr ⟨by rfl, by omega, Or.inr (Or.inr (Or.inr ⟨by omega, by omega, by omega, by omega, by omega, (fun j hj => ⟨((up2_o _ _ (by omega)).trans ((up2_o _ _ (by omega)).trans ((up2_o _ _ (by omega)).trans ((up2_o _ _ (by omega)).trans ((up2_o _ _ (by omega)).trans ((up2_o _ _ (by omega)).trans (up2_o _ _ (by omega)))))))), ((up2_o _ _ (by omega)).trans ((up2_o _ _ (by omega)).trans ((up2_o _ _ (by omega)).trans ((up2_o _ _ (by omega)).trans ((up2_o _ _ (by omega)).trans ((up2_o _ _ (by omega)).trans (up2_o _ _ (by omega))))))))⟩), by omega, by omega, by omega, (fun b hb => by
                have hb9 : b ≠ 23 ∧ b ≠ 27 ∧ b ≠ 8 ∧ b ≠ 9 ∧ b ≠ 10 := ⟨fun e9 => hb (by rw [e9]; decide), fun e9 => hb (by rw [e9]; decide), fun e9 => hb (by rw [e9]; decide), fun e9 => hb (by rw [e9]; decide), fun e9 => hb (by rw [e9]; decide)⟩
                exact ((up2_o _ _ (by omega)).trans ((up2_o _ _ (by omega)).trans ((up2_o _ _ (by omega)).trans ((up2_o _ _ (by omega)).trans ((up2_o _ _ (by omega)).trans ((up2_o _ _ (by omega)).trans (up2_o _ _ (by omega))))))))), (fun a h1 h2 => by
                have h9 : a ≠ 390 ∧ a ≠ 391 := ⟨fun e9 => h2 (by rw [e9]; decide), fun e9 => h2 (by rw [e9]; decide)⟩
                exact funext fun b => ((up2_o _ _ (by omega)).trans ((up2_o _ _ (by omega)).trans ((up2_o _ _ (by omega)).trans ((up2_o _ _ (by omega)).trans ((up2_o _ _ (by omega)).trans ((up2_o _ _ (by omega)).trans (up2_o _ _ (by omega)))))))))⟩))⟩)
          exact sj_zret hx hb hr hlocks rfl hS (up2 (up2 (up2 (up2 (up2 (up2 (up2 i 391 ((i 36 23).toInt).toNat (i 36 9)) 390 ((i 36 23).toInt).toNat z_101) 36 27 z_103) 36 23 z_105) 36 8 6) 36 9 0) 36 10 0) ⟨hO_109, (fun a b ha => ((up2_o _ _ (by omega)).trans ((up2_o _ _ (by omega)).trans ((up2_o _ _ (by omega)).trans ((up2_o _ _ (by omega)).trans ((up2_o _ _ (by omega)).trans ((up2_o _ _ (by omega)).trans (up2_o _ _ (by omega))))))))), ⟨by decide, by decide⟩, hV_120⟩ hH (sj_Knil hK) (Nat.le_of_ble_eq_true rfl) (Nat.le_of_ble_eq_true rfl) dX12_title_227
        · skip
          have h_121 := s_eq (rfl : (i 36 23).toInt = _) (show (12 : Int32).toInt = 12 from rfl) c_96
          refine lv_iconst (v := 5) hx hb dX12_title_43 (by decide) ?_
          have hV_122 : ((5 : Int32).toInt = 5 ∧ ((x.toInt = 4 ∧ (i 36 11).toInt = 5) ∨ (x.toInt = 6 ∧ (i 36 13).toInt = 12) ∨ (x.toInt = 7 ∧ (i 36 23).toInt = 12)) ∧ i = i) ∨ ((5 : Int32).toInt = 0 ∧ ¬ ((x.toInt = 4 ∧ (i 36 11).toInt = 5) ∨ (x.toInt = 6 ∧ (i 36 13).toInt = 12) ∨ (x.toInt = 7 ∧ (i 36 23).toInt = 12)) ∧ hdM i i x.toInt) := (Or.inl ⟨by rfl, by omega, rfl⟩)
          exact sj_zret hx hb hr hlocks rfl hS i ⟨hO, (fun a b ha => rfl), ⟨by decide, by decide⟩, hV_122⟩ hH (sj_Knil hK) (Nat.le_of_ble_eq_true rfl) (Nat.le_of_ble_eq_true rfl) dX12_title_44
    · skip
      have h_123 := s_eq (rfl : x.toInt = _) (show (6 : Int32).toInt = 6 from rfl) c_4
      refine lv_aload_n hx hb dX12_title_19 rfl (lv_at hl 0 rfl) ?_
      have bx_124 : (0 : Int) ≤ (i 36 13).toInt ∧ (i 36 13).toInt ≤ 12 := hO 36 13
      refine h_geti (ci := 12) (C := RX12) (F := TX12) (N := 86) hx hb hts in12 hown hK hH (by decide) (rfl : kd 36 = 12) (by decide) rfl 13 (by decide) wd4 (fun _ h9 => h9) (by decide) rfl dX12_title_20 ?_
      refine lv_bipush (v := 12) hx hb dX12_title_23 (by decide) ?_
      refine lv_icmp_eq (tgt := 43) hx hb dX12_title_25 (by decide) (fun c_125 => ?_) (fun c_125 => ?_)
      · skip
        have h_126 := s_eq (rfl : (i 36 13).toInt = _) (show (12 : Int32).toInt = 12 from rfl) c_125
        refine lv_iconst (v := 5) hx hb dX12_title_43 (by decide) ?_
        have hV_127 : ((5 : Int32).toInt = 5 ∧ ((x.toInt = 4 ∧ (i 36 11).toInt = 5) ∨ (x.toInt = 6 ∧ (i 36 13).toInt = 12) ∨ (x.toInt = 7 ∧ (i 36 23).toInt = 12)) ∧ i = i) ∨ ((5 : Int32).toInt = 0 ∧ ¬ ((x.toInt = 4 ∧ (i 36 11).toInt = 5) ∨ (x.toInt = 6 ∧ (i 36 13).toInt = 12) ∨ (x.toInt = 7 ∧ (i 36 23).toInt = 12)) ∧ hdM i i x.toInt) := (Or.inl ⟨by rfl, by omega, rfl⟩)
        exact sj_zret hx hb hr hlocks rfl hS i ⟨hO, (fun a b ha => rfl), ⟨by decide, by decide⟩, hV_127⟩ hH (sj_Knil hK) (Nat.le_of_ble_eq_true rfl) (Nat.le_of_ble_eq_true rfl) dX12_title_44
      · skip
        have h_128 := s_ne (rfl : (i 36 13).toInt = _) (show (12 : Int32).toInt = 12 from rfl) c_125
        refine lv_iload_n hx hb dX12_title_28 rfl (lv_at hl 1 rfl) ?_
        refine lv_bipush (v := 7) hx hb dX12_title_29 (by decide) ?_
        refine lv_icmp_ne (tgt := 45) hx hb dX12_title_31 (by decide) (fun _ => ?_) (fun h => absurd h (p_ne (rfl : x.toInt = _) (show (7 : Int32).toInt = 7 from rfl) (by omega)))
        refine lv_iload_n hx hb dX12_title_45 rfl (lv_at hl 1 rfl) ?_
        refine lv_iconst (v := 5) hx hb dX12_title_46 (by decide) ?_
        refine lv_icmp_ge (tgt := 91) hx hb dX12_title_47 (by decide) (fun _ => ?_) (fun h => absurd (p_le (show (5 : Int32).toInt = 5 from rfl) (rfl : x.toInt = _) (by omega)) h)
        refine lv_iload_n hx hb dX12_title_91 rfl (lv_at hl 1 rfl) ?_
        refine lv_bipush (v := 6) hx hb dX12_title_92 (by decide) ?_
        refine lv_icmp_ne (tgt := 161) hx hb dX12_title_94 (by decide) (fun h => absurd (p_eq (rfl : x.toInt = _) (show (6 : Int32).toInt = 6 from rfl) (by omega)) h) (fun _ => ?_)
        refine lv_aload_n hx hb dX12_title_97 rfl (lv_at hl 0 rfl) ?_
        refine h_getr (ci := 12) (C := RX12) (F := TX12) (N := 86) hx hb hts in12 hown hK hH (by decide) (rfl : kd 36 = 12) (by decide) rfl 14 (by decide) wd8 (fun _ h9 => h9) (by decide) rfl (t := 383) (hR 36 14 rfl) (by decide) dX12_title_98 ?_
        refine lv_aload_n hx hb dX12_title_101 rfl (lv_at hl 0 rfl) ?_
        refine h_geti (ci := 12) (C := RX12) (F := TX12) (N := 86) hx hb hts in12 hown hK hH (by decide) (rfl : kd 36 = 12) (by decide) rfl 13 (by decide) wd4 (fun _ h9 => h9) (by decide) rfl dX12_title_102 ?_
        refine lv_aload_n hx hb dX12_title_105 rfl (lv_at hl 0 rfl) ?_
        have bx_129 : (0 : Int) ≤ (i 36 9).toInt ∧ (i 36 9).toInt ≤ 65535 := hO 36 9
        refine h_geti (ci := 12) (C := RX12) (F := TX12) (N := 86) hx hb hts in12 hown hK hH (by decide) (rfl : kd 36 = 12) (by decide) rfl 9 (by decide) wd2 (fun _ h9 => h9) (by decide) rfl dX12_title_106 ?_
        have hO_130 := okp hO (n := 383) (k := ((i 36 13).toInt).toNat) (v := (i 36 9)) (show (0 : Int) ≤ ((i 36 9) : Int32).toInt ∧ ((i 36 9) : Int32).toInt ≤ 65535 from ⟨by omega, by omega⟩)
        refine h_iast hx hb hK hH hS (by decide) (rfl : kd 383 = 13) (s_vin (N := 12) (rfl : (i 36 13).toInt = _) (rfl : ln 383 = 12) (by omega) (by omega)) dX12_title_109 (fun H locs hH hS => ?_)
        rw [s_cl (show (i 36 13).toInt = (i 36 13).toInt by omega)] at hH
        refine lv_aload_n hx hb dX12_title_110 rfl (lv_at hl 0 rfl) ?_
        refine h_getr (ci := 12) (C := RX12) (F := TX12) (N := 86) hx hb hts in12 hown hK hH (by decide) (rfl : kd 36 = 12) (by decide) rfl 15 (by decide) wd9 (fun _ h9 => h9) (by decide) rfl (t := 384) (hR 36 15 rfl) (by decide) dX12_title_111 ?_
        refine lv_aload_n hx hb dX12_title_114 rfl (lv_at hl 0 rfl) ?_
        refine h_geti (ci := 12) (C := RX12) (F := TX12) (N := 86) hx hb hts in12 hown hK hH (by decide) (rfl : kd 36 = 12) (by decide) rfl 13 (by decide) wd4 (fun _ h9 => h9) (by decide) rfl dX12_title_115 ?_
        refine sj_i (y := (i 36 13)) (congrFun (up2_n _ _ (by decide)) _) ?_
        refine lv_iload_n hx hb dX12_title_118 rfl (lv_at hl 2 rfl) ?_
        have hO_131 := okp hO_130 (n := 384) (k := ((i 36 13).toInt).toNat) (v := y) (show (-2147483648 : Int) ≤ (y : Int32).toInt ∧ (y : Int32).toInt ≤ 2147483647 from s_rng y)
        refine h_iast hx hb hK hH hS (by decide) (rfl : kd 384 = 13) (s_vin (N := 12) (rfl : (i 36 13).toInt = _) (rfl : ln 384 = 12) (by omega) (by omega)) dX12_title_119 (fun H locs hH hS => ?_)
        rw [s_cl (show (i 36 13).toInt = (i 36 13).toInt by omega)] at hH
        refine lv_aload_n hx hb dX12_title_120 rfl (lv_at hl 0 rfl) ?_
        refine h_getr (ci := 12) (C := RX12) (F := TX12) (N := 86) hx hb hts in12 hown hK hH (by decide) (rfl : kd 36 = 12) (by decide) rfl 16 (by decide) wd10 (fun _ h9 => h9) (by decide) rfl (t := 385) (hR 36 16 rfl) (by decide) dX12_title_121 ?_
        refine lv_aload_n hx hb dX12_title_124 rfl (lv_at hl 0 rfl) ?_
        refine h_geti (ci := 12) (C := RX12) (F := TX12) (N := 86) hx hb hts in12 hown hK hH (by decide) (rfl : kd 36 = 12) (by decide) rfl 13 (by decide) wd4 (fun _ h9 => h9) (by decide) rfl dX12_title_125 ?_
        refine sj_i (y := (i 36 13)) ((congrFun (up2_n _ _ (by decide)) _).trans (congrFun (up2_n _ _ (by decide)) _)) ?_
        refine lv_aload_n hx hb dX12_title_128 rfl (lv_at hl 0 rfl) ?_
        have bx_132 : (0 : Int) ≤ (i 36 11).toInt ∧ (i 36 11).toInt ≤ 5 := hO 36 11
        refine h_geti (ci := 12) (C := RX12) (F := TX12) (N := 86) hx hb hts in12 hown hK hH (by decide) (rfl : kd 36 = 12) (by decide) rfl 11 (by decide) wd11 (fun _ h9 => h9) (by decide) rfl dX12_title_129 ?_
        refine sj_i (y := (i 36 11)) ((congrFun (up2_n _ _ (by decide)) _).trans (congrFun (up2_n _ _ (by decide)) _)) ?_
        refine lv_iconst (v := 1) hx hb dX12_title_132 (by decide) ?_
        refine lv_isub hx hb dX12_title_133 ?_
        obtain ⟨z_133, ez_133, hz_133⟩ := s_sub (rfl : (i 36 11).toInt = _) (show (1 : Int32).toInt = 1 from rfl) (by omega) (by omega)
        refine sj_i ez_133 ?_
        have hO_134 := okp hO_131 (n := 385) (k := ((i 36 13).toInt).toNat) (v := z_133) (show (0 : Int) ≤ (z_133 : Int32).toInt ∧ (z_133 : Int32).toInt ≤ 4 from ⟨by omega, by omega⟩)
        refine h_iast hx hb hK hH hS (by decide) (rfl : kd 385 = 13) (s_vin (N := 12) (rfl : (i 36 13).toInt = _) (rfl : ln 385 = 12) (by omega) (by omega)) dX12_title_134 (fun H locs hH hS => ?_)
        rw [s_cl (show (i 36 13).toInt = (i 36 13).toInt by omega)] at hH
        refine lv_aload_n hx hb dX12_title_135 rfl (lv_at hl 0 rfl) ?_
        refine lv_aload_n hx hb dX12_title_136 rfl (lv_at hl 0 rfl) ?_
        refine h_geti (ci := 12) (C := RX12) (F := TX12) (N := 86) hx hb hts in12 hown hK hH (by decide) (rfl : kd 36 = 12) (by decide) rfl 13 (by decide) wd4 (fun _ h9 => h9) (by decide) rfl dX12_title_137 ?_
        refine sj_i (y := (i 36 13)) ((congrFun (up2_n _ _ (by decide)) _).trans ((congrFun (up2_n _ _ (by decide)) _).trans (congrFun (up2_n _ _ (by decide)) _))) ?_
        have hO_135 := okp hO_134 (n := 36) (k := 18) (v := (i 36 13)) (show (0 : Int) ≤ ((i 36 13) : Int32).toInt ∧ ((i 36 13) : Int32).toInt ≤ 24 from ⟨by omega, by omega⟩)
        refine h_puti (ty := .int) (ci := 12) (C := RX12) (F := TX12) (N := 86) hx hb hts in12 tyX12 tyX12_ok nmX12 hown hK hH hS (by decide) (rfl : kd 36 = 12) (by decide) rfl 18 (by decide) wd12 (fun _ h9 => h9) rfl (by decide +kernel) rfl rfl (by decide) rfl dX12_title_140 (fun H locs hH hS => ?_)
        refine lv_aload_n hx hb dX12_title_143 rfl (lv_at hl 0 rfl) ?_
        refine lv_dup hx hb dX12_title_144 rfl ?_
        refine h_geti (ci := 12) (C := RX12) (F := TX12) (N := 86) hx hb hts in12 hown hK hH (by decide) (rfl : kd 36 = 12) (by decide) rfl 13 (by decide) wd4 (fun _ h9 => h9) (by decide) rfl dX12_title_145 ?_
        refine sj_i (y := (i 36 13)) ((up2_k _ _ (by decide)).trans ((congrFun (up2_n _ _ (by decide)) _).trans ((congrFun (up2_n _ _ (by decide)) _).trans (congrFun (up2_n _ _ (by decide)) _)))) ?_
        refine lv_iconst (v := 1) hx hb dX12_title_148 (by decide) ?_
        refine lv_iadd hx hb dX12_title_149 ?_
        obtain ⟨z_136, ez_136, hz_136⟩ := s_add (rfl : (i 36 13).toInt = _) (show (1 : Int32).toInt = 1 from rfl) (by omega) (by omega)
        refine sj_i ez_136 ?_
        have hO_137 := okp hO_135 (n := 36) (k := 13) (v := z_136) (show (0 : Int) ≤ (z_136 : Int32).toInt ∧ (z_136 : Int32).toInt ≤ 12 from ⟨by omega, by omega⟩)
        refine h_puti (ty := .int) (ci := 12) (C := RX12) (F := TX12) (N := 86) hx hb hts in12 tyX12 tyX12_ok nmX12 hown hK hH hS (by decide) (rfl : kd 36 = 12) (by decide) rfl 13 (by decide) wd4 (fun _ h9 => h9) rfl (by decide +kernel) rfl rfl (by decide) rfl dX12_title_150 (fun H locs hH hS => ?_)
        refine lv_aload_n hx hb dX12_title_153 rfl (lv_at hl 0 rfl) ?_
        refine lv_iconst (v := 4) hx hb dX12_title_154 (by decide) ?_
        have hO_138 := okp hO_137 (n := 36) (k := 8) (v := 4) (show (0 : Int) ≤ (4 : Int32).toInt ∧ (4 : Int32).toInt ≤ 8 from ⟨by decide, by decide⟩)
        refine h_puti (ty := .int) (ci := 12) (C := RX12) (F := TX12) (N := 86) hx hb hts in12 tyX12 tyX12_ok nmX12 hown hK hH hS (by decide) (rfl : kd 36 = 12) (by decide) rfl 8 (by decide) wd6 (fun _ h9 => h9) rfl (by decide +kernel) rfl rfl (by decide) rfl dX12_title_155 (fun H locs hH hS => ?_)
        refine lv_goto (tgt := 216) hx hb dX12_title_158 (by decide) ?_
        refine lv_aload_n hx hb dX12_title_216 rfl (lv_at hl 0 rfl) ?_
        refine lv_iconst (v := 0) hx hb dX12_title_217 (by decide) ?_
        have hO_139 := okp hO_138 (n := 36) (k := 9) (v := 0) (show (0 : Int) ≤ (0 : Int32).toInt ∧ (0 : Int32).toInt ≤ 65535 from ⟨by decide, by decide⟩)
        refine h_puti (ty := .int) (ci := 12) (C := RX12) (F := TX12) (N := 86) hx hb hts in12 tyX12 tyX12_ok nmX12 hown hK hH hS (by decide) (rfl : kd 36 = 12) (by decide) rfl 9 (by decide) wd2 (fun _ h9 => h9) rfl (by decide +kernel) rfl rfl (by decide) rfl dX12_title_218 (fun H locs hH hS => ?_)
        refine lv_aload_n hx hb dX12_title_221 rfl (lv_at hl 0 rfl) ?_
        refine lv_iconst (v := 0) hx hb dX12_title_222 (by decide) ?_
        have hO_140 := okp hO_139 (n := 36) (k := 10) (v := 0) (show (0 : Int) ≤ (0 : Int32).toInt ∧ (0 : Int32).toInt ≤ 1 from ⟨by decide, by decide⟩)
        refine h_puti (ty := .boolean) (ci := 12) (C := RX12) (F := TX12) (N := 86) hx hb hts in12 tyX12 tyX12_ok nmX12 hown hK hH hS (by decide) (rfl : kd 36 = 12) (by decide) rfl 10 (by decide) wd7 (fun _ h9 => h9) rfl (by decide +kernel) (by decide +kernel) (by decide +kernel) (by decide) rfl dX12_title_223 (fun H locs hH hS => ?_)
        refine lv_iconst (v := 0) hx hb dX12_title_226 (by decide) ?_
        have hp_141 : ((up2 (up2 (up2 (up2 (up2 (up2 (up2 (up2 i 383 ((i 36 13).toInt).toNat (i 36 9)) 384 ((i 36 13).toInt).toNat y) 385 ((i 36 13).toInt).toNat z_133) 36 18 (i 36 13)) 36 13 z_136) 36 8 4) 36 9 0) 36 10 0) 36 8).toInt = (4 : Int32).toInt := congrArg Int32.toInt (((up2_k _ _ (by decide)).trans ((up2_k _ _ (by decide)).trans (up2_at _ _ _ _))))
        have hl_142 : (4 : Int32).toInt = 4 := rfl
        have hp_143 : ((up2 (up2 (up2 (up2 (up2 (up2 (up2 (up2 i 383 ((i 36 13).toInt).toNat (i 36 9)) 384 ((i 36 13).toInt).toNat y) 385 ((i 36 13).toInt).toNat z_133) 36 18 (i 36 13)) 36 13 z_136) 36 8 4) 36 9 0) 36 10 0) 36 9).toInt = (0 : Int32).toInt := congrArg Int32.toInt (((up2_k _ _ (by decide)).trans (up2_at _ _ _ _)))
        have hl_144 : (0 : Int32).toInt = 0 := rfl
        have hp_145 : ((up2 (up2 (up2 (up2 (up2 (up2 (up2 (up2 i 383 ((i 36 13).toInt).toNat (i 36 9)) 384 ((i 36 13).toInt).toNat y) 385 ((i 36 13).toInt).toNat z_133) 36 18 (i 36 13)) 36 13 z_136) 36 8 4) 36 9 0) 36 10 0) 36 10).toInt = (0 : Int32).toInt := congrArg Int32.toInt ((up2_at _ _ _ _))
        have hl_146 : (0 : Int32).toInt = 0 := rfl
        have hp_147 : ((up2 (up2 (up2 (up2 (up2 (up2 (up2 (up2 i 383 ((i 36 13).toInt).toNat (i 36 9)) 384 ((i 36 13).toInt).toNat y) 385 ((i 36 13).toInt).toNat z_133) 36 18 (i 36 13)) 36 13 z_136) 36 8 4) 36 9 0) 36 10 0) 383 (i 36 13).toInt.toNat).toInt = ((i 36 9) : Int32).toInt := congrArg Int32.toInt (((congrFun (up2_n _ _ (by decide)) _).trans ((congrFun (up2_n _ _ (by decide)) _).trans ((congrFun (up2_n _ _ (by decide)) _).trans ((congrFun (up2_n _ _ (by decide)) _).trans ((congrFun (up2_n _ _ (by decide)) _).trans ((congrFun (up2_n _ _ (by decide)) _).trans ((congrFun (up2_n _ _ (by decide)) _).trans (up2_at _ _ _ _)))))))))
        have hp_148 : ((up2 (up2 (up2 (up2 (up2 (up2 (up2 (up2 i 383 ((i 36 13).toInt).toNat (i 36 9)) 384 ((i 36 13).toInt).toNat y) 385 ((i 36 13).toInt).toNat z_133) 36 18 (i 36 13)) 36 13 z_136) 36 8 4) 36 9 0) 36 10 0) 385 (i 36 13).toInt.toNat).toInt = (z_133 : Int32).toInt := congrArg Int32.toInt (((congrFun (up2_n _ _ (by decide)) _).trans ((congrFun (up2_n _ _ (by decide)) _).trans ((congrFun (up2_n _ _ (by decide)) _).trans ((congrFun (up2_n _ _ (by decide)) _).trans ((congrFun (up2_n _ _ (by decide)) _).trans (up2_at _ _ _ _)))))))
        have hp_149 : ((up2 (up2 (up2 (up2 (up2 (up2 (up2 (up2 i 383 ((i 36 13).toInt).toNat (i 36 9)) 384 ((i 36 13).toInt).toNat y) 385 ((i 36 13).toInt).toNat z_133) 36 18 (i 36 13)) 36 13 z_136) 36 8 4) 36 9 0) 36 10 0) 36 18).toInt = ((i 36 13) : Int32).toInt := congrArg Int32.toInt (((up2_k _ _ (by decide)).trans ((up2_k _ _ (by decide)).trans ((up2_k _ _ (by decide)).trans ((up2_k _ _ (by decide)).trans (up2_at _ _ _ _))))))
        have hp_150 : ((up2 (up2 (up2 (up2 (up2 (up2 (up2 (up2 i 383 ((i 36 13).toInt).toNat (i 36 9)) 384 ((i 36 13).toInt).toNat y) 385 ((i 36 13).toInt).toNat z_133) 36 18 (i 36 13)) 36 13 z_136) 36 8 4) 36 9 0) 36 10 0) 36 13).toInt = (z_136 : Int32).toInt := congrArg Int32.toInt (((up2_k _ _ (by decide)).trans ((up2_k _ _ (by decide)).trans ((up2_k _ _ (by decide)).trans (up2_at _ _ _ _)))))
        have hV_151 : ((0 : Int32).toInt = 5 ∧ ((x.toInt = 4 ∧ (i 36 11).toInt = 5) ∨ (x.toInt = 6 ∧ (i 36 13).toInt = 12) ∨ (x.toInt = 7 ∧ (i 36 23).toInt = 12)) ∧ (up2 (up2 (up2 (up2 (up2 (up2 (up2 (up2 i 383 ((i 36 13).toInt).toNat (i 36 9)) 384 ((i 36 13).toInt).toNat y) 385 ((i 36 13).toInt).toNat z_133) 36 18 (i 36 13)) 36 13 z_136) 36 8 4) 36 9 0) 36 10 0) = i) ∨ ((0 : Int32).toInt = 0 ∧ ¬ ((x.toInt = 4 ∧ (i 36 11).toInt = 5) ∨ (x.toInt = 6 ∧ (i 36 13).toInt = 12) ∨ (x.toInt = 7 ∧ (i 36 23).toInt = 12)) ∧ hdM i (up2 (up2 (up2 (up2 (up2 (up2 (up2 (up2 i 383 ((i 36 13).toInt).toNat (i 36 9)) 384 ((i 36 13).toInt).toNat y) 385 ((i 36 13).toInt).toNat z_133) 36 18 (i 36 13)) 36 13 z_136) 36 8 4) 36 9 0) 36 10 0) x.toInt) := (Or.inr ⟨by rfl, by omega, Or.inr (Or.inr (Or.inl ⟨by omega, by omega, by omega, by omega, by omega, (fun j hj => ⟨((up2_o _ _ (by omega)).trans ((up2_o _ _ (by omega)).trans ((up2_o _ _ (by omega)).trans ((up2_o _ _ (by omega)).trans ((up2_o _ _ (by omega)).trans ((up2_o _ _ (by omega)).trans ((up2_o _ _ (by omega)).trans (up2_o _ _ (by omega))))))))), ((up2_o _ _ (by omega)).trans ((up2_o _ _ (by omega)).trans ((up2_o _ _ (by omega)).trans ((up2_o _ _ (by omega)).trans ((up2_o _ _ (by omega)).trans ((up2_o _ _ (by omega)).trans ((up2_o _ _ (by omega)).trans (up2_o _ _ (by omega)))))))))⟩), by omega, by omega, by omega, (fun b hb => by
              have hb9 : b ≠ 13 ∧ b ≠ 18 ∧ b ≠ 8 ∧ b ≠ 9 ∧ b ≠ 10 := ⟨fun e9 => hb (by rw [e9]; decide), fun e9 => hb (by rw [e9]; decide), fun e9 => hb (by rw [e9]; decide), fun e9 => hb (by rw [e9]; decide), fun e9 => hb (by rw [e9]; decide)⟩
              exact ((up2_o _ _ (by omega)).trans ((up2_o _ _ (by omega)).trans ((up2_o _ _ (by omega)).trans ((up2_o _ _ (by omega)).trans ((up2_o _ _ (by omega)).trans ((up2_o _ _ (by omega)).trans ((up2_o _ _ (by omega)).trans (up2_o _ _ (by omega)))))))))), (fun a h1 h2 => by
              have h9 : a ≠ 383 ∧ a ≠ 384 ∧ a ≠ 385 := ⟨fun e9 => h2 (by rw [e9]; decide), fun e9 => h2 (by rw [e9]; decide), fun e9 => h2 (by rw [e9]; decide)⟩
              exact funext fun b => ((up2_o _ _ (by omega)).trans ((up2_o _ _ (by omega)).trans ((up2_o _ _ (by omega)).trans ((up2_o _ _ (by omega)).trans ((up2_o _ _ (by omega)).trans ((up2_o _ _ (by omega)).trans ((up2_o _ _ (by omega)).trans (up2_o _ _ (by omega))))))))))⟩))⟩)
        exact sj_zret hx hb hr hlocks rfl hS (up2 (up2 (up2 (up2 (up2 (up2 (up2 (up2 i 383 ((i 36 13).toInt).toNat (i 36 9)) 384 ((i 36 13).toInt).toNat y) 385 ((i 36 13).toInt).toNat z_133) 36 18 (i 36 13)) 36 13 z_136) 36 8 4) 36 9 0) 36 10 0) ⟨hO_140, (fun a b ha => ((up2_o _ _ (by omega)).trans ((up2_o _ _ (by omega)).trans ((up2_o _ _ (by omega)).trans ((up2_o _ _ (by omega)).trans ((up2_o _ _ (by omega)).trans ((up2_o _ _ (by omega)).trans ((up2_o _ _ (by omega)).trans (up2_o _ _ (by omega)))))))))), ⟨by decide, by decide⟩, hV_151⟩ hH (sj_Knil hK) (Nat.le_of_ble_eq_true rfl) (Nat.le_of_ble_eq_true rfl) dX12_title_227
  · skip
    have h_152 := s_eq (rfl : x.toInt = _) (show (4 : Int32).toInt = 4 from rfl) c_2
    refine lv_aload_n hx hb dX12_title_5 rfl (lv_at hl 0 rfl) ?_
    have bx_153 : (0 : Int) ≤ (i 36 11).toInt ∧ (i 36 11).toInt ≤ 5 := hO 36 11
    refine h_geti (ci := 12) (C := RX12) (F := TX12) (N := 86) hx hb hts in12 hown hK hH (by decide) (rfl : kd 36 = 12) (by decide) rfl 11 (by decide) wd11 (fun _ h9 => h9) (by decide) rfl dX12_title_6 ?_
    refine lv_iconst (v := 5) hx hb dX12_title_9 (by decide) ?_
    refine lv_icmp_eq (tgt := 43) hx hb dX12_title_10 (by decide) (fun c_154 => ?_) (fun c_154 => ?_)
    · skip
      have h_155 := s_eq (rfl : (i 36 11).toInt = _) (show (5 : Int32).toInt = 5 from rfl) c_154
      refine lv_iconst (v := 5) hx hb dX12_title_43 (by decide) ?_
      have hV_156 : ((5 : Int32).toInt = 5 ∧ ((x.toInt = 4 ∧ (i 36 11).toInt = 5) ∨ (x.toInt = 6 ∧ (i 36 13).toInt = 12) ∨ (x.toInt = 7 ∧ (i 36 23).toInt = 12)) ∧ i = i) ∨ ((5 : Int32).toInt = 0 ∧ ¬ ((x.toInt = 4 ∧ (i 36 11).toInt = 5) ∨ (x.toInt = 6 ∧ (i 36 13).toInt = 12) ∨ (x.toInt = 7 ∧ (i 36 23).toInt = 12)) ∧ hdM i i x.toInt) := (Or.inl ⟨by rfl, by omega, rfl⟩)
      exact sj_zret hx hb hr hlocks rfl hS i ⟨hO, (fun a b ha => rfl), ⟨by decide, by decide⟩, hV_156⟩ hH (sj_Knil hK) (Nat.le_of_ble_eq_true rfl) (Nat.le_of_ble_eq_true rfl) dX12_title_44
    · skip
      have h_157 := s_ne (rfl : (i 36 11).toInt = _) (show (5 : Int32).toInt = 5 from rfl) c_154
      refine lv_iload_n hx hb dX12_title_13 rfl (lv_at hl 1 rfl) ?_
      refine lv_bipush (v := 6) hx hb dX12_title_14 (by decide) ?_
      refine lv_icmp_ne (tgt := 28) hx hb dX12_title_16 (by decide) (fun _ => ?_) (fun h => absurd h (p_ne (rfl : x.toInt = _) (show (6 : Int32).toInt = 6 from rfl) (by omega)))
      refine lv_iload_n hx hb dX12_title_28 rfl (lv_at hl 1 rfl) ?_
      refine lv_bipush (v := 7) hx hb dX12_title_29 (by decide) ?_
      refine lv_icmp_ne (tgt := 45) hx hb dX12_title_31 (by decide) (fun _ => ?_) (fun h => absurd h (p_ne (rfl : x.toInt = _) (show (7 : Int32).toInt = 7 from rfl) (by omega)))
      refine lv_iload_n hx hb dX12_title_45 rfl (lv_at hl 1 rfl) ?_
      refine lv_iconst (v := 5) hx hb dX12_title_46 (by decide) ?_
      refine lv_icmp_ge (tgt := 91) hx hb dX12_title_47 (by decide) (fun h => absurd h (p_nle (show (5 : Int32).toInt = 5 from rfl) (rfl : x.toInt = _) (by omega))) (fun _ => ?_)
      refine lv_aload_n hx hb dX12_title_50 rfl (lv_at hl 0 rfl) ?_
      refine h_getr (ci := 12) (C := RX12) (F := TX12) (N := 86) hx hb hts in12 hown hK hH (by decide) (rfl : kd 36 = 12) (by decide) rfl 12 (by decide) wd13 (fun _ h9 => h9) (by decide) rfl (t := 382) (hR 36 12 rfl) (by decide) dX12_title_51 ?_
      refine lv_aload_n hx hb dX12_title_54 rfl (lv_at hl 0 rfl) ?_
      refine h_geti (ci := 12) (C := RX12) (F := TX12) (N := 86) hx hb hts in12 hown hK hH (by decide) (rfl : kd 36 = 12) (by decide) rfl 11 (by decide) wd11 (fun _ h9 => h9) (by decide) rfl dX12_title_55 ?_
      refine lv_aload_n hx hb dX12_title_58 rfl (lv_at hl 0 rfl) ?_
      have bx_158 : (0 : Int) ≤ (i 36 9).toInt ∧ (i 36 9).toInt ≤ 65535 := hO 36 9
      refine h_geti (ci := 12) (C := RX12) (F := TX12) (N := 86) hx hb hts in12 hown hK hH (by decide) (rfl : kd 36 = 12) (by decide) rfl 9 (by decide) wd2 (fun _ h9 => h9) (by decide) rfl dX12_title_59 ?_
      have hO_159 := okp hO (n := 382) (k := ((i 36 11).toInt).toNat) (v := (i 36 9)) (show (0 : Int) ≤ ((i 36 9) : Int32).toInt ∧ ((i 36 9) : Int32).toInt ≤ 65535 from ⟨by omega, by omega⟩)
      refine h_iast hx hb hK hH hS (by decide) (rfl : kd 382 = 13) (s_vin (N := 5) (rfl : (i 36 11).toInt = _) (rfl : ln 382 = 5) (by omega) (by omega)) dX12_title_62 (fun H locs hH hS => ?_)
      rw [s_cl (show (i 36 11).toInt = (i 36 11).toInt by omega)] at hH
      refine lv_aload_n hx hb dX12_title_63 rfl (lv_at hl 0 rfl) ?_
      refine lv_dup hx hb dX12_title_64 rfl ?_
      refine h_geti (ci := 12) (C := RX12) (F := TX12) (N := 86) hx hb hts in12 hown hK hH (by decide) (rfl : kd 36 = 12) (by decide) rfl 11 (by decide) wd11 (fun _ h9 => h9) (by decide) rfl dX12_title_65 ?_
      refine sj_i (y := (i 36 11)) (congrFun (up2_n _ _ (by decide)) _) ?_
      refine lv_iconst (v := 1) hx hb dX12_title_68 (by decide) ?_
      refine lv_iadd hx hb dX12_title_69 ?_
      obtain ⟨z_160, ez_160, hz_160⟩ := s_add (rfl : (i 36 11).toInt = _) (show (1 : Int32).toInt = 1 from rfl) (by omega) (by omega)
      refine sj_i ez_160 ?_
      have hO_161 := okp hO_159 (n := 36) (k := 11) (v := z_160) (show (0 : Int) ≤ (z_160 : Int32).toInt ∧ (z_160 : Int32).toInt ≤ 5 from ⟨by omega, by omega⟩)
      refine h_puti (ty := .int) (ci := 12) (C := RX12) (F := TX12) (N := 86) hx hb hts in12 tyX12 tyX12_ok nmX12 hown hK hH hS (by decide) (rfl : kd 36 = 12) (by decide) rfl 11 (by decide) wd11 (fun _ h9 => h9) rfl (by decide +kernel) rfl rfl (by decide) rfl dX12_title_70 (fun H locs hH hS => ?_)
      refine lv_aload_n hx hb dX12_title_73 rfl (lv_at hl 0 rfl) ?_
      refine lv_iload_n hx hb dX12_title_74 rfl (lv_at hl 1 rfl) ?_
      refine lv_iconst (v := 3) hx hb dX12_title_75 (by decide) ?_
      refine lv_icmp_ne (tgt := 83) hx hb dX12_title_76 (by decide) (fun _ => ?_) (fun h => absurd h (p_ne (rfl : x.toInt = _) (show (3 : Int32).toInt = 3 from rfl) (by omega)))
      refine lv_bipush (v := 8) hx hb dX12_title_83 (by decide) ?_
      have hO_162 := okp hO_161 (n := 36) (k := 8) (v := 8) (show (0 : Int) ≤ (8 : Int32).toInt ∧ (8 : Int32).toInt ≤ 8 from ⟨by decide, by decide⟩)
      refine h_puti (ty := .int) (ci := 12) (C := RX12) (F := TX12) (N := 86) hx hb hts in12 tyX12 tyX12_ok nmX12 hown hK hH hS (by decide) (rfl : kd 36 = 12) (by decide) rfl 8 (by decide) wd6 (fun _ h9 => h9) rfl (by decide +kernel) rfl rfl (by decide) rfl dX12_title_85 (fun H locs hH hS => ?_)
      refine lv_goto (tgt := 216) hx hb dX12_title_88 (by decide) ?_
      refine lv_aload_n hx hb dX12_title_216 rfl (lv_at hl 0 rfl) ?_
      refine lv_iconst (v := 0) hx hb dX12_title_217 (by decide) ?_
      have hO_163 := okp hO_162 (n := 36) (k := 9) (v := 0) (show (0 : Int) ≤ (0 : Int32).toInt ∧ (0 : Int32).toInt ≤ 65535 from ⟨by decide, by decide⟩)
      refine h_puti (ty := .int) (ci := 12) (C := RX12) (F := TX12) (N := 86) hx hb hts in12 tyX12 tyX12_ok nmX12 hown hK hH hS (by decide) (rfl : kd 36 = 12) (by decide) rfl 9 (by decide) wd2 (fun _ h9 => h9) rfl (by decide +kernel) rfl rfl (by decide) rfl dX12_title_218 (fun H locs hH hS => ?_)
      refine lv_aload_n hx hb dX12_title_221 rfl (lv_at hl 0 rfl) ?_
      refine lv_iconst (v := 0) hx hb dX12_title_222 (by decide) ?_
      have hO_164 := okp hO_163 (n := 36) (k := 10) (v := 0) (show (0 : Int) ≤ (0 : Int32).toInt ∧ (0 : Int32).toInt ≤ 1 from ⟨by decide, by decide⟩)
      refine h_puti (ty := .boolean) (ci := 12) (C := RX12) (F := TX12) (N := 86) hx hb hts in12 tyX12 tyX12_ok nmX12 hown hK hH hS (by decide) (rfl : kd 36 = 12) (by decide) rfl 10 (by decide) wd7 (fun _ h9 => h9) rfl (by decide +kernel) (by decide +kernel) (by decide +kernel) (by decide) rfl dX12_title_223 (fun H locs hH hS => ?_)
      refine lv_iconst (v := 0) hx hb dX12_title_226 (by decide) ?_
      have hp_165 : ((up2 (up2 (up2 (up2 (up2 i 382 ((i 36 11).toInt).toNat (i 36 9)) 36 11 z_160) 36 8 8) 36 9 0) 36 10 0) 36 8).toInt = (8 : Int32).toInt := congrArg Int32.toInt (((up2_k _ _ (by decide)).trans ((up2_k _ _ (by decide)).trans (up2_at _ _ _ _))))
      have hl_166 : (8 : Int32).toInt = 8 := rfl
      have hp_167 : ((up2 (up2 (up2 (up2 (up2 i 382 ((i 36 11).toInt).toNat (i 36 9)) 36 11 z_160) 36 8 8) 36 9 0) 36 10 0) 36 9).toInt = (0 : Int32).toInt := congrArg Int32.toInt (((up2_k _ _ (by decide)).trans (up2_at _ _ _ _)))
      have hl_168 : (0 : Int32).toInt = 0 := rfl
      have hp_169 : ((up2 (up2 (up2 (up2 (up2 i 382 ((i 36 11).toInt).toNat (i 36 9)) 36 11 z_160) 36 8 8) 36 9 0) 36 10 0) 36 10).toInt = (0 : Int32).toInt := congrArg Int32.toInt ((up2_at _ _ _ _))
      have hl_170 : (0 : Int32).toInt = 0 := rfl
      have hp_171 : ((up2 (up2 (up2 (up2 (up2 i 382 ((i 36 11).toInt).toNat (i 36 9)) 36 11 z_160) 36 8 8) 36 9 0) 36 10 0) 382 (i 36 11).toInt.toNat).toInt = ((i 36 9) : Int32).toInt := congrArg Int32.toInt (((congrFun (up2_n _ _ (by decide)) _).trans ((congrFun (up2_n _ _ (by decide)) _).trans ((congrFun (up2_n _ _ (by decide)) _).trans ((congrFun (up2_n _ _ (by decide)) _).trans (up2_at _ _ _ _))))))
      have hp_172 : ((up2 (up2 (up2 (up2 (up2 i 382 ((i 36 11).toInt).toNat (i 36 9)) 36 11 z_160) 36 8 8) 36 9 0) 36 10 0) 36 11).toInt = (z_160 : Int32).toInt := congrArg Int32.toInt (((up2_k _ _ (by decide)).trans ((up2_k _ _ (by decide)).trans ((up2_k _ _ (by decide)).trans (up2_at _ _ _ _)))))
      have hV_173 : ((0 : Int32).toInt = 5 ∧ ((x.toInt = 4 ∧ (i 36 11).toInt = 5) ∨ (x.toInt = 6 ∧ (i 36 13).toInt = 12) ∨ (x.toInt = 7 ∧ (i 36 23).toInt = 12)) ∧ (up2 (up2 (up2 (up2 (up2 i 382 ((i 36 11).toInt).toNat (i 36 9)) 36 11 z_160) 36 8 8) 36 9 0) 36 10 0) = i) ∨ ((0 : Int32).toInt = 0 ∧ ¬ ((x.toInt = 4 ∧ (i 36 11).toInt = 5) ∨ (x.toInt = 6 ∧ (i 36 13).toInt = 12) ∨ (x.toInt = 7 ∧ (i 36 23).toInt = 12)) ∧ hdM i (up2 (up2 (up2 (up2 (up2 i 382 ((i 36 11).toInt).toNat (i 36 9)) 36 11 z_160) 36 8 8) 36 9 0) 36 10 0) x.toInt) := (Or.inr ⟨by rfl, by omega, Or.inl ⟨by omega, by omega, by omega, by omega, (fun j hj => ((up2_o _ _ (by omega)).trans ((up2_o _ _ (by omega)).trans ((up2_o _ _ (by omega)).trans ((up2_o _ _ (by omega)).trans (up2_o _ _ (by omega))))))), by omega, (fun b hb => by
            have hb9 : b ≠ 11 ∧ b ≠ 8 ∧ b ≠ 9 ∧ b ≠ 10 := ⟨fun e9 => hb (by rw [e9]; decide), fun e9 => hb (by rw [e9]; decide), fun e9 => hb (by rw [e9]; decide), fun e9 => hb (by rw [e9]; decide)⟩
            exact ((up2_o _ _ (by omega)).trans ((up2_o _ _ (by omega)).trans ((up2_o _ _ (by omega)).trans ((up2_o _ _ (by omega)).trans (up2_o _ _ (by omega))))))), (fun a h1 h2 => by
            have h9 : a ≠ 382 := fun e9 => h2 (by rw [e9]; decide)
            exact funext fun b => ((up2_o _ _ (by omega)).trans ((up2_o _ _ (by omega)).trans ((up2_o _ _ (by omega)).trans ((up2_o _ _ (by omega)).trans (up2_o _ _ (by omega)))))))⟩⟩)
      exact sj_zret hx hb hr hlocks rfl hS (up2 (up2 (up2 (up2 (up2 i 382 ((i 36 11).toInt).toNat (i 36 9)) 36 11 z_160) 36 8 8) 36 9 0) 36 10 0) ⟨hO_164, (fun a b ha => ((up2_o _ _ (by omega)).trans ((up2_o _ _ (by omega)).trans ((up2_o _ _ (by omega)).trans ((up2_o _ _ (by omega)).trans (up2_o _ _ (by omega))))))), ⟨by decide, by decide⟩, hV_173⟩ hH (sj_Knil hK) (Nat.le_of_ble_eq_true rfl) (Nat.le_of_ble_eq_true rfl) dX12_title_227
