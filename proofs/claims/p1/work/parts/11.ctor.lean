theorem dX7_init_0 : decode cX7_init 0 = .ok (.aload_n 0, 1) := by decide +kernel
theorem dX7_init_1 : decode cX7_init 1 = .ok (.invokespecial 3, 3) := by decide +kernel
theorem dX7_init_4 : decode cX7_init 4 = .ok (.aload_n 0, 1) := by decide +kernel
theorem dX7_init_5 : decode cX7_init 5 = .ok (.iconst 3, 1) := by decide +kernel
theorem dX7_init_6 : decode cX7_init 6 = .ok (.anewarray 9, 3) := by decide +kernel
theorem dX7_init_9 : decode cX7_init 9 = .ok (.putfield 11, 3) := by decide +kernel
theorem dX7_init_12 : decode cX7_init 12 = .ok (.iconst 0, 1) := by decide +kernel
theorem dX7_init_13 : decode cX7_init 13 = .ok (.istore_n 1, 1) := by decide +kernel
theorem dX7_init_14 : decode cX7_init 14 = .ok (.iload_n 1, 1) := by decide +kernel
theorem dX7_init_15 : decode cX7_init 15 = .ok (.aload_n 0, 1) := by decide +kernel
theorem dX7_init_16 : decode cX7_init 16 = .ok (.getfield 11, 3) := by decide +kernel
theorem dX7_init_19 : decode cX7_init 19 = .ok (.arraylength, 1) := by decide +kernel
theorem dX7_init_20 : decode cX7_init 20 = .ok (.if_icmp .ge 23, 3) := by decide +kernel
theorem dX7_init_23 : decode cX7_init 23 = .ok (.aload_n 0, 1) := by decide +kernel
theorem dX7_init_24 : decode cX7_init 24 = .ok (.getfield 11, 3) := by decide +kernel
theorem dX7_init_27 : decode cX7_init 27 = .ok (.iload_n 1, 1) := by decide +kernel
theorem dX7_init_28 : decode cX7_init 28 = .ok (.new 9, 3) := by decide +kernel
theorem dX7_init_31 : decode cX7_init 31 = .ok (.dup, 1) := by decide +kernel
theorem dX7_init_32 : decode cX7_init 32 = .ok (.iload_n 1, 1) := by decide +kernel
theorem dX7_init_33 : decode cX7_init 33 = .ok (.invokespecial 17, 3) := by decide +kernel
theorem dX7_init_36 : decode cX7_init 36 = .ok (.aastore, 1) := by decide +kernel
theorem dX7_init_37 : decode cX7_init 37 = .ok (.iinc 1 1, 3) := by decide +kernel
theorem dX7_init_40 : decode cX7_init 40 = .ok (.goto (-26), 3) := by decide +kernel
theorem dX7_init_43 : decode cX7_init 43 = .ok (.aload_n 0, 1) := by decide +kernel
theorem dX7_init_44 : decode cX7_init 44 = .ok (.bipush 24, 2) := by decide +kernel
theorem dX7_init_46 : decode cX7_init 46 = .ok (.newarray .int, 2) := by decide +kernel
theorem dX7_init_48 : decode cX7_init 48 = .ok (.putfield 22, 3) := by decide +kernel
theorem dX7_init_51 : decode cX7_init 51 = .ok (.aload_n 0, 1) := by decide +kernel
theorem dX7_init_52 : decode cX7_init 52 = .ok (.sipush 256, 3) := by decide +kernel
theorem dX7_init_55 : decode cX7_init 55 = .ok (.newarray .int, 2) := by decide +kernel
theorem dX7_init_57 : decode cX7_init 57 = .ok (.putfield 26, 3) := by decide +kernel
theorem dX7_init_60 : decode cX7_init 60 = .ok (.return_, 1) := by decide +kernel
theorem dX1_init_0 : decode cX1_init 0 = .ok (.aload_n 0, 1) := by decide +kernel
theorem dX1_init_1 : decode cX1_init 1 = .ok (.invokespecial 3, 3) := by decide +kernel
theorem dX1_init_4 : decode cX1_init 4 = .ok (.aload_n 0, 1) := by decide +kernel
theorem dX1_init_5 : decode cX1_init 5 = .ok (.aload_n 1, 1) := by decide +kernel
theorem dX1_init_6 : decode cX1_init 6 = .ok (.putfield 9, 3) := by decide +kernel
theorem dX1_init_9 : decode cX1_init 9 = .ok (.aload_n 0, 1) := by decide +kernel
theorem dX1_init_10 : decode cX1_init 10 = .ok (.new 15, 3) := by decide +kernel
theorem dX1_init_13 : decode cX1_init 13 = .ok (.dup, 1) := by decide +kernel
theorem dX1_init_14 : decode cX1_init 14 = .ok (.bipush 60, 2) := by decide +kernel
theorem dX1_init_16 : decode cX1_init 16 = .ok (.invokespecial 17, 3) := by decide +kernel
theorem dX1_init_19 : decode cX1_init 19 = .ok (.putfield 20, 3) := by decide +kernel
theorem dX1_init_22 : decode cX1_init 22 = .ok (.aload_n 0, 1) := by decide +kernel
theorem dX1_init_23 : decode cX1_init 23 = .ok (.new 15, 3) := by decide +kernel
theorem dX1_init_26 : decode cX1_init 26 = .ok (.dup, 1) := by decide +kernel
theorem dX1_init_27 : decode cX1_init 27 = .ok (.bipush 60, 2) := by decide +kernel
theorem dX1_init_29 : decode cX1_init 29 = .ok (.invokespecial 17, 3) := by decide +kernel
theorem dX1_init_32 : decode cX1_init 32 = .ok (.putfield 24, 3) := by decide +kernel
theorem dX1_init_35 : decode cX1_init 35 = .ok (.aload_n 0, 1) := by decide +kernel
theorem dX1_init_36 : decode cX1_init 36 = .ok (.bipush 24, 2) := by decide +kernel
theorem dX1_init_38 : decode cX1_init 38 = .ok (.anewarray 27, 3) := by decide +kernel
theorem dX1_init_41 : decode cX1_init 41 = .ok (.putfield 29, 3) := by decide +kernel
theorem dX1_init_44 : decode cX1_init 44 = .ok (.iconst 0, 1) := by decide +kernel
theorem dX1_init_45 : decode cX1_init 45 = .ok (.istore_n 2, 1) := by decide +kernel
theorem dX1_init_74 : decode cX1_init 74 = .ok (.return_, 1) := by decide +kernel
theorem dX1_init_46 : decode cX1_init 46 = .ok (.iload_n 2, 1) := by decide +kernel
theorem dX1_init_47 : decode cX1_init 47 = .ok (.aload_n 0, 1) := by decide +kernel
theorem dX1_init_48 : decode cX1_init 48 = .ok (.getfield 29, 3) := by decide +kernel
theorem dX1_init_51 : decode cX1_init 51 = .ok (.arraylength, 1) := by decide +kernel
theorem dX1_init_52 : decode cX1_init 52 = .ok (.if_icmp .ge 22, 3) := by decide +kernel
theorem dX1_init_55 : decode cX1_init 55 = .ok (.aload_n 0, 1) := by decide +kernel
theorem dX1_init_56 : decode cX1_init 56 = .ok (.getfield 29, 3) := by decide +kernel
theorem dX1_init_59 : decode cX1_init 59 = .ok (.iload_n 2, 1) := by decide +kernel
theorem dX1_init_60 : decode cX1_init 60 = .ok (.new 27, 3) := by decide +kernel
theorem dX1_init_63 : decode cX1_init 63 = .ok (.dup, 1) := by decide +kernel
theorem dX1_init_64 : decode cX1_init 64 = .ok (.invokespecial 33, 3) := by decide +kernel
theorem dX1_init_67 : decode cX1_init 67 = .ok (.aastore, 1) := by decide +kernel
theorem dX1_init_68 : decode cX1_init 68 = .ok (.iinc 2 1, 3) := by decide +kernel
theorem dX1_init_71 : decode cX1_init 71 = .ok (.goto (-25), 3) := by decide +kernel
theorem dX5_init_0 : decode cX5_init 0 = .ok (.aload_n 0, 1) := by decide +kernel
theorem dX5_init_1 : decode cX5_init 1 = .ok (.invokespecial 5, 3) := by decide +kernel
theorem dX5_init_4 : decode cX5_init 4 = .ok (.aload_n 0, 1) := by decide +kernel
theorem dX5_init_5 : decode cX5_init 5 = .ok (.new 11, 3) := by decide +kernel
theorem dX5_init_8 : decode cX5_init 8 = .ok (.dup, 1) := by decide +kernel
theorem dX5_init_9 : decode cX5_init 9 = .ok (.sipush 480, 3) := by decide +kernel
theorem dX5_init_12 : decode cX5_init 12 = .ok (.invokespecial 13, 3) := by decide +kernel
theorem dX5_init_15 : decode cX5_init 15 = .ok (.putfield 16, 3) := by decide +kernel
theorem dX5_init_18 : decode cX5_init 18 = .ok (.aload_n 0, 1) := by decide +kernel
theorem dX5_init_19 : decode cX5_init 19 = .ok (.bipush 20, 2) := by decide +kernel
theorem dX5_init_21 : decode cX5_init 21 = .ok (.newarray .int, 2) := by decide +kernel
theorem dX5_init_23 : decode cX5_init 23 = .ok (.putfield 20, 3) := by decide +kernel
theorem dX5_init_26 : decode cX5_init 26 = .ok (.aload_n 0, 1) := by decide +kernel
theorem dX5_init_27 : decode cX5_init 27 = .ok (.bipush 20, 2) := by decide +kernel
theorem dX5_init_29 : decode cX5_init 29 = .ok (.newarray .int, 2) := by decide +kernel
theorem dX5_init_31 : decode cX5_init 31 = .ok (.putfield 24, 3) := by decide +kernel
theorem dX5_init_34 : decode cX5_init 34 = .ok (.aload_n 0, 1) := by decide +kernel
theorem dX5_init_35 : decode cX5_init 35 = .ok (.iconst 5, 1) := by decide +kernel
theorem dX5_init_36 : decode cX5_init 36 = .ok (.anewarray 27, 3) := by decide +kernel
theorem dX5_init_39 : decode cX5_init 39 = .ok (.putfield 29, 3) := by decide +kernel
theorem dX5_init_42 : decode cX5_init 42 = .ok (.iconst 0, 1) := by decide +kernel
theorem dX5_init_43 : decode cX5_init 43 = .ok (.istore_n 1, 1) := by decide +kernel
theorem dX5_init_44 : decode cX5_init 44 = .ok (.iload_n 1, 1) := by decide +kernel
theorem dX5_init_45 : decode cX5_init 45 = .ok (.aload_n 0, 1) := by decide +kernel
theorem dX5_init_46 : decode cX5_init 46 = .ok (.getfield 29, 3) := by decide +kernel
theorem dX5_init_49 : decode cX5_init 49 = .ok (.arraylength, 1) := by decide +kernel
theorem dX5_init_50 : decode cX5_init 50 = .ok (.if_icmp .ge 22, 3) := by decide +kernel
theorem dX5_init_53 : decode cX5_init 53 = .ok (.aload_n 0, 1) := by decide +kernel
theorem dX5_init_54 : decode cX5_init 54 = .ok (.getfield 29, 3) := by decide +kernel
theorem dX5_init_57 : decode cX5_init 57 = .ok (.iload_n 1, 1) := by decide +kernel
theorem dX5_init_58 : decode cX5_init 58 = .ok (.new 27, 3) := by decide +kernel
theorem dX5_init_61 : decode cX5_init 61 = .ok (.dup, 1) := by decide +kernel
theorem dX5_init_62 : decode cX5_init 62 = .ok (.invokespecial 33, 3) := by decide +kernel
theorem dX5_init_65 : decode cX5_init 65 = .ok (.aastore, 1) := by decide +kernel
theorem dX5_init_66 : decode cX5_init 66 = .ok (.iinc 1 1, 3) := by decide +kernel
theorem dX5_init_69 : decode cX5_init 69 = .ok (.goto (-25), 3) := by decide +kernel
theorem dX5_init_72 : decode cX5_init 72 = .ok (.aload_n 0, 1) := by decide +kernel
theorem dX5_init_73 : decode cX5_init 73 = .ok (.bipush 12, 2) := by decide +kernel
theorem dX5_init_75 : decode cX5_init 75 = .ok (.anewarray 27, 3) := by decide +kernel
theorem dX5_init_78 : decode cX5_init 78 = .ok (.putfield 34, 3) := by decide +kernel
theorem dX5_init_81 : decode cX5_init 81 = .ok (.iconst 0, 1) := by decide +kernel
theorem dX5_init_82 : decode cX5_init 82 = .ok (.istore_n 1, 1) := by decide +kernel
theorem dX5_init_111 : decode cX5_init 111 = .ok (.aload_n 0, 1) := by decide +kernel
theorem dX5_init_112 : decode cX5_init 112 = .ok (.bipush 30, 2) := by decide +kernel
theorem dX5_init_114 : decode cX5_init 114 = .ok (.anewarray 27, 3) := by decide +kernel
theorem dX5_init_117 : decode cX5_init 117 = .ok (.putfield 37, 3) := by decide +kernel
theorem dX5_init_120 : decode cX5_init 120 = .ok (.iconst 0, 1) := by decide +kernel
theorem dX5_init_121 : decode cX5_init 121 = .ok (.istore_n 1, 1) := by decide +kernel
theorem dX5_init_122 : decode cX5_init 122 = .ok (.iload_n 1, 1) := by decide +kernel
theorem dX5_init_123 : decode cX5_init 123 = .ok (.aload_n 0, 1) := by decide +kernel
theorem dX5_init_124 : decode cX5_init 124 = .ok (.getfield 37, 3) := by decide +kernel
theorem dX5_init_127 : decode cX5_init 127 = .ok (.arraylength, 1) := by decide +kernel
theorem dX5_init_128 : decode cX5_init 128 = .ok (.if_icmp .ge 22, 3) := by decide +kernel
theorem dX5_init_131 : decode cX5_init 131 = .ok (.aload_n 0, 1) := by decide +kernel
theorem dX5_init_132 : decode cX5_init 132 = .ok (.getfield 37, 3) := by decide +kernel
theorem dX5_init_135 : decode cX5_init 135 = .ok (.iload_n 1, 1) := by decide +kernel
theorem dX5_init_136 : decode cX5_init 136 = .ok (.new 27, 3) := by decide +kernel
theorem dX5_init_139 : decode cX5_init 139 = .ok (.dup, 1) := by decide +kernel
theorem dX5_init_140 : decode cX5_init 140 = .ok (.invokespecial 33, 3) := by decide +kernel
theorem dX5_init_143 : decode cX5_init 143 = .ok (.aastore, 1) := by decide +kernel
theorem dX5_init_144 : decode cX5_init 144 = .ok (.iinc 1 1, 3) := by decide +kernel
theorem dX5_init_147 : decode cX5_init 147 = .ok (.goto (-25), 3) := by decide +kernel
theorem dX5_init_150 : decode cX5_init 150 = .ok (.aload_n 0, 1) := by decide +kernel
theorem dX5_init_151 : decode cX5_init 151 = .ok (.bipush 12, 2) := by decide +kernel
theorem dX5_init_153 : decode cX5_init 153 = .ok (.anewarray 27, 3) := by decide +kernel
theorem dX5_init_156 : decode cX5_init 156 = .ok (.putfield 40, 3) := by decide +kernel
theorem dX5_init_159 : decode cX5_init 159 = .ok (.iconst 0, 1) := by decide +kernel
theorem dX5_init_160 : decode cX5_init 160 = .ok (.istore_n 1, 1) := by decide +kernel
theorem dX5_init_189 : decode cX5_init 189 = .ok (.aload_n 0, 1) := by decide +kernel
theorem dX5_init_190 : decode cX5_init 190 = .ok (.bipush 40, 2) := by decide +kernel
theorem dX5_init_192 : decode cX5_init 192 = .ok (.anewarray 43, 3) := by decide +kernel
theorem dX5_init_195 : decode cX5_init 195 = .ok (.putfield 45, 3) := by decide +kernel
theorem dX5_init_198 : decode cX5_init 198 = .ok (.iconst 0, 1) := by decide +kernel
theorem dX5_init_199 : decode cX5_init 199 = .ok (.istore_n 1, 1) := by decide +kernel
theorem dX5_init_228 : decode cX5_init 228 = .ok (.aload_n 0, 1) := by decide +kernel
theorem dX5_init_229 : decode cX5_init 229 = .ok (.aload_n 0, 1) := by decide +kernel
theorem dX5_init_230 : decode cX5_init 230 = .ok (.getfield 29, 3) := by decide +kernel
theorem dX5_init_233 : decode cX5_init 233 = .ok (.iconst 0, 1) := by decide +kernel
theorem dX5_init_234 : decode cX5_init 234 = .ok (.aaload, 1) := by decide +kernel
theorem dX5_init_235 : decode cX5_init 235 = .ok (.putfield 50, 3) := by decide +kernel
theorem dX5_init_238 : decode cX5_init 238 = .ok (.aload_n 0, 1) := by decide +kernel
theorem dX5_init_239 : decode cX5_init 239 = .ok (.aload_n 0, 1) := by decide +kernel
theorem dX5_init_240 : decode cX5_init 240 = .ok (.getfield 37, 3) := by decide +kernel
theorem dX5_init_243 : decode cX5_init 243 = .ok (.iconst 0, 1) := by decide +kernel
theorem dX5_init_244 : decode cX5_init 244 = .ok (.aaload, 1) := by decide +kernel
theorem dX5_init_245 : decode cX5_init 245 = .ok (.putfield 54, 3) := by decide +kernel
theorem dX5_init_248 : decode cX5_init 248 = .ok (.return_, 1) := by decide +kernel
theorem dX5_init_200 : decode cX5_init 200 = .ok (.iload_n 1, 1) := by decide +kernel
theorem dX5_init_201 : decode cX5_init 201 = .ok (.aload_n 0, 1) := by decide +kernel
theorem dX5_init_202 : decode cX5_init 202 = .ok (.getfield 45, 3) := by decide +kernel
theorem dX5_init_205 : decode cX5_init 205 = .ok (.arraylength, 1) := by decide +kernel
theorem dX5_init_206 : decode cX5_init 206 = .ok (.if_icmp .ge 22, 3) := by decide +kernel
theorem dX5_init_209 : decode cX5_init 209 = .ok (.aload_n 0, 1) := by decide +kernel
theorem dX5_init_210 : decode cX5_init 210 = .ok (.getfield 45, 3) := by decide +kernel
theorem dX5_init_213 : decode cX5_init 213 = .ok (.iload_n 1, 1) := by decide +kernel
theorem dX5_init_214 : decode cX5_init 214 = .ok (.new 43, 3) := by decide +kernel
theorem dX5_init_217 : decode cX5_init 217 = .ok (.dup, 1) := by decide +kernel
theorem dX5_init_218 : decode cX5_init 218 = .ok (.invokespecial 49, 3) := by decide +kernel
theorem dX5_init_221 : decode cX5_init 221 = .ok (.aastore, 1) := by decide +kernel
theorem dX5_init_222 : decode cX5_init 222 = .ok (.iinc 1 1, 3) := by decide +kernel
theorem dX5_init_225 : decode cX5_init 225 = .ok (.goto (-25), 3) := by decide +kernel
theorem dX5_init_161 : decode cX5_init 161 = .ok (.iload_n 1, 1) := by decide +kernel
theorem dX5_init_162 : decode cX5_init 162 = .ok (.aload_n 0, 1) := by decide +kernel
theorem dX5_init_163 : decode cX5_init 163 = .ok (.getfield 40, 3) := by decide +kernel
theorem dX5_init_166 : decode cX5_init 166 = .ok (.arraylength, 1) := by decide +kernel
theorem dX5_init_167 : decode cX5_init 167 = .ok (.if_icmp .ge 22, 3) := by decide +kernel
theorem dX5_init_170 : decode cX5_init 170 = .ok (.aload_n 0, 1) := by decide +kernel
theorem dX5_init_171 : decode cX5_init 171 = .ok (.getfield 40, 3) := by decide +kernel
theorem dX5_init_174 : decode cX5_init 174 = .ok (.iload_n 1, 1) := by decide +kernel
theorem dX5_init_175 : decode cX5_init 175 = .ok (.new 27, 3) := by decide +kernel
theorem dX5_init_178 : decode cX5_init 178 = .ok (.dup, 1) := by decide +kernel
theorem dX5_init_179 : decode cX5_init 179 = .ok (.invokespecial 33, 3) := by decide +kernel
theorem dX5_init_182 : decode cX5_init 182 = .ok (.aastore, 1) := by decide +kernel
theorem dX5_init_183 : decode cX5_init 183 = .ok (.iinc 1 1, 3) := by decide +kernel
theorem dX5_init_186 : decode cX5_init 186 = .ok (.goto (-25), 3) := by decide +kernel
theorem dX5_init_83 : decode cX5_init 83 = .ok (.iload_n 1, 1) := by decide +kernel
theorem dX5_init_84 : decode cX5_init 84 = .ok (.aload_n 0, 1) := by decide +kernel
theorem dX5_init_85 : decode cX5_init 85 = .ok (.getfield 34, 3) := by decide +kernel
theorem dX5_init_88 : decode cX5_init 88 = .ok (.arraylength, 1) := by decide +kernel
theorem dX5_init_89 : decode cX5_init 89 = .ok (.if_icmp .ge 22, 3) := by decide +kernel
theorem dX5_init_92 : decode cX5_init 92 = .ok (.aload_n 0, 1) := by decide +kernel
theorem dX5_init_93 : decode cX5_init 93 = .ok (.getfield 34, 3) := by decide +kernel
theorem dX5_init_96 : decode cX5_init 96 = .ok (.iload_n 1, 1) := by decide +kernel
theorem dX5_init_97 : decode cX5_init 97 = .ok (.new 27, 3) := by decide +kernel
theorem dX5_init_100 : decode cX5_init 100 = .ok (.dup, 1) := by decide +kernel
theorem dX5_init_101 : decode cX5_init 101 = .ok (.invokespecial 33, 3) := by decide +kernel
theorem dX5_init_104 : decode cX5_init 104 = .ok (.aastore, 1) := by decide +kernel
theorem dX5_init_105 : decode cX5_init 105 = .ok (.iinc 1 1, 3) := by decide +kernel
theorem dX5_init_108 : decode cX5_init 108 = .ok (.goto (-25), 3) := by decide +kernel
set_option maxRecDepth 20000 in
theorem ggX7_init_X10_init : GoodIn wsX7_init wsX10_init := goodIn_r _ [13, 14, 2, 3, 15, 16, 28, 29, 30, 31, 32, 33, 34, 35] (by decide +kernel) (by decide +kernel)
set_option maxRecDepth 20000 in
theorem gX7_init_X10_init : GoodIn wsX7_init (wsX10_init) := ggX7_init_X10_init
set_option maxRecDepth 20000 in
theorem ggX1_init_X3_init : GoodIn wsX1_init wsX3_init := goodIn_r _ [16, 17, 2, 3, 18, 19, 28, 29] (by decide +kernel) (by decide +kernel)
set_option maxRecDepth 20000 in
theorem gX1_init_X3_init : GoodIn wsX1_init (wsX3_init) := ggX1_init_X3_init
set_option maxRecDepth 20000 in
theorem ggX1_init_X0_init : GoodIn wsX1_init wsX0_init := goodIn_r _ [21, 22, 2, 3] (by decide +kernel) (by decide +kernel)
set_option maxRecDepth 20000 in
theorem gX1_init_X0_init_n33 : GoodIn wsX1_init (wsX0_init) := ggX1_init_X0_init
set_option maxRecDepth 20000 in
theorem ggX5_init_X3_init : GoodIn wsX5_init wsX3_init := goodIn_r _ [26, 27, 2, 3, 28, 29, 39, 40] (by decide +kernel) (by decide +kernel)
set_option maxRecDepth 20000 in
theorem gX5_init_X3_init : GoodIn wsX5_init (wsX3_init) := ggX5_init_X3_init
set_option maxRecDepth 20000 in
theorem ggX5_init_X4_init : GoodIn wsX5_init wsX4_init := goodIn_r _ [31, 32, 2, 3] (by decide +kernel) (by decide +kernel)
set_option maxRecDepth 20000 in
theorem gX5_init_X4_init_n33 : GoodIn wsX5_init (wsX4_init) := ggX5_init_X4_init
set_option maxRecDepth 20000 in
theorem ggX5_init_X6_init : GoodIn wsX5_init wsX6_init := goodIn_r _ [35, 36, 2, 3, 8, 37, 38, 69, 70, 71, 72] (by decide +kernel) (by decide +kernel)
set_option maxRecDepth 20000 in
theorem gX5_init_X6_init : GoodIn wsX5_init (wsX6_init) := ggX5_init_X6_init
set_option maxHeartbeats 4000000 in
set_option maxRecDepth 100000 in
/-- Run() -/
theorem c_X7_init (l : Launch) (D : va_G) (h0 : Nat) (sz : Nat)  : Met l yX7_init wsX7_init ({ frames := 2, cells := 6, slots := 307, locals := 41 }) (va_Pc [.ref h0] (sj_B D [(h0, .inr (7, [.null, .int 0, .int 0, .null, .int 0, .int 0, .int 0, .int 0, .int 0, .null, .int 0]))] [] sz sj_xc)) (sj_Qv (S := Nat × Nat × Nat × ClassId × Nat × Nat × Nat × ClassId × va_W) D (fun _ => True) (fun u => [(h0, .inr (7, [.ref u.1, .int 0, .int 0, .ref u.2.1, .int 0, .int 0, .int 0, .int 0, .int 0, .ref u.2.2.1, .int 0])), (u.1, .inl (u.2.2.2.1, 3, .inr (.inr (.inr (.inr (va_up (va_up (va_up (fun _ => none) 0 (some u.2.2.2.2.1)) 1 (some u.2.2.2.2.2.1)) 2 (some u.2.2.2.2.2.2.1))))))), (u.2.2.2.2.1, .inr (10, [.int 0, .int (-1), .int 0, .int 0, .int 0, .double 0, .int 0, .int 0])), (u.2.2.2.2.2.1, .inr (10, [.int 1, .int (-1), .int 0, .int 0, .int 0, .double 0, .int 0, .int 0])), (u.2.2.2.2.2.2.1, .inr (10, [.int 2, .int (-1), .int 0, .int 0, .int 0, .double 0, .int 0, .int 0])), (u.2.2.1, .inl (u.2.2.2.2.2.2.2.1, 256, .inl (fun _ => 0)))] ++ u.2.2.2.2.2.2.2.2) (fun u => [(u.2.2.2.1, .object RX10), (u.2.2.2.2.2.2.2.1, .int)]) (va_A [(h0, .inr (7, [.null, .int 0, .int 0, .null, .int 0, .int 0, .int 0, .int 0, .int 0, .null, .int 0]))] sz)) 6 307 (va_A [(h0, .inr (7, [.null, .int 0, .int 0, .null, .int 0, .int 0, .int 0, .int 0, .int 0, .null, .int 0]))] sz) := by
  refine sj_met (cc := cX7_init) (maxL := 2) (ret := none) (by decide) rfl (Nat.le_of_ble_eq_true rfl) ?_
  intro p e s m below meth c A ls hx hb hr hml hts hown hlocks hnm hA hsz hS hH hK hE hl
  have hown : s.vm.findClass RX7 = some m.cls := hown
  have hnm : meth.name = "<init>" := hnm
  have in7 : ∀ w ∈ wsX70, w ∈ wsX7_init := by decide +kernel
  have in10 : ∀ w ∈ wsX100, w ∈ wsX7_init := by decide +kernel
  have wd0 := hts (.methodLink RX7 3 objectInit) (by decide +kernel)
  have wd1 := hts (.instanceMethod objectInit) (by decide +kernel)
  have wd2 := hts (.code objectInit ⟨#[0xb1]⟩ 1 none) (by decide +kernel)
  have wd3 := hts (.classLink RX7 9 RX10) (by decide +kernel)
  have wd4 := va_AO.use (A := #[]) hE.2.2.2.2.2.1
  have wd5 := hts (.fieldLink RX7 11 "StoryDesk$Run" "workers" "[LStoryDesk$Worker;") (by decide +kernel)
  have wd6 := hts (.instantiable RX10 8) (by decide +kernel)
  have wd7 := hts (.initialized RX10) (by decide +kernel)
  have wd8 := hts (.methodLink RX7 17 yX10_init) (by decide +kernel)
  have wd9 := hts (.instanceMethod yX10_init) (by decide +kernel)
  have wd10 := hts (.arrayClass .int) (by decide +kernel)
  have wd11 := hts (.fieldLink RX7 22 "StoryDesk$Run" "queue" "[I") (by decide +kernel)
  have wd12 := hts (.fieldLink RX7 26 "StoryDesk$Run" "events" "[I") (by decide +kernel)
  have hl : lv_has ls 2 [(0, .ref h0)] := hl
  have hH : sj_H D A ([(h0, .inr (7, [.null, .int 0, .int 0, .null, .int 0, .int 0, .int 0, .int 0, .int 0, .null, .int 0]))] ++ []) s.heap := hH
  refine lv_aload_n hx hb dX7_init_0 rfl (lv_at hl 0 rfl) ?_
  refine W.objInit hx hb hown wd0 wd1 wd2 rfl (by rw [hml]; exact hl.1) rfl dX7_init_1 (Nat.le_of_ble_eq_true rfl) (Nat.le_of_ble_eq_true rfl) ?_
  refine W.eq (g2 := F0 m 4 ls []) rfl ?_
  refine lv_aload_n hx hb dX7_init_4 rfl (lv_at hl 0 rfl) ?_
  refine lv_iconst (v := 3) hx hb dX7_init_5 (by decide) ?_
  refine sj_newq (C := RX10) (N' := 3) hx hb hown wd3 (sj_ao wd4) hK hH hS hA (by decide) (by decide) (by decide) rfl rfl (Nat.le_of_ble_eq_true rfl) (Nat.le_of_ble_eq_true rfl) dX7_init_6 (fun q_1 k_2 H hK hH hS => ?_)
  have hK : va_K D vwCl [(k_2, .object RX10)] s := hK
  have hH : sj_H D A ([(h0, .inr (7, [.null, .int 0, .int 0, .null, .int 0, .int 0, .int 0, .int 0, .int 0, .null, .int 0])), (q_1, .inl (k_2, 3, .inr (.inr (.inr (.inr (fun _ => none))))))] ++ []) H := hH
  refine sj_putF (D := D) (ci := 7) (v := .ref q_1) (ty := (.array (.object "StoryDesk$Worker"))) (C := RX7) (F := TX7) (N := 11) hx hb hts in7 tyX7 tyX7_ok nmX7 hown hK hH hS 0 rfl rfl 0 (by decide) wd5 (fun _ h9 => h9) rfl hnm rfl (by decide +kernel) rfl rfl (Nat.le_of_ble_eq_true rfl) dX7_init_9 (fun H locs (hH : sj_H D A ([(h0, .inr (7, [.ref q_1, .int 0, .int 0, .null, .int 0, .int 0, .int 0, .int 0, .int 0, .null, .int 0])), (q_1, .inl (k_2, 3, .inr (.inr (.inr (.inr (fun _ => none))))))] ++ []) H) hS => ?_)
  refine lv_iconst (v := 0) hx hb dX7_init_12 (by decide) ?_
  refine lv_istore_n (lv' := [(1, .int 0), (0, .ref h0)]) hx hb dX7_init_13 rfl hl (by decide) rfl (fun ls hl => ?_)
  refine lv_iload_n hx hb dX7_init_14 rfl (lv_at hl 0 rfl) ?_
  refine lv_aload_n hx hb dX7_init_15 rfl (lv_at hl 1 rfl) ?_
  refine va_get (D := D) (ci := 7) (v := .ref q_1) (C := RX7) (T := TX7) (N := 11) hx hb hts in7 hown hK hH.1 0 rfl rfl 0 (by decide) wd5 (fun _ h9 => h9) rfl dX7_init_16 ?_
  refine va_alen hx hb hK hH.1 1 0 rfl rfl (v := 3) rfl dX7_init_19 ?_
  refine lv_icmp_ge (tgt := 43) hx hb dX7_init_20 (by decide) (fun h => absurd h (by decide)) (fun _ => ?_)
  refine lv_aload_n hx hb dX7_init_23 rfl (lv_at hl 1 rfl) ?_
  refine va_get (D := D) (ci := 7) (v := .ref q_1) (C := RX7) (T := TX7) (N := 11) hx hb hts in7 hown hK hH.1 0 rfl rfl 0 (by decide) wd5 (fun _ h9 => h9) rfl dX7_init_24 ?_
  refine lv_iload_n hx hb dX7_init_27 rfl (lv_at hl 0 rfl) ?_
  refine sj_new (ci := 10) (fs := [.int 0, .int 0, .int 0, .int 0, .int 0, .double 0, .int 0, .int 0]) (C := RX10) (F := TX10) (N := 8) hx hb hts in10 tyX10 tyX10_ok hown wd3 wd6 wd7 hK hH hS hA rfl sj_df10 rfl rfl (Nat.le_of_ble_eq_true rfl) (Nat.le_of_ble_eq_true rfl) dX7_init_28 (fun q_4 H hH hS => ?_)
  have hH : sj_H D A ([(h0, .inr (7, [.ref q_1, .int 0, .int 0, .null, .int 0, .int 0, .int 0, .int 0, .int 0, .null, .int 0])), (q_1, .inl (k_2, 3, .inr (.inr (.inr (.inr (fun _ => none)))))), (q_4, .inr (10, [.int 0, .int 0, .int 0, .int 0, .int 0, .double 0, .int 0, .int 0]))] ++ []) H := hH
  refine lv_dup hx hb dX7_init_31 rfl ?_
  refine lv_iload_n hx hb dX7_init_32 rfl (lv_at hl 0 rfl) ?_
  refine sj_callv (wr := [(h0, .inr (7, [.ref q_1, .int 0, .int 0, .null, .int 0, .int 0, .int 0, .int 0, .int 0, .null, .int 0])), (q_1, .inl (k_2, 3, .inr (.inr (.inr (.inr (fun _ => none))))))]) (va_runI (As := [.int 0]) (rest := [.ref q_4, .int 0, .ref q_1]) ⟨hx, hb, hml, hown, hts⟩ (c_X10_init l D q_4 0 H.size) (cwI 1 hts gX7_init_X10_init rfl rfl rfl wd7 wd8 wd9 rfl (by decide +kernel) ⟨(Nat.le_of_ble_eq_true rfl), (Nat.le_of_ble_eq_true rfl)⟩) (sj_preS hH hK [2] rfl rfl [] rfl sj_bln sj_exn) rfl rfl hl.1 rfl (lv_room (Nat.le_of_ble_eq_true rfl)) dX7_init_33 ⟨(Nat.le_of_ble_eq_true rfl), (Nat.le_of_ble_eq_true rfl)⟩) hH hK hS hA [2] [0, 1] rfl rfl rfl rfl (by decide) rfl rfl (fun u_6 H locs hw_7 hH hK hS => ?_)
  have hH : sj_H D A ([(h0, .inr (7, [.ref q_1, .int 0, .int 0, .null, .int 0, .int 0, .int 0, .int 0, .int 0, .null, .int 0])), (q_1, .inl (k_2, 3, .inr (.inr (.inr (.inr (fun _ => none)))))), (q_4, .inr (10, [.int 0, .int (-1), .int 0, .int 0, .int 0, .double 0, .int 0, .int 0]))] ++ []) H := hH
  have hK : va_K D vwCl [(k_2, .object RX10)] s := by simpa using hK
  refine sj_astq hx hb hK hH hS 1 0 2 10 rfl rfl rfl rfl (sj_vin (by decide) (by decide)) dX7_init_36 (fun H locs hH hS => ?_)
  have hH : sj_H D A ([(h0, .inr (7, [.ref q_1, .int 0, .int 0, .null, .int 0, .int 0, .int 0, .int 0, .int 0, .null, .int 0])), (q_1, .inl (k_2, 3, .inr (.inr (.inr (.inr (va_up (fun _ => none) 0 (some q_4))))))), (q_4, .inr (10, [.int 0, .int (-1), .int 0, .int 0, .int 0, .double 0, .int 0, .int 0]))] ++ []) H := hH
  refine lv_iinc (v := 1) (lv' := [(1, .int 1), (0, .ref h0)]) hx hb dX7_init_37 hl (k := 0) rfl (by decide) (by decide) rfl (fun ls hl => ?_)
  refine lv_goto (tgt := 14) hx hb dX7_init_40 (by decide) ?_
  refine lv_iload_n hx hb dX7_init_14 rfl (lv_at hl 0 rfl) ?_
  refine lv_aload_n hx hb dX7_init_15 rfl (lv_at hl 1 rfl) ?_
  refine va_get (D := D) (ci := 7) (v := .ref q_1) (C := RX7) (T := TX7) (N := 11) hx hb hts in7 hown hK hH.1 0 rfl rfl 0 (by decide) wd5 (fun _ h9 => h9) rfl dX7_init_16 ?_
  refine va_alen hx hb hK hH.1 1 0 rfl rfl (v := 3) rfl dX7_init_19 ?_
  refine lv_icmp_ge (tgt := 43) hx hb dX7_init_20 (by decide) (fun h => absurd h (by decide)) (fun _ => ?_)
  refine lv_aload_n hx hb dX7_init_23 rfl (lv_at hl 1 rfl) ?_
  refine va_get (D := D) (ci := 7) (v := .ref q_1) (C := RX7) (T := TX7) (N := 11) hx hb hts in7 hown hK hH.1 0 rfl rfl 0 (by decide) wd5 (fun _ h9 => h9) rfl dX7_init_24 ?_
  refine lv_iload_n hx hb dX7_init_27 rfl (lv_at hl 0 rfl) ?_
  refine sj_new (ci := 10) (fs := [.int 0, .int 0, .int 0, .int 0, .int 0, .double 0, .int 0, .int 0]) (C := RX10) (F := TX10) (N := 8) hx hb hts in10 tyX10 tyX10_ok hown wd3 wd6 wd7 hK hH hS hA rfl sj_df10 rfl rfl (Nat.le_of_ble_eq_true rfl) (Nat.le_of_ble_eq_true rfl) dX7_init_28 (fun q_9 H hH hS => ?_)
  have hH : sj_H D A ([(h0, .inr (7, [.ref q_1, .int 0, .int 0, .null, .int 0, .int 0, .int 0, .int 0, .int 0, .null, .int 0])), (q_1, .inl (k_2, 3, .inr (.inr (.inr (.inr (va_up (fun _ => none) 0 (some q_4))))))), (q_4, .inr (10, [.int 0, .int (-1), .int 0, .int 0, .int 0, .double 0, .int 0, .int 0])), (q_9, .inr (10, [.int 0, .int 0, .int 0, .int 0, .int 0, .double 0, .int 0, .int 0]))] ++ []) H := hH
  refine lv_dup hx hb dX7_init_31 rfl ?_
  refine lv_iload_n hx hb dX7_init_32 rfl (lv_at hl 0 rfl) ?_
  refine sj_callv (wr := [(h0, .inr (7, [.ref q_1, .int 0, .int 0, .null, .int 0, .int 0, .int 0, .int 0, .int 0, .null, .int 0])), (q_1, .inl (k_2, 3, .inr (.inr (.inr (.inr (va_up (fun _ => none) 0 (some q_4))))))), (q_4, .inr (10, [.int 0, .int (-1), .int 0, .int 0, .int 0, .double 0, .int 0, .int 0]))]) (va_runI (As := [.int 1]) (rest := [.ref q_9, .int 1, .ref q_1]) ⟨hx, hb, hml, hown, hts⟩ (c_X10_init l D q_9 1 H.size) (cwI 1 hts gX7_init_X10_init rfl rfl rfl wd7 wd8 wd9 rfl (by decide +kernel) ⟨(Nat.le_of_ble_eq_true rfl), (Nat.le_of_ble_eq_true rfl)⟩) (sj_preS hH hK [3] rfl rfl [] rfl sj_bln sj_exn) rfl rfl hl.1 rfl (lv_room (Nat.le_of_ble_eq_true rfl)) dX7_init_33 ⟨(Nat.le_of_ble_eq_true rfl), (Nat.le_of_ble_eq_true rfl)⟩) hH hK hS hA [3] [0, 1, 2] rfl rfl rfl rfl (by decide) rfl rfl (fun u_11 H locs hw_12 hH hK hS => ?_)
  have hH : sj_H D A ([(h0, .inr (7, [.ref q_1, .int 0, .int 0, .null, .int 0, .int 0, .int 0, .int 0, .int 0, .null, .int 0])), (q_1, .inl (k_2, 3, .inr (.inr (.inr (.inr (va_up (fun _ => none) 0 (some q_4))))))), (q_4, .inr (10, [.int 0, .int (-1), .int 0, .int 0, .int 0, .double 0, .int 0, .int 0])), (q_9, .inr (10, [.int 1, .int (-1), .int 0, .int 0, .int 0, .double 0, .int 0, .int 0]))] ++ []) H := hH
  have hK : va_K D vwCl [(k_2, .object RX10)] s := by simpa using hK
  refine sj_astq hx hb hK hH hS 1 0 3 10 rfl rfl rfl rfl (sj_vin (by decide) (by decide)) dX7_init_36 (fun H locs hH hS => ?_)
  have hH : sj_H D A ([(h0, .inr (7, [.ref q_1, .int 0, .int 0, .null, .int 0, .int 0, .int 0, .int 0, .int 0, .null, .int 0])), (q_1, .inl (k_2, 3, .inr (.inr (.inr (.inr (va_up (va_up (fun _ => none) 0 (some q_4)) 1 (some q_9))))))), (q_4, .inr (10, [.int 0, .int (-1), .int 0, .int 0, .int 0, .double 0, .int 0, .int 0])), (q_9, .inr (10, [.int 1, .int (-1), .int 0, .int 0, .int 0, .double 0, .int 0, .int 0]))] ++ []) H := hH
  refine lv_iinc (v := 2) (lv' := [(1, .int 2), (0, .ref h0)]) hx hb dX7_init_37 hl (k := 0) rfl (by decide) (by decide) rfl (fun ls hl => ?_)
  refine lv_goto (tgt := 14) hx hb dX7_init_40 (by decide) ?_
  refine lv_iload_n hx hb dX7_init_14 rfl (lv_at hl 0 rfl) ?_
  refine lv_aload_n hx hb dX7_init_15 rfl (lv_at hl 1 rfl) ?_
  refine va_get (D := D) (ci := 7) (v := .ref q_1) (C := RX7) (T := TX7) (N := 11) hx hb hts in7 hown hK hH.1 0 rfl rfl 0 (by decide) wd5 (fun _ h9 => h9) rfl dX7_init_16 ?_
  refine va_alen hx hb hK hH.1 1 0 rfl rfl (v := 3) rfl dX7_init_19 ?_
  refine lv_icmp_ge (tgt := 43) hx hb dX7_init_20 (by decide) (fun h => absurd h (by decide)) (fun _ => ?_)
  refine lv_aload_n hx hb dX7_init_23 rfl (lv_at hl 1 rfl) ?_
  refine va_get (D := D) (ci := 7) (v := .ref q_1) (C := RX7) (T := TX7) (N := 11) hx hb hts in7 hown hK hH.1 0 rfl rfl 0 (by decide) wd5 (fun _ h9 => h9) rfl dX7_init_24 ?_
  refine lv_iload_n hx hb dX7_init_27 rfl (lv_at hl 0 rfl) ?_
  refine sj_new (ci := 10) (fs := [.int 0, .int 0, .int 0, .int 0, .int 0, .double 0, .int 0, .int 0]) (C := RX10) (F := TX10) (N := 8) hx hb hts in10 tyX10 tyX10_ok hown wd3 wd6 wd7 hK hH hS hA rfl sj_df10 rfl rfl (Nat.le_of_ble_eq_true rfl) (Nat.le_of_ble_eq_true rfl) dX7_init_28 (fun q_14 H hH hS => ?_)
  have hH : sj_H D A ([(h0, .inr (7, [.ref q_1, .int 0, .int 0, .null, .int 0, .int 0, .int 0, .int 0, .int 0, .null, .int 0])), (q_1, .inl (k_2, 3, .inr (.inr (.inr (.inr (va_up (va_up (fun _ => none) 0 (some q_4)) 1 (some q_9))))))), (q_4, .inr (10, [.int 0, .int (-1), .int 0, .int 0, .int 0, .double 0, .int 0, .int 0])), (q_9, .inr (10, [.int 1, .int (-1), .int 0, .int 0, .int 0, .double 0, .int 0, .int 0])), (q_14, .inr (10, [.int 0, .int 0, .int 0, .int 0, .int 0, .double 0, .int 0, .int 0]))] ++ []) H := hH
  refine lv_dup hx hb dX7_init_31 rfl ?_
  refine lv_iload_n hx hb dX7_init_32 rfl (lv_at hl 0 rfl) ?_
  refine sj_callv (wr := [(h0, .inr (7, [.ref q_1, .int 0, .int 0, .null, .int 0, .int 0, .int 0, .int 0, .int 0, .null, .int 0])), (q_1, .inl (k_2, 3, .inr (.inr (.inr (.inr (va_up (va_up (fun _ => none) 0 (some q_4)) 1 (some q_9))))))), (q_4, .inr (10, [.int 0, .int (-1), .int 0, .int 0, .int 0, .double 0, .int 0, .int 0])), (q_9, .inr (10, [.int 1, .int (-1), .int 0, .int 0, .int 0, .double 0, .int 0, .int 0]))]) (va_runI (As := [.int 2]) (rest := [.ref q_14, .int 2, .ref q_1]) ⟨hx, hb, hml, hown, hts⟩ (c_X10_init l D q_14 2 H.size) (cwI 1 hts gX7_init_X10_init rfl rfl rfl wd7 wd8 wd9 rfl (by decide +kernel) ⟨(Nat.le_of_ble_eq_true rfl), (Nat.le_of_ble_eq_true rfl)⟩) (sj_preS hH hK [4] rfl rfl [] rfl sj_bln sj_exn) rfl rfl hl.1 rfl (lv_room (Nat.le_of_ble_eq_true rfl)) dX7_init_33 ⟨(Nat.le_of_ble_eq_true rfl), (Nat.le_of_ble_eq_true rfl)⟩) hH hK hS hA [4] [0, 1, 2, 3] rfl rfl rfl rfl (by decide) rfl rfl (fun u_16 H locs hw_17 hH hK hS => ?_)
  have hH : sj_H D A ([(h0, .inr (7, [.ref q_1, .int 0, .int 0, .null, .int 0, .int 0, .int 0, .int 0, .int 0, .null, .int 0])), (q_1, .inl (k_2, 3, .inr (.inr (.inr (.inr (va_up (va_up (fun _ => none) 0 (some q_4)) 1 (some q_9))))))), (q_4, .inr (10, [.int 0, .int (-1), .int 0, .int 0, .int 0, .double 0, .int 0, .int 0])), (q_9, .inr (10, [.int 1, .int (-1), .int 0, .int 0, .int 0, .double 0, .int 0, .int 0])), (q_14, .inr (10, [.int 2, .int (-1), .int 0, .int 0, .int 0, .double 0, .int 0, .int 0]))] ++ []) H := hH
  have hK : va_K D vwCl [(k_2, .object RX10)] s := by simpa using hK
  refine sj_astq hx hb hK hH hS 1 0 4 10 rfl rfl rfl rfl (sj_vin (by decide) (by decide)) dX7_init_36 (fun H locs hH hS => ?_)
  have hH : sj_H D A ([(h0, .inr (7, [.ref q_1, .int 0, .int 0, .null, .int 0, .int 0, .int 0, .int 0, .int 0, .null, .int 0])), (q_1, .inl (k_2, 3, .inr (.inr (.inr (.inr (va_up (va_up (va_up (fun _ => none) 0 (some q_4)) 1 (some q_9)) 2 (some q_14))))))), (q_4, .inr (10, [.int 0, .int (-1), .int 0, .int 0, .int 0, .double 0, .int 0, .int 0])), (q_9, .inr (10, [.int 1, .int (-1), .int 0, .int 0, .int 0, .double 0, .int 0, .int 0])), (q_14, .inr (10, [.int 2, .int (-1), .int 0, .int 0, .int 0, .double 0, .int 0, .int 0]))] ++ []) H := hH
  refine lv_iinc (v := 3) (lv' := [(1, .int 3), (0, .ref h0)]) hx hb dX7_init_37 hl (k := 0) rfl (by decide) (by decide) rfl (fun ls hl => ?_)
  refine lv_goto (tgt := 14) hx hb dX7_init_40 (by decide) ?_
  refine lv_iload_n hx hb dX7_init_14 rfl (lv_at hl 0 rfl) ?_
  refine lv_aload_n hx hb dX7_init_15 rfl (lv_at hl 1 rfl) ?_
  refine va_get (D := D) (ci := 7) (v := .ref q_1) (C := RX7) (T := TX7) (N := 11) hx hb hts in7 hown hK hH.1 0 rfl rfl 0 (by decide) wd5 (fun _ h9 => h9) rfl dX7_init_16 ?_
  refine va_alen hx hb hK hH.1 1 0 rfl rfl (v := 3) rfl dX7_init_19 ?_
  refine lv_icmp_ge (tgt := 43) hx hb dX7_init_20 (by decide) (fun _ => ?_) (fun h => absurd (by decide) h)
  refine lv_aload_n hx hb dX7_init_43 rfl (lv_at hl 1 rfl) ?_
  refine lv_bipush (v := 24) hx hb dX7_init_44 (by decide) ?_
  refine sj_newa (atype := .int) (ty := .int) (N' := 24) (a0 := (24, .inl (fun _ => 0))) hx hb wd10 rfl hK hH hS hA (fun _ => rfl) (by decide) (by decide) (by decide) rfl rfl (Nat.le_of_ble_eq_true rfl) (Nat.le_of_ble_eq_true rfl) dX7_init_46 (fun q_19 k_20 H hK hH hS => ?_)
  have hK : va_K D vwCl [(k_2, .object RX10), (k_20, .int)] s := hK
  have hH : sj_H D A ([(h0, .inr (7, [.ref q_1, .int 0, .int 0, .null, .int 0, .int 0, .int 0, .int 0, .int 0, .null, .int 0])), (q_1, .inl (k_2, 3, .inr (.inr (.inr (.inr (va_up (va_up (va_up (fun _ => none) 0 (some q_4)) 1 (some q_9)) 2 (some q_14))))))), (q_4, .inr (10, [.int 0, .int (-1), .int 0, .int 0, .int 0, .double 0, .int 0, .int 0])), (q_9, .inr (10, [.int 1, .int (-1), .int 0, .int 0, .int 0, .double 0, .int 0, .int 0])), (q_14, .inr (10, [.int 2, .int (-1), .int 0, .int 0, .int 0, .double 0, .int 0, .int 0])), (q_19, .inl (k_20, 24, .inl (fun _ => 0)))] ++ []) H := hH
  refine sj_putF (D := D) (ci := 7) (v := .ref q_19) (ty := (.array .int)) (C := RX7) (F := TX7) (N := 11) hx hb hts in7 tyX7 tyX7_ok nmX7 hown hK hH hS 0 rfl rfl 3 (by decide) wd11 (fun _ h9 => h9) rfl hnm rfl (by decide +kernel) rfl rfl (Nat.le_of_ble_eq_true rfl) dX7_init_48 (fun H locs (hH : sj_H D A ([(h0, .inr (7, [.ref q_1, .int 0, .int 0, .ref q_19, .int 0, .int 0, .int 0, .int 0, .int 0, .null, .int 0])), (q_1, .inl (k_2, 3, .inr (.inr (.inr (.inr (va_up (va_up (va_up (fun _ => none) 0 (some q_4)) 1 (some q_9)) 2 (some q_14))))))), (q_4, .inr (10, [.int 0, .int (-1), .int 0, .int 0, .int 0, .double 0, .int 0, .int 0])), (q_9, .inr (10, [.int 1, .int (-1), .int 0, .int 0, .int 0, .double 0, .int 0, .int 0])), (q_14, .inr (10, [.int 2, .int (-1), .int 0, .int 0, .int 0, .double 0, .int 0, .int 0])), (q_19, .inl (k_20, 24, .inl (fun _ => 0)))] ++ []) H) hS => ?_)
  refine lv_aload_n hx hb dX7_init_51 rfl (lv_at hl 1 rfl) ?_
  refine lv_sipush (v := 256) hx hb dX7_init_52 (by decide) ?_
  refine sj_newa (atype := .int) (ty := .int) (N' := 256) (a0 := (256, .inl (fun _ => 0))) hx hb wd10 rfl hK hH hS hA (fun _ => rfl) (by decide) (by decide) (by decide) rfl rfl (Nat.le_of_ble_eq_true rfl) (Nat.le_of_ble_eq_true rfl) dX7_init_55 (fun q_21 k_22 H hK hH hS => ?_)
  have hK : va_K D vwCl [(k_2, .object RX10), (k_20, .int), (k_22, .int)] s := hK
  have hH : sj_H D A ([(h0, .inr (7, [.ref q_1, .int 0, .int 0, .ref q_19, .int 0, .int 0, .int 0, .int 0, .int 0, .null, .int 0])), (q_1, .inl (k_2, 3, .inr (.inr (.inr (.inr (va_up (va_up (va_up (fun _ => none) 0 (some q_4)) 1 (some q_9)) 2 (some q_14))))))), (q_4, .inr (10, [.int 0, .int (-1), .int 0, .int 0, .int 0, .double 0, .int 0, .int 0])), (q_9, .inr (10, [.int 1, .int (-1), .int 0, .int 0, .int 0, .double 0, .int 0, .int 0])), (q_14, .inr (10, [.int 2, .int (-1), .int 0, .int 0, .int 0, .double 0, .int 0, .int 0])), (q_19, .inl (k_20, 24, .inl (fun _ => 0))), (q_21, .inl (k_22, 256, .inl (fun _ => 0)))] ++ []) H := hH
  refine sj_putF (D := D) (ci := 7) (v := .ref q_21) (ty := (.array .int)) (C := RX7) (F := TX7) (N := 11) hx hb hts in7 tyX7 tyX7_ok nmX7 hown hK hH hS 0 rfl rfl 9 (by decide) wd12 (fun _ h9 => h9) rfl hnm rfl (by decide +kernel) rfl rfl (Nat.le_of_ble_eq_true rfl) dX7_init_57 (fun H locs (hH : sj_H D A ([(h0, .inr (7, [.ref q_1, .int 0, .int 0, .ref q_19, .int 0, .int 0, .int 0, .int 0, .int 0, .ref q_21, .int 0])), (q_1, .inl (k_2, 3, .inr (.inr (.inr (.inr (va_up (va_up (va_up (fun _ => none) 0 (some q_4)) 1 (some q_9)) 2 (some q_14))))))), (q_4, .inr (10, [.int 0, .int (-1), .int 0, .int 0, .int 0, .double 0, .int 0, .int 0])), (q_9, .inr (10, [.int 1, .int (-1), .int 0, .int 0, .int 0, .double 0, .int 0, .int 0])), (q_14, .inr (10, [.int 2, .int (-1), .int 0, .int 0, .int 0, .double 0, .int 0, .int 0])), (q_19, .inl (k_20, 24, .inl (fun _ => 0))), (q_21, .inl (k_22, 256, .inl (fun _ => 0)))] ++ []) H) hS => ?_)
  exact sj_vret hx hb hr hlocks hS (q_1, q_19, q_21, k_2, q_4, q_9, q_14, k_22, ([(q_19, .inl (k_20, 24, .inl (fun _ => 0)))] ++ [])) trivial (sj_hide (c1 := [(h0, .inr (7, [.ref q_1, .int 0, .int 0, .ref q_19, .int 0, .int 0, .int 0, .int 0, .int 0, .ref q_21, .int 0])), (q_1, .inl (k_2, 3, .inr (.inr (.inr (.inr (va_up (va_up (va_up (fun _ => none) 0 (some q_4)) 1 (some q_9)) 2 (some q_14))))))), (q_4, .inr (10, [.int 0, .int (-1), .int 0, .int 0, .int 0, .double 0, .int 0, .int 0])), (q_9, .inr (10, [.int 1, .int (-1), .int 0, .int 0, .int 0, .double 0, .int 0, .int 0])), (q_14, .inr (10, [.int 2, .int (-1), .int 0, .int 0, .int 0, .double 0, .int 0, .int 0])), (q_21, .inl (k_22, 256, .inl (fun _ => 0)))]) (c2 := [(q_19, .inl (k_20, 24, .inl (fun _ => 0)))]) hH [0, 1, 2, 3, 4, 6, 5] rfl rfl) (hK.sub [0, 2] rfl) (Nat.le_of_ble_eq_true rfl) (Nat.le_of_ble_eq_true rfl) dX7_init_60
set_option maxHeartbeats 4000000 in
set_option maxRecDepth 100000 in
/-- Cases(reading) -/
theorem c_X1_init (l : Launch) (D : va_G) (h0 : Nat) (r0 : Nat) (sz : Nat)  : Met l yX1_init wsX1_init ({ frames := 2, cells := 29, slots := 268, locals := 41 }) (va_Pc [.ref h0, .ref r0] (sj_B D [(h0, .inr (1, [.null, .null, .null, .null, .int 0]))] [] sz sj_xc)) (sj_Qv (S := Nat × Nat × Nat × Nat × Nat × va_W) D (fun _ => True) (fun u => [(h0, .inr (1, [.ref r0, .ref u.1, .ref u.2.1, .ref u.2.2.1, .int 0])), (u.1, .inr (3, [.ref u.2.2.2.1, .int 0])), (u.2.1, .inr (3, [.ref u.2.2.2.2.1, .int 0]))] ++ u.2.2.2.2.2) (fun u => []) (va_A [(h0, .inr (1, [.null, .null, .null, .null, .int 0]))] sz)) 29 268 (va_A [(h0, .inr (1, [.null, .null, .null, .null, .int 0]))] sz) := by
  refine sj_met (cc := cX1_init) (maxL := 3) (ret := none) (by decide) rfl (Nat.le_of_ble_eq_true rfl) ?_
  intro p e s m below meth c A ls hx hb hr hml hts hown hlocks hnm hA hsz hS hH hK hE hl
  have hown : s.vm.findClass RX1 = some m.cls := hown
  have hnm : meth.name = "<init>" := hnm
  have in0 : ∀ w ∈ wsX00, w ∈ wsX1_init := by decide +kernel
  have in1 : ∀ w ∈ wsX10, w ∈ wsX1_init := by decide +kernel
  have in3 : ∀ w ∈ wsX30, w ∈ wsX1_init := by decide +kernel
  have wd0 := hts (.methodLink RX1 3 objectInit) (by decide +kernel)
  have wd1 := hts (.instanceMethod objectInit) (by decide +kernel)
  have wd2 := hts (.code objectInit ⟨#[0xb1]⟩ 1 none) (by decide +kernel)
  have wd3 := hts (.fieldLink RX1 9 "StoryDesk$Cases" "reading" "LStoryDesk$Reading;") (by decide +kernel)
  have wd4 := hts (.classLink RX1 15 RX3) (by decide +kernel)
  have wd5 := hts (.instantiable RX3 2) (by decide +kernel)
  have wd6 := hts (.initialized RX3) (by decide +kernel)
  have wd7 := hts (.methodLink RX1 17 yX3_init) (by decide +kernel)
  have wd8 := hts (.instanceMethod yX3_init) (by decide +kernel)
  have wd9 := hts (.fieldLink RX1 20 "StoryDesk$Cases" "stepText" "LStoryDesk$Letters;") (by decide +kernel)
  have wd10 := hts (.fieldLink RX1 24 "StoryDesk$Cases" "cellText" "LStoryDesk$Letters;") (by decide +kernel)
  have wd11 := hts (.classLink RX1 27 RX0) (by decide +kernel)
  have wd12 := va_AO.use (A := #[]) hE.1
  have wd13 := hts (.fieldLink RX1 29 "StoryDesk$Cases" "all" "[LStoryDesk$Case;") (by decide +kernel)
  have wd14 := hts (.instantiable RX0 5) (by decide +kernel)
  have wd15 := hts (.initialized RX0) (by decide +kernel)
  have wd16 := hts (.instanceMethod yX0_init) (by decide +kernel)
  have hl : lv_has ls 3 [(0, .ref h0), (1, .ref r0)] := hl
  have hH : sj_H D A ([(h0, .inr (1, [.null, .null, .null, .null, .int 0]))] ++ []) s.heap := hH
  refine lv_aload_n hx hb dX1_init_0 rfl (lv_at hl 0 rfl) ?_
  refine W.objInit hx hb hown wd0 wd1 wd2 rfl (by rw [hml]; exact hl.1) rfl dX1_init_1 (Nat.le_of_ble_eq_true rfl) (Nat.le_of_ble_eq_true rfl) ?_
  refine W.eq (g2 := F0 m 4 ls []) rfl ?_
  refine lv_aload_n hx hb dX1_init_4 rfl (lv_at hl 0 rfl) ?_
  refine lv_aload_n hx hb dX1_init_5 rfl (lv_at hl 1 rfl) ?_
  refine sj_putF (D := D) (ci := 1) (v := .ref r0) (ty := (.object "StoryDesk$Reading")) (C := RX1) (F := TX1) (N := 5) hx hb hts in1 tyX1 tyX1_ok nmX1 hown hK hH hS 0 rfl rfl 0 (by decide) wd3 (fun _ h9 => h9) rfl hnm rfl (by decide +kernel) rfl rfl (Nat.le_of_ble_eq_true rfl) dX1_init_6 (fun H locs (hH : sj_H D A ([(h0, .inr (1, [.ref r0, .null, .null, .null, .int 0]))] ++ []) H) hS => ?_)
  refine lv_aload_n hx hb dX1_init_9 rfl (lv_at hl 0 rfl) ?_
  refine sj_new (ci := 3) (fs := [.null, .int 0]) (C := RX3) (F := TX3) (N := 2) hx hb hts in3 tyX3 tyX3_ok hown wd4 wd5 wd6 hK hH hS hA rfl sj_df3 rfl rfl (Nat.le_of_ble_eq_true rfl) (Nat.le_of_ble_eq_true rfl) dX1_init_10 (fun q_1 H hH hS => ?_)
  have hH : sj_H D A ([(h0, .inr (1, [.ref r0, .null, .null, .null, .int 0])), (q_1, .inr (3, [.null, .int 0]))] ++ []) H := hH
  refine lv_dup hx hb dX1_init_13 rfl ?_
  refine lv_bipush (v := 60) hx hb dX1_init_14 (by decide) ?_
  refine sj_callv (wr := [(h0, .inr (1, [.ref r0, .null, .null, .null, .int 0]))]) (va_runI (As := [.int 60]) (rest := [.ref q_1, .ref h0]) ⟨hx, hb, hml, hown, hts⟩ (c_X3_init l D q_1 60 60 H.size (by decide) (by decide) (by decide)) (cwI 1 hts gX1_init_X3_init rfl rfl rfl wd6 wd7 wd8 rfl (by decide +kernel) ⟨(Nat.le_of_ble_eq_true rfl), (Nat.le_of_ble_eq_true rfl)⟩) (sj_preS hH hK [1] rfl rfl [] rfl sj_bln sj_exn) rfl rfl hl.1 rfl (lv_room (Nat.le_of_ble_eq_true rfl)) dX1_init_16 ⟨(Nat.le_of_ble_eq_true rfl), (Nat.le_of_ble_eq_true rfl)⟩) hH hK hS hA [1] [0] rfl rfl rfl rfl (by decide) rfl rfl (fun u_3 H locs hw_4 hH hK hS => ?_)
  obtain ⟨q_5, k_6⟩ := u_3
  have hH : sj_H D A ([(h0, .inr (1, [.ref r0, .null, .null, .null, .int 0])), (q_1, .inr (3, [.ref q_5, .int 0])), (q_5, .inl (k_6, 60, .inl (fun _ => 0)))] ++ []) H := hH
  have hK : va_K D vwCl [(k_6, .char)] s := hK
  refine sj_putF (D := D) (ci := 1) (v := .ref q_1) (ty := (.object "StoryDesk$Letters")) (C := RX1) (F := TX1) (N := 5) hx hb hts in1 tyX1 tyX1_ok nmX1 hown hK hH hS 0 rfl rfl 1 (by decide) wd9 (fun _ h9 => h9) rfl hnm rfl (by decide +kernel) rfl rfl (Nat.le_of_ble_eq_true rfl) dX1_init_19 (fun H locs (hH : sj_H D A ([(h0, .inr (1, [.ref r0, .ref q_1, .null, .null, .int 0])), (q_1, .inr (3, [.ref q_5, .int 0])), (q_5, .inl (k_6, 60, .inl (fun _ => 0)))] ++ []) H) hS => ?_)
  refine lv_aload_n hx hb dX1_init_22 rfl (lv_at hl 0 rfl) ?_
  refine sj_new (ci := 3) (fs := [.null, .int 0]) (C := RX3) (F := TX3) (N := 2) hx hb hts in3 tyX3 tyX3_ok hown wd4 wd5 wd6 hK hH hS hA rfl sj_df3 rfl rfl (Nat.le_of_ble_eq_true rfl) (Nat.le_of_ble_eq_true rfl) dX1_init_23 (fun q_7 H hH hS => ?_)
  have hH : sj_H D A ([(h0, .inr (1, [.ref r0, .ref q_1, .null, .null, .int 0])), (q_1, .inr (3, [.ref q_5, .int 0])), (q_5, .inl (k_6, 60, .inl (fun _ => 0))), (q_7, .inr (3, [.null, .int 0]))] ++ []) H := hH
  refine lv_dup hx hb dX1_init_26 rfl ?_
  refine lv_bipush (v := 60) hx hb dX1_init_27 (by decide) ?_
  refine sj_callv (wr := [(h0, .inr (1, [.ref r0, .ref q_1, .null, .null, .int 0])), (q_1, .inr (3, [.ref q_5, .int 0])), (q_5, .inl (k_6, 60, .inl (fun _ => 0)))]) (va_runI (As := [.int 60]) (rest := [.ref q_7, .ref h0]) ⟨hx, hb, hml, hown, hts⟩ (c_X3_init l D q_7 60 60 H.size (by decide) (by decide) (by decide)) (cwI 1 hts gX1_init_X3_init rfl rfl rfl wd6 wd7 wd8 rfl (by decide +kernel) ⟨(Nat.le_of_ble_eq_true rfl), (Nat.le_of_ble_eq_true rfl)⟩) (sj_preS hH hK [3] rfl rfl [] rfl sj_bln sj_exn) rfl rfl hl.1 rfl (lv_room (Nat.le_of_ble_eq_true rfl)) dX1_init_29 ⟨(Nat.le_of_ble_eq_true rfl), (Nat.le_of_ble_eq_true rfl)⟩) hH hK hS hA [3] [0, 1, 2] rfl rfl rfl rfl (by decide) rfl rfl (fun u_9 H locs hw_10 hH hK hS => ?_)
  obtain ⟨q_11, k_12⟩ := u_9
  have hH : sj_H D A ([(h0, .inr (1, [.ref r0, .ref q_1, .null, .null, .int 0])), (q_1, .inr (3, [.ref q_5, .int 0])), (q_5, .inl (k_6, 60, .inl (fun _ => 0))), (q_7, .inr (3, [.ref q_11, .int 0])), (q_11, .inl (k_12, 60, .inl (fun _ => 0)))] ++ []) H := hH
  have hK : va_K D vwCl [(k_6, .char), (k_12, .char)] s := hK
  refine sj_putF (D := D) (ci := 1) (v := .ref q_7) (ty := (.object "StoryDesk$Letters")) (C := RX1) (F := TX1) (N := 5) hx hb hts in1 tyX1 tyX1_ok nmX1 hown hK hH hS 0 rfl rfl 2 (by decide) wd10 (fun _ h9 => h9) rfl hnm rfl (by decide +kernel) rfl rfl (Nat.le_of_ble_eq_true rfl) dX1_init_32 (fun H locs (hH : sj_H D A ([(h0, .inr (1, [.ref r0, .ref q_1, .ref q_7, .null, .int 0])), (q_1, .inr (3, [.ref q_5, .int 0])), (q_5, .inl (k_6, 60, .inl (fun _ => 0))), (q_7, .inr (3, [.ref q_11, .int 0])), (q_11, .inl (k_12, 60, .inl (fun _ => 0)))] ++ []) H) hS => ?_)
  refine lv_aload_n hx hb dX1_init_35 rfl (lv_at hl 0 rfl) ?_
  refine lv_bipush (v := 24) hx hb dX1_init_36 (by decide) ?_
  refine sj_newq (C := RX0) (N' := 24) hx hb hown wd11 (sj_ao wd12) hK hH hS hA (by decide) (by decide) (by decide) rfl rfl (Nat.le_of_ble_eq_true rfl) (Nat.le_of_ble_eq_true rfl) dX1_init_38 (fun q_13 k_14 H hK hH hS => ?_)
  have hK : va_K D vwCl [(k_6, .char), (k_12, .char), (k_14, .object RX0)] s := hK
  have hH : sj_H D A ([(h0, .inr (1, [.ref r0, .ref q_1, .ref q_7, .null, .int 0])), (q_1, .inr (3, [.ref q_5, .int 0])), (q_5, .inl (k_6, 60, .inl (fun _ => 0))), (q_7, .inr (3, [.ref q_11, .int 0])), (q_11, .inl (k_12, 60, .inl (fun _ => 0))), (q_13, .inl (k_14, 24, .inr (.inr (.inr (.inr (fun _ => none))))))] ++ []) H := hH
  refine sj_putF (D := D) (ci := 1) (v := .ref q_13) (ty := (.array (.object "StoryDesk$Case"))) (C := RX1) (F := TX1) (N := 5) hx hb hts in1 tyX1 tyX1_ok nmX1 hown hK hH hS 0 rfl rfl 3 (by decide) wd13 (fun _ h9 => h9) rfl hnm rfl (by decide +kernel) rfl rfl (Nat.le_of_ble_eq_true rfl) dX1_init_41 (fun H locs (hH : sj_H D A ([(h0, .inr (1, [.ref r0, .ref q_1, .ref q_7, .ref q_13, .int 0])), (q_1, .inr (3, [.ref q_5, .int 0])), (q_5, .inl (k_6, 60, .inl (fun _ => 0))), (q_7, .inr (3, [.ref q_11, .int 0])), (q_11, .inl (k_12, 60, .inl (fun _ => 0))), (q_13, .inl (k_14, 24, .inr (.inr (.inr (.inr (fun _ => none))))))] ++ []) H) hS => ?_)
  refine lv_iconst (v := 0) hx hb dX1_init_44 (by decide) ?_
  refine lv_istore_n (lv' := [(2, .int 0), (0, .ref h0), (1, .ref r0)]) hx hb dX1_init_45 rfl hl (by decide) rfl (fun ls hl => ?_)
  have after_15 : ∀ (f_15 : Nat → Option Nat) (pl_15 : va_W) (H : Heap) (locs : List Loc) (ls : Array Slot) (cells slots : Nat), cells ≤ 29 → slots ≤ 268 → lv_has ls 3 [(2, .int (nI 24)), (0, .ref h0), (1, .ref r0)] → sj_H D A ([(h0, .inr (1, [.ref r0, .ref q_1, .ref q_7, .ref q_13, .int 0])), (q_1, .inr (3, [.ref q_5, .int 0])), (q_5, .inl (k_6, 60, .inl (fun _ => 0))), (q_7, .inr (3, [.ref q_11, .int 0])), (q_11, .inl (k_12, 60, .inl (fun _ => 0))), (q_13, .inl (k_14, 24, .inr (.inr (.inr (.inr f_15)))))] ++ pl_15) H → va_S A s.heap H locs → W p l e (headSpec wsX1_init ({ frames := 2, cells := 29, slots := 268, locals := 41 })).room s m ([.ref h0, .ref r0] : List Value).toArray below meth c H locs cells slots (MQ below (sj_Qv (S := Nat × Nat × Nat × Nat × Nat × va_W) D (fun _ => True) (fun u => [(h0, .inr (1, [.ref r0, .ref u.1, .ref u.2.1, .ref u.2.2.1, .int 0])), (u.1, .inr (3, [.ref u.2.2.2.1, .int 0])), (u.2.1, .inr (3, [.ref u.2.2.2.2.1, .int 0]))] ++ u.2.2.2.2.2) (fun u => []) A) ([.ref h0, .ref r0] : List Value).toArray s 29 268 A) (F0 m 74 ls []) := by
    intro f_15 pl_15 H locs ls cells slots hck hcs hl hH hS
    refine W.widen (k := 29) (n := 268) hck hcs ?_
    exact sj_vret hx hb hr hlocks hS (q_1, q_7, q_13, q_5, q_11, ([(q_5, .inl (k_6, 60, .inl (fun _ => 0))), (q_11, .inl (k_12, 60, .inl (fun _ => 0))), (q_13, .inl (k_14, 24, .inr (.inr (.inr (.inr f_15)))))] ++ pl_15)) trivial (sj_hide (c1 := [(h0, .inr (1, [.ref r0, .ref q_1, .ref q_7, .ref q_13, .int 0])), (q_1, .inr (3, [.ref q_5, .int 0])), (q_7, .inr (3, [.ref q_11, .int 0]))]) (c2 := [(q_5, .inl (k_6, 60, .inl (fun _ => 0))), (q_11, .inl (k_12, 60, .inl (fun _ => 0))), (q_13, .inl (k_14, 24, .inr (.inr (.inr (.inr f_15)))))]) hH [0, 1, 3, 2, 4, 5] rfl rfl) (sj_Knil hK) (Nat.le_of_ble_eq_true rfl) (Nat.le_of_ble_eq_true rfl) dX1_init_74
  have lp_15 : ∀ (n j : Nat) (f_15 : Nat → Option Nat) (pl_15 : va_W) (H : Heap) (locs : List Loc) (ls : Array Slot) (cells slots : Nat), j + n = 24 → cells + n * 1 ≤ 29 → slots + n * 5 ≤ 268 → lv_has ls 3 [(2, .int (nI j)), (0, .ref h0), (1, .ref r0)] → sj_H D A ([(h0, .inr (1, [.ref r0, .ref q_1, .ref q_7, .ref q_13, .int 0])), (q_1, .inr (3, [.ref q_5, .int 0])), (q_5, .inl (k_6, 60, .inl (fun _ => 0))), (q_7, .inr (3, [.ref q_11, .int 0])), (q_11, .inl (k_12, 60, .inl (fun _ => 0))), (q_13, .inl (k_14, 24, .inr (.inr (.inr (.inr f_15)))))] ++ pl_15) H → va_S A s.heap H locs → W p l e (headSpec wsX1_init ({ frames := 2, cells := 29, slots := 268, locals := 41 })).room s m ([.ref h0, .ref r0] : List Value).toArray below meth c H locs cells slots (MQ below (sj_Qv (S := Nat × Nat × Nat × Nat × Nat × va_W) D (fun _ => True) (fun u => [(h0, .inr (1, [.ref r0, .ref u.1, .ref u.2.1, .ref u.2.2.1, .int 0])), (u.1, .inr (3, [.ref u.2.2.2.1, .int 0])), (u.2.1, .inr (3, [.ref u.2.2.2.2.1, .int 0]))] ++ u.2.2.2.2.2) (fun u => []) A) ([.ref h0, .ref r0] : List Value).toArray s 29 268 A) (F0 m 46 ls []) := by
    intro n
    induction n with
    | zero =>
      intro j f_15 pl_15 H locs ls cells slots hj hck hcs hl hH hS
      obtain rfl : j = 24 := by omega
      refine lv_iload_n hx hb dX1_init_46 rfl (lv_at hl 0 rfl) ?_
      refine lv_aload_n hx hb dX1_init_47 rfl (lv_at hl 1 rfl) ?_
      refine va_get (D := D) (ci := 1) (v := .ref q_13) (C := RX1) (T := TX1) (N := 5) hx hb hts in1 hown hK hH.1 0 rfl rfl 3 (by decide) wd13 (fun _ h9 => h9) rfl dX1_init_48 ?_
      refine va_alen hx hb hK hH.1 5 2 rfl rfl (v := 24) rfl dX1_init_51 ?_
      refine lv_icmp_ge (tgt := 74) hx hb dX1_init_52 (by decide) (fun _ => ?_) (fun h => absurd (by decide) h)
      exact after_15 f_15 pl_15 H locs ls cells slots (by omega) (by omega) hl hH hS
    | succ n ih =>
      intro j f_15 pl_15 H locs ls cells slots hj hck hcs hl hH hS
      have hjn : j < 24 := by omega
      refine lv_iload_n hx hb dX1_init_46 rfl (lv_at hl 0 rfl) ?_
      refine lv_aload_n hx hb dX1_init_47 rfl (lv_at hl 1 rfl) ?_
      refine va_get (D := D) (ci := 1) (v := .ref q_13) (C := RX1) (T := TX1) (N := 5) hx hb hts in1 hown hK hH.1 0 rfl rfl 3 (by decide) wd13 (fun _ h9 => h9) rfl dX1_init_48 ?_
      refine va_alen hx hb hK hH.1 5 2 rfl rfl (v := 24) rfl dX1_init_51 ?_
      refine lv_icmp_ge (tgt := 74) hx hb dX1_init_52 (by decide) (fun h => absurd h (nI_ge hjn (by decide))) (fun _ => ?_)
      refine lv_aload_n hx hb dX1_init_55 rfl (lv_at hl 1 rfl) ?_
      refine va_get (D := D) (ci := 1) (v := .ref q_13) (C := RX1) (T := TX1) (N := 5) hx hb hts in1 hown hK hH.1 0 rfl rfl 3 (by decide) wd13 (fun _ h9 => h9) rfl dX1_init_56 ?_
      refine lv_iload_n hx hb dX1_init_59 rfl (lv_at hl 0 rfl) ?_
      refine sj_new (ci := 0) (fs := [.null, .null, .null, .int 0, .int 0]) (C := RX0) (F := TX0) (N := 5) hx hb hts in0 tyX0 tyX0_ok hown wd11 wd14 wd15 hK hH hS hA rfl sj_df0 rfl rfl (Nat.le_trans (m := 29) (by omega) (Nat.le_of_ble_eq_true rfl)) (Nat.le_trans (m := 268) (by omega) (Nat.le_of_ble_eq_true rfl)) dX1_init_60 (fun q_18 H hH hS => ?_)
      have hH : sj_H D A ([(h0, .inr (1, [.ref r0, .ref q_1, .ref q_7, .ref q_13, .int 0])), (q_1, .inr (3, [.ref q_5, .int 0])), (q_5, .inl (k_6, 60, .inl (fun _ => 0))), (q_7, .inr (3, [.ref q_11, .int 0])), (q_11, .inl (k_12, 60, .inl (fun _ => 0))), (q_13, .inl (k_14, 24, .inr (.inr (.inr (.inr f_15))))), (q_18, .inr (0, [.null, .null, .null, .int 0, .int 0]))] ++ pl_15) H := hH
      refine lv_dup hx hb dX1_init_63 rfl ?_
      refine sj_callv (wr := [(h0, .inr (1, [.ref r0, .ref q_1, .ref q_7, .ref q_13, .int 0])), (q_1, .inr (3, [.ref q_5, .int 0])), (q_5, .inl (k_6, 60, .inl (fun _ => 0))), (q_7, .inr (3, [.ref q_11, .int 0])), (q_11, .inl (k_12, 60, .inl (fun _ => 0))), (q_13, .inl (k_14, 24, .inr (.inr (.inr (.inr f_15)))))]) (va_runIN (As := []) (rest := [.ref q_18, .int (nI j), .ref q_13]) ⟨hx, hb, hml, hown, hts⟩ (c_X0_init l D q_18 H.size) ⟨(va_cnB 0 hts gX1_init_X0_init_n33 rfl rfl rfl hE.2.2.2.2.2.2.1 wd15 (by decide +kernel) ⟨(Nat.le_of_ble_eq_true rfl), (Nat.le_of_ble_eq_true rfl)⟩), rfl, wd16⟩ (sj_preS hH hK [6] rfl rfl [] rfl sj_bln sj_exn) rfl rfl hl.1 rfl (lv_room (Nat.le_of_ble_eq_true rfl)) dX1_init_64 ⟨(Nat.le_trans (m := 29) (by omega) (Nat.le_of_ble_eq_true rfl)), (Nat.le_trans (m := 268) (by omega) (Nat.le_of_ble_eq_true rfl))⟩) hH hK hS hA [6] [0, 1, 2, 3, 4, 5] rfl rfl rfl rfl (by decide) rfl rfl (fun u_20 H locs hw_21 hH hK hS => ?_)
      have hH : sj_H D A ([(h0, .inr (1, [.ref r0, .ref q_1, .ref q_7, .ref q_13, .int 0])), (q_1, .inr (3, [.ref q_5, .int 0])), (q_5, .inl (k_6, 60, .inl (fun _ => 0))), (q_7, .inr (3, [.ref q_11, .int 0])), (q_11, .inl (k_12, 60, .inl (fun _ => 0))), (q_13, .inl (k_14, 24, .inr (.inr (.inr (.inr f_15))))), (q_18, .inr (0, [.null, .null, .null, .int 0, .int 0]))] ++ pl_15) H := hH
      have hK : va_K D vwCl [(k_6, .char), (k_12, .char), (k_14, .object RX0)] s := by simpa using hK
      refine sj_astq hx hb hK hH hS 5 2 6 0 rfl rfl rfl rfl (vp_in_nI hjn (by decide)) dX1_init_67 (fun H locs hH hS => ?_)
      have hH : sj_H D A ([(h0, .inr (1, [.ref r0, .ref q_1, .ref q_7, .ref q_13, .int 0])), (q_1, .inr (3, [.ref q_5, .int 0])), (q_5, .inl (k_6, 60, .inl (fun _ => 0))), (q_7, .inr (3, [.ref q_11, .int 0])), (q_11, .inl (k_12, 60, .inl (fun _ => 0))), (q_13, .inl (k_14, 24, .inr (.inr (.inr (.inr (va_up f_15 (nI j).toNatClampNeg (some q_18))))))), (q_18, .inr (0, [.null, .null, .null, .int 0, .int 0]))] ++ pl_15) H := hH
      refine lv_iinc (v := (nI (j + 1))) (lv' := [(2, .int (nI (j + 1))), (0, .ref h0), (1, .ref r0)]) hx hb dX1_init_68 hl (k := 0) rfl (by rw [nI_succ]; rfl) (by decide) rfl (fun ls hl => ?_)
      refine lv_goto (tgt := 46) hx hb dX1_init_71 (by decide) ?_
      exact ih (j + 1) _ _ _ _ _ _ _ (by omega) (by omega) (by omega) (lv_sub hl [0, 1, 2] rfl) (sj_hide (c1 := [(h0, .inr (1, [.ref r0, .ref q_1, .ref q_7, .ref q_13, .int 0])), (q_1, .inr (3, [.ref q_5, .int 0])), (q_5, .inl (k_6, 60, .inl (fun _ => 0))), (q_7, .inr (3, [.ref q_11, .int 0])), (q_11, .inl (k_12, 60, .inl (fun _ => 0))), (q_13, .inl (k_14, 24, .inr (.inr (.inr (.inr (va_up f_15 (nI j).toNatClampNeg (some q_18)))))))]) (c2 := [(q_18, .inr (0, [.null, .null, .null, .int 0, .int 0]))]) hH [0, 1, 2, 3, 4, 5, 6] rfl rfl) hS
  exact lp_15 24 0 _ _ _ _ _ _ _ (by omega) (by omega) (by omega)  hl hH hS
set_option maxHeartbeats 4000000 in
set_option maxRecDepth 100000 in
/-- Reading() -/
theorem c_X5_init (l : Launch) (D : va_G) (h0 : Nat) (sz : Nat)  : Met l yX5_init wsX5_init ({ frames := 2, cells := 188, slots := 1632, locals := 41 }) (va_Pc [.ref h0] (sj_B D [(h0, .inr (5, [.null, .int 0, .null, .null, .int 0, .null, .int 0, .null, .int 0, .null, .int 0, .null, .int 0, .null, .int 0, .int 0, .int 0, .null, .null]))] [] sz sj_xc)) (sj_Qv (S := Nat × Nat × Nat × Nat × Nat × Nat × Nat × Nat × Nat × Nat × Nat × ClassId × ClassId × ClassId × va_W) D (fun _ => True) (fun u => [(h0, .inr (5, [.ref u.1, .int 0, .ref u.2.1, .ref u.2.2.1, .int 0, .ref u.2.2.2.1, .int 0, .ref u.2.2.2.2.1, .int 0, .ref u.2.2.2.2.2.1, .int 0, .ref u.2.2.2.2.2.2.1, .int 0, .ref u.2.2.2.2.2.2.2.1, .int 0, .int 0, .int 0, .ref u.2.2.2.2.2.2.2.2.1, .ref u.2.2.2.2.2.2.2.2.2.1])), (u.1, .inr (3, [.ref u.2.2.2.2.2.2.2.2.2.2.1, .int 0])), (u.2.2.2.2.2.2.2.2.2.2.1, .inl (u.2.2.2.2.2.2.2.2.2.2.2.1, 480, .inl (fun _ => 0))), (u.2.1, .inl (u.2.2.2.2.2.2.2.2.2.2.2.2.1, 20, .inl (fun _ => 0))), (u.2.2.1, .inl (u.2.2.2.2.2.2.2.2.2.2.2.2.2.1, 20, .inl (fun _ => 0)))] ++ u.2.2.2.2.2.2.2.2.2.2.2.2.2.2) (fun u => [(u.2.2.2.2.2.2.2.2.2.2.2.1, .char), (u.2.2.2.2.2.2.2.2.2.2.2.2.1, .int), (u.2.2.2.2.2.2.2.2.2.2.2.2.2.1, .int)]) (va_A [(h0, .inr (5, [.null, .int 0, .null, .null, .int 0, .null, .int 0, .null, .int 0, .null, .int 0, .null, .int 0, .null, .int 0, .int 0, .int 0, .null, .null]))] sz)) 188 1632 (va_A [(h0, .inr (5, [.null, .int 0, .null, .null, .int 0, .null, .int 0, .null, .int 0, .null, .int 0, .null, .int 0, .null, .int 0, .int 0, .int 0, .null, .null]))] sz) := by
  refine sj_met (cc := cX5_init) (maxL := 2) (ret := none) (by decide) rfl (Nat.le_of_ble_eq_true rfl) ?_
  intro p e s m below meth c A ls hx hb hr hml hts hown hlocks hnm hA hsz hS hH hK hE hl
  have hown : s.vm.findClass RX5 = some m.cls := hown
  have hnm : meth.name = "<init>" := hnm
  have in3 : ∀ w ∈ wsX30, w ∈ wsX5_init := by decide +kernel
  have in4 : ∀ w ∈ wsX40, w ∈ wsX5_init := by decide +kernel
  have in5 : ∀ w ∈ wsX50, w ∈ wsX5_init := by decide +kernel
  have in6 : ∀ w ∈ wsX60, w ∈ wsX5_init := by decide +kernel
  have wd0 := hts (.methodLink RX5 5 objectInit) (by decide +kernel)
  have wd1 := hts (.instanceMethod objectInit) (by decide +kernel)
  have wd2 := hts (.code objectInit ⟨#[0xb1]⟩ 1 none) (by decide +kernel)
  have wd3 := hts (.classLink RX5 11 RX3) (by decide +kernel)
  have wd4 := hts (.instantiable RX3 2) (by decide +kernel)
  have wd5 := hts (.initialized RX3) (by decide +kernel)
  have wd6 := hts (.methodLink RX5 13 yX3_init) (by decide +kernel)
  have wd7 := hts (.instanceMethod yX3_init) (by decide +kernel)
  have wd8 := hts (.fieldLink RX5 16 "StoryDesk$Reading" "source" "LStoryDesk$Letters;") (by decide +kernel)
  have wd9 := hts (.arrayClass .int) (by decide +kernel)
  have wd10 := hts (.fieldLink RX5 20 "StoryDesk$Reading" "errorLines" "[I") (by decide +kernel)
  have wd11 := hts (.fieldLink RX5 24 "StoryDesk$Reading" "errorNumbers" "[I") (by decide +kernel)
  have wd12 := hts (.classLink RX5 27 RX4) (by decide +kernel)
  have wd13 := va_AO.use (A := #[]) hE.2.2.1
  have wd14 := hts (.fieldLink RX5 29 "StoryDesk$Reading" "sections" "[LStoryDesk$Part;") (by decide +kernel)
  have wd15 := hts (.instantiable RX4 9) (by decide +kernel)
  have wd16 := hts (.initialized RX4) (by decide +kernel)
  have wd17 := hts (.instanceMethod yX4_init) (by decide +kernel)
  have wd18 := hts (.fieldLink RX5 34 "StoryDesk$Reading" "scenarios" "[LStoryDesk$Part;") (by decide +kernel)
  have wd19 := hts (.fieldLink RX5 37 "StoryDesk$Reading" "steps" "[LStoryDesk$Part;") (by decide +kernel)
  have wd20 := hts (.fieldLink RX5 40 "StoryDesk$Reading" "examples" "[LStoryDesk$Part;") (by decide +kernel)
  have wd21 := hts (.classLink RX5 43 RX6) (by decide +kernel)
  have wd22 := va_AO.use (A := #[]) hE.2.2.2.1
  have wd23 := hts (.fieldLink RX5 45 "StoryDesk$Reading" "rows" "[LStoryDesk$Row;") (by decide +kernel)
  have wd24 := hts (.fieldLink RX5 50 "StoryDesk$Reading" "owner" "LStoryDesk$Part;") (by decide +kernel)
  have wd25 := hts (.fieldLink RX5 54 "StoryDesk$Reading" "table" "LStoryDesk$Part;") (by decide +kernel)
  have wd26 := hts (.instantiable RX6 4) (by decide +kernel)
  have wd27 := hts (.initialized RX6) (by decide +kernel)
  have wd28 := hts (.methodLink RX5 49 yX6_init) (by decide +kernel)
  have wd29 := hts (.instanceMethod yX6_init) (by decide +kernel)
  have hl : lv_has ls 2 [(0, .ref h0)] := hl
  have hH : sj_H D A ([(h0, .inr (5, [.null, .int 0, .null, .null, .int 0, .null, .int 0, .null, .int 0, .null, .int 0, .null, .int 0, .null, .int 0, .int 0, .int 0, .null, .null]))] ++ []) s.heap := hH
  refine lv_aload_n hx hb dX5_init_0 rfl (lv_at hl 0 rfl) ?_
  refine W.objInit hx hb hown wd0 wd1 wd2 rfl (by rw [hml]; exact hl.1) rfl dX5_init_1 (Nat.le_of_ble_eq_true rfl) (Nat.le_of_ble_eq_true rfl) ?_
  refine W.eq (g2 := F0 m 4 ls []) rfl ?_
  refine lv_aload_n hx hb dX5_init_4 rfl (lv_at hl 0 rfl) ?_
  refine sj_new (ci := 3) (fs := [.null, .int 0]) (C := RX3) (F := TX3) (N := 2) hx hb hts in3 tyX3 tyX3_ok hown wd3 wd4 wd5 hK hH hS hA rfl sj_df3 rfl rfl (Nat.le_of_ble_eq_true rfl) (Nat.le_of_ble_eq_true rfl) dX5_init_5 (fun q_1 H hH hS => ?_)
  have hH : sj_H D A ([(h0, .inr (5, [.null, .int 0, .null, .null, .int 0, .null, .int 0, .null, .int 0, .null, .int 0, .null, .int 0, .null, .int 0, .int 0, .int 0, .null, .null])), (q_1, .inr (3, [.null, .int 0]))] ++ []) H := hH
  refine lv_dup hx hb dX5_init_8 rfl ?_
  refine lv_sipush (v := 480) hx hb dX5_init_9 (by decide) ?_
  refine sj_callv (wr := [(h0, .inr (5, [.null, .int 0, .null, .null, .int 0, .null, .int 0, .null, .int 0, .null, .int 0, .null, .int 0, .null, .int 0, .int 0, .int 0, .null, .null]))]) (va_runI (As := [.int 480]) (rest := [.ref q_1, .ref h0]) ⟨hx, hb, hml, hown, hts⟩ (c_X3_init l D q_1 480 480 H.size (by decide) (by decide) (by decide)) (cwI 1 hts gX5_init_X3_init rfl rfl rfl wd5 wd6 wd7 rfl (by decide +kernel) ⟨(Nat.le_of_ble_eq_true rfl), (Nat.le_of_ble_eq_true rfl)⟩) (sj_preS hH hK [1] rfl rfl [] rfl sj_bln sj_exn) rfl rfl hl.1 rfl (lv_room (Nat.le_of_ble_eq_true rfl)) dX5_init_12 ⟨(Nat.le_of_ble_eq_true rfl), (Nat.le_of_ble_eq_true rfl)⟩) hH hK hS hA [1] [0] rfl rfl rfl rfl (by decide) rfl rfl (fun u_3 H locs hw_4 hH hK hS => ?_)
  obtain ⟨q_5, k_6⟩ := u_3
  have hH : sj_H D A ([(h0, .inr (5, [.null, .int 0, .null, .null, .int 0, .null, .int 0, .null, .int 0, .null, .int 0, .null, .int 0, .null, .int 0, .int 0, .int 0, .null, .null])), (q_1, .inr (3, [.ref q_5, .int 0])), (q_5, .inl (k_6, 480, .inl (fun _ => 0)))] ++ []) H := hH
  have hK : va_K D vwCl [(k_6, .char)] s := hK
  refine sj_putF (D := D) (ci := 5) (v := .ref q_1) (ty := (.object "StoryDesk$Letters")) (C := RX5) (F := TX5) (N := 19) hx hb hts in5 tyX5 tyX5_ok nmX5 hown hK hH hS 0 rfl rfl 0 (by decide) wd8 (fun _ h9 => h9) rfl hnm rfl (by decide +kernel) rfl rfl (Nat.le_of_ble_eq_true rfl) dX5_init_15 (fun H locs (hH : sj_H D A ([(h0, .inr (5, [.ref q_1, .int 0, .null, .null, .int 0, .null, .int 0, .null, .int 0, .null, .int 0, .null, .int 0, .null, .int 0, .int 0, .int 0, .null, .null])), (q_1, .inr (3, [.ref q_5, .int 0])), (q_5, .inl (k_6, 480, .inl (fun _ => 0)))] ++ []) H) hS => ?_)
  refine lv_aload_n hx hb dX5_init_18 rfl (lv_at hl 0 rfl) ?_
  refine lv_bipush (v := 20) hx hb dX5_init_19 (by decide) ?_
  refine sj_newa (atype := .int) (ty := .int) (N' := 20) (a0 := (20, .inl (fun _ => 0))) hx hb wd9 rfl hK hH hS hA (fun _ => rfl) (by decide) (by decide) (by decide) rfl rfl (Nat.le_of_ble_eq_true rfl) (Nat.le_of_ble_eq_true rfl) dX5_init_21 (fun q_7 k_8 H hK hH hS => ?_)
  have hK : va_K D vwCl [(k_6, .char), (k_8, .int)] s := hK
  have hH : sj_H D A ([(h0, .inr (5, [.ref q_1, .int 0, .null, .null, .int 0, .null, .int 0, .null, .int 0, .null, .int 0, .null, .int 0, .null, .int 0, .int 0, .int 0, .null, .null])), (q_1, .inr (3, [.ref q_5, .int 0])), (q_5, .inl (k_6, 480, .inl (fun _ => 0))), (q_7, .inl (k_8, 20, .inl (fun _ => 0)))] ++ []) H := hH
  refine sj_putF (D := D) (ci := 5) (v := .ref q_7) (ty := (.array .int)) (C := RX5) (F := TX5) (N := 19) hx hb hts in5 tyX5 tyX5_ok nmX5 hown hK hH hS 0 rfl rfl 2 (by decide) wd10 (fun _ h9 => h9) rfl hnm rfl (by decide +kernel) rfl rfl (Nat.le_of_ble_eq_true rfl) dX5_init_23 (fun H locs (hH : sj_H D A ([(h0, .inr (5, [.ref q_1, .int 0, .ref q_7, .null, .int 0, .null, .int 0, .null, .int 0, .null, .int 0, .null, .int 0, .null, .int 0, .int 0, .int 0, .null, .null])), (q_1, .inr (3, [.ref q_5, .int 0])), (q_5, .inl (k_6, 480, .inl (fun _ => 0))), (q_7, .inl (k_8, 20, .inl (fun _ => 0)))] ++ []) H) hS => ?_)
  refine lv_aload_n hx hb dX5_init_26 rfl (lv_at hl 0 rfl) ?_
  refine lv_bipush (v := 20) hx hb dX5_init_27 (by decide) ?_
  refine sj_newa (atype := .int) (ty := .int) (N' := 20) (a0 := (20, .inl (fun _ => 0))) hx hb wd9 rfl hK hH hS hA (fun _ => rfl) (by decide) (by decide) (by decide) rfl rfl (Nat.le_of_ble_eq_true rfl) (Nat.le_of_ble_eq_true rfl) dX5_init_29 (fun q_9 k_10 H hK hH hS => ?_)
  have hK : va_K D vwCl [(k_6, .char), (k_8, .int), (k_10, .int)] s := hK
  have hH : sj_H D A ([(h0, .inr (5, [.ref q_1, .int 0, .ref q_7, .null, .int 0, .null, .int 0, .null, .int 0, .null, .int 0, .null, .int 0, .null, .int 0, .int 0, .int 0, .null, .null])), (q_1, .inr (3, [.ref q_5, .int 0])), (q_5, .inl (k_6, 480, .inl (fun _ => 0))), (q_7, .inl (k_8, 20, .inl (fun _ => 0))), (q_9, .inl (k_10, 20, .inl (fun _ => 0)))] ++ []) H := hH
  refine sj_putF (D := D) (ci := 5) (v := .ref q_9) (ty := (.array .int)) (C := RX5) (F := TX5) (N := 19) hx hb hts in5 tyX5 tyX5_ok nmX5 hown hK hH hS 0 rfl rfl 3 (by decide) wd11 (fun _ h9 => h9) rfl hnm rfl (by decide +kernel) rfl rfl (Nat.le_of_ble_eq_true rfl) dX5_init_31 (fun H locs (hH : sj_H D A ([(h0, .inr (5, [.ref q_1, .int 0, .ref q_7, .ref q_9, .int 0, .null, .int 0, .null, .int 0, .null, .int 0, .null, .int 0, .null, .int 0, .int 0, .int 0, .null, .null])), (q_1, .inr (3, [.ref q_5, .int 0])), (q_5, .inl (k_6, 480, .inl (fun _ => 0))), (q_7, .inl (k_8, 20, .inl (fun _ => 0))), (q_9, .inl (k_10, 20, .inl (fun _ => 0)))] ++ []) H) hS => ?_)
  refine lv_aload_n hx hb dX5_init_34 rfl (lv_at hl 0 rfl) ?_
  refine lv_iconst (v := 5) hx hb dX5_init_35 (by decide) ?_
  refine sj_newq (C := RX4) (N' := 5) hx hb hown wd12 (sj_ao wd13) hK hH hS hA (by decide) (by decide) (by decide) rfl rfl (Nat.le_of_ble_eq_true rfl) (Nat.le_of_ble_eq_true rfl) dX5_init_36 (fun q_11 k_12 H hK hH hS => ?_)
  have hK : va_K D vwCl [(k_6, .char), (k_8, .int), (k_10, .int), (k_12, .object RX4)] s := hK
  have hH : sj_H D A ([(h0, .inr (5, [.ref q_1, .int 0, .ref q_7, .ref q_9, .int 0, .null, .int 0, .null, .int 0, .null, .int 0, .null, .int 0, .null, .int 0, .int 0, .int 0, .null, .null])), (q_1, .inr (3, [.ref q_5, .int 0])), (q_5, .inl (k_6, 480, .inl (fun _ => 0))), (q_7, .inl (k_8, 20, .inl (fun _ => 0))), (q_9, .inl (k_10, 20, .inl (fun _ => 0))), (q_11, .inl (k_12, 5, .inr (.inr (.inr (.inr (fun _ => none))))))] ++ []) H := hH
  refine sj_putF (D := D) (ci := 5) (v := .ref q_11) (ty := (.array (.object "StoryDesk$Part"))) (C := RX5) (F := TX5) (N := 19) hx hb hts in5 tyX5 tyX5_ok nmX5 hown hK hH hS 0 rfl rfl 5 (by decide) wd14 (fun _ h9 => h9) rfl hnm rfl (by decide +kernel) rfl rfl (Nat.le_of_ble_eq_true rfl) dX5_init_39 (fun H locs (hH : sj_H D A ([(h0, .inr (5, [.ref q_1, .int 0, .ref q_7, .ref q_9, .int 0, .ref q_11, .int 0, .null, .int 0, .null, .int 0, .null, .int 0, .null, .int 0, .int 0, .int 0, .null, .null])), (q_1, .inr (3, [.ref q_5, .int 0])), (q_5, .inl (k_6, 480, .inl (fun _ => 0))), (q_7, .inl (k_8, 20, .inl (fun _ => 0))), (q_9, .inl (k_10, 20, .inl (fun _ => 0))), (q_11, .inl (k_12, 5, .inr (.inr (.inr (.inr (fun _ => none))))))] ++ []) H) hS => ?_)
  refine lv_iconst (v := 0) hx hb dX5_init_42 (by decide) ?_
  refine lv_istore_n (lv' := [(1, .int 0), (0, .ref h0)]) hx hb dX5_init_43 rfl hl (by decide) rfl (fun ls hl => ?_)
  refine lv_iload_n hx hb dX5_init_44 rfl (lv_at hl 0 rfl) ?_
  refine lv_aload_n hx hb dX5_init_45 rfl (lv_at hl 1 rfl) ?_
  refine va_get (D := D) (ci := 5) (v := .ref q_11) (C := RX5) (T := TX5) (N := 19) hx hb hts in5 hown hK hH.1 0 rfl rfl 5 (by decide) wd14 (fun _ h9 => h9) rfl dX5_init_46 ?_
  refine va_alen hx hb hK hH.1 5 3 rfl rfl (v := 5) rfl dX5_init_49 ?_
  refine lv_icmp_ge (tgt := 72) hx hb dX5_init_50 (by decide) (fun h => absurd h (by decide)) (fun _ => ?_)
  refine lv_aload_n hx hb dX5_init_53 rfl (lv_at hl 1 rfl) ?_
  refine va_get (D := D) (ci := 5) (v := .ref q_11) (C := RX5) (T := TX5) (N := 19) hx hb hts in5 hown hK hH.1 0 rfl rfl 5 (by decide) wd14 (fun _ h9 => h9) rfl dX5_init_54 ?_
  refine lv_iload_n hx hb dX5_init_57 rfl (lv_at hl 0 rfl) ?_
  refine sj_new (ci := 4) (fs := [.int 0, .int 0, .int 0, .int 0, .int 0, .int 0, .int 0, .int 0, .int 0]) (C := RX4) (F := TX4) (N := 9) hx hb hts in4 tyX4 tyX4_ok hown wd12 wd15 wd16 hK hH hS hA rfl sj_df4 rfl rfl (Nat.le_of_ble_eq_true rfl) (Nat.le_of_ble_eq_true rfl) dX5_init_58 (fun q_14 H hH hS => ?_)
  have hH : sj_H D A ([(h0, .inr (5, [.ref q_1, .int 0, .ref q_7, .ref q_9, .int 0, .ref q_11, .int 0, .null, .int 0, .null, .int 0, .null, .int 0, .null, .int 0, .int 0, .int 0, .null, .null])), (q_1, .inr (3, [.ref q_5, .int 0])), (q_5, .inl (k_6, 480, .inl (fun _ => 0))), (q_7, .inl (k_8, 20, .inl (fun _ => 0))), (q_9, .inl (k_10, 20, .inl (fun _ => 0))), (q_11, .inl (k_12, 5, .inr (.inr (.inr (.inr (fun _ => none)))))), (q_14, .inr (4, [.int 0, .int 0, .int 0, .int 0, .int 0, .int 0, .int 0, .int 0, .int 0]))] ++ []) H := hH
  refine lv_dup hx hb dX5_init_61 rfl ?_
  refine sj_callv (wr := [(h0, .inr (5, [.ref q_1, .int 0, .ref q_7, .ref q_9, .int 0, .ref q_11, .int 0, .null, .int 0, .null, .int 0, .null, .int 0, .null, .int 0, .int 0, .int 0, .null, .null])), (q_1, .inr (3, [.ref q_5, .int 0])), (q_5, .inl (k_6, 480, .inl (fun _ => 0))), (q_7, .inl (k_8, 20, .inl (fun _ => 0))), (q_9, .inl (k_10, 20, .inl (fun _ => 0))), (q_11, .inl (k_12, 5, .inr (.inr (.inr (.inr (fun _ => none))))))]) (va_runIN (As := []) (rest := [.ref q_14, .int 0, .ref q_11]) ⟨hx, hb, hml, hown, hts⟩ (c_X4_init l D q_14 H.size) ⟨(va_cnB 0 hts gX5_init_X4_init_n33 rfl rfl rfl hE.2.2.2.2.2.2.2 wd16 (by decide +kernel) ⟨(Nat.le_of_ble_eq_true rfl), (Nat.le_of_ble_eq_true rfl)⟩), rfl, wd17⟩ (sj_preS hH hK [6] rfl rfl [] rfl sj_bln sj_exn) rfl rfl hl.1 rfl (lv_room (Nat.le_of_ble_eq_true rfl)) dX5_init_62 ⟨(Nat.le_of_ble_eq_true rfl), (Nat.le_of_ble_eq_true rfl)⟩) hH hK hS hA [6] [0, 1, 2, 3, 4, 5] rfl rfl rfl rfl (by decide) rfl rfl (fun u_16 H locs hw_17 hH hK hS => ?_)
  have hH : sj_H D A ([(h0, .inr (5, [.ref q_1, .int 0, .ref q_7, .ref q_9, .int 0, .ref q_11, .int 0, .null, .int 0, .null, .int 0, .null, .int 0, .null, .int 0, .int 0, .int 0, .null, .null])), (q_1, .inr (3, [.ref q_5, .int 0])), (q_5, .inl (k_6, 480, .inl (fun _ => 0))), (q_7, .inl (k_8, 20, .inl (fun _ => 0))), (q_9, .inl (k_10, 20, .inl (fun _ => 0))), (q_11, .inl (k_12, 5, .inr (.inr (.inr (.inr (fun _ => none)))))), (q_14, .inr (4, [.int 0, .int 0, .int 0, .int 0, .int 0, .int 0, .int 0, .int 0, .int 0]))] ++ []) H := hH
  have hK : va_K D vwCl [(k_6, .char), (k_8, .int), (k_10, .int), (k_12, .object RX4)] s := by simpa using hK
  refine sj_astq hx hb hK hH hS 5 3 6 4 rfl rfl rfl rfl (sj_vin (by decide) (by decide)) dX5_init_65 (fun H locs hH hS => ?_)
  have hH : sj_H D A ([(h0, .inr (5, [.ref q_1, .int 0, .ref q_7, .ref q_9, .int 0, .ref q_11, .int 0, .null, .int 0, .null, .int 0, .null, .int 0, .null, .int 0, .int 0, .int 0, .null, .null])), (q_1, .inr (3, [.ref q_5, .int 0])), (q_5, .inl (k_6, 480, .inl (fun _ => 0))), (q_7, .inl (k_8, 20, .inl (fun _ => 0))), (q_9, .inl (k_10, 20, .inl (fun _ => 0))), (q_11, .inl (k_12, 5, .inr (.inr (.inr (.inr (va_up (fun _ => none) 0 (some q_14))))))), (q_14, .inr (4, [.int 0, .int 0, .int 0, .int 0, .int 0, .int 0, .int 0, .int 0, .int 0]))] ++ []) H := hH
  refine lv_iinc (v := 1) (lv' := [(1, .int 1), (0, .ref h0)]) hx hb dX5_init_66 hl (k := 0) rfl (by decide) (by decide) rfl (fun ls hl => ?_)
  refine lv_goto (tgt := 44) hx hb dX5_init_69 (by decide) ?_
  have after_18 : ∀ (f_18 : Nat → Option Nat) (pl_18 : va_W) (H : Heap) (locs : List Loc) (ls : Array Slot) (cells slots : Nat), f_18 0 = some q_14 → cells ≤ 10 → slots ≤ 572 → lv_has ls 2 [(1, .int (nI 5)), (0, .ref h0)] → sj_H D A ([(h0, .inr (5, [.ref q_1, .int 0, .ref q_7, .ref q_9, .int 0, .ref q_11, .int 0, .null, .int 0, .null, .int 0, .null, .int 0, .null, .int 0, .int 0, .int 0, .null, .null])), (q_1, .inr (3, [.ref q_5, .int 0])), (q_5, .inl (k_6, 480, .inl (fun _ => 0))), (q_7, .inl (k_8, 20, .inl (fun _ => 0))), (q_9, .inl (k_10, 20, .inl (fun _ => 0))), (q_11, .inl (k_12, 5, .inr (.inr (.inr (.inr f_18))))), (q_14, .inr (4, [.int 0, .int 0, .int 0, .int 0, .int 0, .int 0, .int 0, .int 0, .int 0]))] ++ pl_18) H → va_S A s.heap H locs → W p l e (headSpec wsX5_init ({ frames := 2, cells := 188, slots := 1632, locals := 41 })).room s m ([.ref h0] : List Value).toArray below meth c H locs cells slots (MQ below (sj_Qv (S := Nat × Nat × Nat × Nat × Nat × Nat × Nat × Nat × Nat × Nat × Nat × ClassId × ClassId × ClassId × va_W) D (fun _ => True) (fun u => [(h0, .inr (5, [.ref u.1, .int 0, .ref u.2.1, .ref u.2.2.1, .int 0, .ref u.2.2.2.1, .int 0, .ref u.2.2.2.2.1, .int 0, .ref u.2.2.2.2.2.1, .int 0, .ref u.2.2.2.2.2.2.1, .int 0, .ref u.2.2.2.2.2.2.2.1, .int 0, .int 0, .int 0, .ref u.2.2.2.2.2.2.2.2.1, .ref u.2.2.2.2.2.2.2.2.2.1])), (u.1, .inr (3, [.ref u.2.2.2.2.2.2.2.2.2.2.1, .int 0])), (u.2.2.2.2.2.2.2.2.2.2.1, .inl (u.2.2.2.2.2.2.2.2.2.2.2.1, 480, .inl (fun _ => 0))), (u.2.1, .inl (u.2.2.2.2.2.2.2.2.2.2.2.2.1, 20, .inl (fun _ => 0))), (u.2.2.1, .inl (u.2.2.2.2.2.2.2.2.2.2.2.2.2.1, 20, .inl (fun _ => 0)))] ++ u.2.2.2.2.2.2.2.2.2.2.2.2.2.2) (fun u => [(u.2.2.2.2.2.2.2.2.2.2.2.1, .char), (u.2.2.2.2.2.2.2.2.2.2.2.2.1, .int), (u.2.2.2.2.2.2.2.2.2.2.2.2.2.1, .int)]) A) ([.ref h0] : List Value).toArray s 188 1632 A) (F0 m 72 ls []) := by
    intro f_18 pl_18 H locs ls cells slots hf_18 hck hcs hl hH hS
    refine W.widen (k := 10) (n := 572) hck hcs ?_
    refine lv_aload_n hx hb dX5_init_72 rfl (lv_at hl 1 rfl) ?_
    refine lv_bipush (v := 12) hx hb dX5_init_73 (by decide) ?_
    refine sj_newq (C := RX4) (N' := 12) hx hb hown wd12 (sj_ao wd13) hK hH hS hA (by decide) (by decide) (by decide) rfl rfl (Nat.le_of_ble_eq_true rfl) (Nat.le_of_ble_eq_true rfl) dX5_init_75 (fun q_19 k_20 H hK hH hS => ?_)
    have hK : va_K D vwCl [(k_6, .char), (k_8, .int), (k_10, .int), (k_12, .object RX4), (k_20, .object RX4)] s := hK
    have hH : sj_H D A ([(h0, .inr (5, [.ref q_1, .int 0, .ref q_7, .ref q_9, .int 0, .ref q_11, .int 0, .null, .int 0, .null, .int 0, .null, .int 0, .null, .int 0, .int 0, .int 0, .null, .null])), (q_1, .inr (3, [.ref q_5, .int 0])), (q_5, .inl (k_6, 480, .inl (fun _ => 0))), (q_7, .inl (k_8, 20, .inl (fun _ => 0))), (q_9, .inl (k_10, 20, .inl (fun _ => 0))), (q_11, .inl (k_12, 5, .inr (.inr (.inr (.inr f_18))))), (q_14, .inr (4, [.int 0, .int 0, .int 0, .int 0, .int 0, .int 0, .int 0, .int 0, .int 0])), (q_19, .inl (k_20, 12, .inr (.inr (.inr (.inr (fun _ => none))))))] ++ pl_18) H := hH
    refine sj_putF (D := D) (ci := 5) (v := .ref q_19) (ty := (.array (.object "StoryDesk$Part"))) (C := RX5) (F := TX5) (N := 19) hx hb hts in5 tyX5 tyX5_ok nmX5 hown hK hH hS 0 rfl rfl 7 (by decide) wd18 (fun _ h9 => h9) rfl hnm rfl (by decide +kernel) rfl rfl (Nat.le_of_ble_eq_true rfl) dX5_init_78 (fun H locs (hH : sj_H D A ([(h0, .inr (5, [.ref q_1, .int 0, .ref q_7, .ref q_9, .int 0, .ref q_11, .int 0, .ref q_19, .int 0, .null, .int 0, .null, .int 0, .null, .int 0, .int 0, .int 0, .null, .null])), (q_1, .inr (3, [.ref q_5, .int 0])), (q_5, .inl (k_6, 480, .inl (fun _ => 0))), (q_7, .inl (k_8, 20, .inl (fun _ => 0))), (q_9, .inl (k_10, 20, .inl (fun _ => 0))), (q_11, .inl (k_12, 5, .inr (.inr (.inr (.inr f_18))))), (q_14, .inr (4, [.int 0, .int 0, .int 0, .int 0, .int 0, .int 0, .int 0, .int 0, .int 0])), (q_19, .inl (k_20, 12, .inr (.inr (.inr (.inr (fun _ => none))))))] ++ pl_18) H) hS => ?_)
    refine lv_iconst (v := 0) hx hb dX5_init_81 (by decide) ?_
    refine lv_istore_n (lv' := [(1, .int 0), (0, .ref h0)]) hx hb dX5_init_82 rfl hl (by decide) rfl (fun ls hl => ?_)
    have after_21 : ∀ (f_21 : Nat → Option Nat) (pl_21 : va_W) (H : Heap) (locs : List Loc) (ls : Array Slot) (cells slots : Nat), cells ≤ 23 → slots ≤ 692 → lv_has ls 2 [(1, .int (nI 12)), (0, .ref h0)] → sj_H D A ([(h0, .inr (5, [.ref q_1, .int 0, .ref q_7, .ref q_9, .int 0, .ref q_11, .int 0, .ref q_19, .int 0, .null, .int 0, .null, .int 0, .null, .int 0, .int 0, .int 0, .null, .null])), (q_1, .inr (3, [.ref q_5, .int 0])), (q_5, .inl (k_6, 480, .inl (fun _ => 0))), (q_7, .inl (k_8, 20, .inl (fun _ => 0))), (q_9, .inl (k_10, 20, .inl (fun _ => 0))), (q_11, .inl (k_12, 5, .inr (.inr (.inr (.inr f_18))))), (q_14, .inr (4, [.int 0, .int 0, .int 0, .int 0, .int 0, .int 0, .int 0, .int 0, .int 0])), (q_19, .inl (k_20, 12, .inr (.inr (.inr (.inr f_21)))))] ++ pl_21) H → va_S A s.heap H locs → W p l e (headSpec wsX5_init ({ frames := 2, cells := 188, slots := 1632, locals := 41 })).room s m ([.ref h0] : List Value).toArray below meth c H locs cells slots (MQ below (sj_Qv (S := Nat × Nat × Nat × Nat × Nat × Nat × Nat × Nat × Nat × Nat × Nat × ClassId × ClassId × ClassId × va_W) D (fun _ => True) (fun u => [(h0, .inr (5, [.ref u.1, .int 0, .ref u.2.1, .ref u.2.2.1, .int 0, .ref u.2.2.2.1, .int 0, .ref u.2.2.2.2.1, .int 0, .ref u.2.2.2.2.2.1, .int 0, .ref u.2.2.2.2.2.2.1, .int 0, .ref u.2.2.2.2.2.2.2.1, .int 0, .int 0, .int 0, .ref u.2.2.2.2.2.2.2.2.1, .ref u.2.2.2.2.2.2.2.2.2.1])), (u.1, .inr (3, [.ref u.2.2.2.2.2.2.2.2.2.2.1, .int 0])), (u.2.2.2.2.2.2.2.2.2.2.1, .inl (u.2.2.2.2.2.2.2.2.2.2.2.1, 480, .inl (fun _ => 0))), (u.2.1, .inl (u.2.2.2.2.2.2.2.2.2.2.2.2.1, 20, .inl (fun _ => 0))), (u.2.2.1, .inl (u.2.2.2.2.2.2.2.2.2.2.2.2.2.1, 20, .inl (fun _ => 0)))] ++ u.2.2.2.2.2.2.2.2.2.2.2.2.2.2) (fun u => [(u.2.2.2.2.2.2.2.2.2.2.2.1, .char), (u.2.2.2.2.2.2.2.2.2.2.2.2.1, .int), (u.2.2.2.2.2.2.2.2.2.2.2.2.2.1, .int)]) A) ([.ref h0] : List Value).toArray s 188 1632 A) (F0 m 111 ls []) := by
      intro f_21 pl_21 H locs ls cells slots hck hcs hl hH hS
      refine W.widen (k := 23) (n := 692) hck hcs ?_
      refine lv_aload_n hx hb dX5_init_111 rfl (lv_at hl 1 rfl) ?_
      refine lv_bipush (v := 30) hx hb dX5_init_112 (by decide) ?_
      refine sj_newq (C := RX4) (N' := 30) hx hb hown wd12 (sj_ao wd13) hK hH hS hA (by decide) (by decide) (by decide) rfl rfl (Nat.le_of_ble_eq_true rfl) (Nat.le_of_ble_eq_true rfl) dX5_init_114 (fun q_22 k_23 H hK hH hS => ?_)
      have hK : va_K D vwCl [(k_6, .char), (k_8, .int), (k_10, .int), (k_12, .object RX4), (k_20, .object RX4), (k_23, .object RX4)] s := hK
      have hH : sj_H D A ([(h0, .inr (5, [.ref q_1, .int 0, .ref q_7, .ref q_9, .int 0, .ref q_11, .int 0, .ref q_19, .int 0, .null, .int 0, .null, .int 0, .null, .int 0, .int 0, .int 0, .null, .null])), (q_1, .inr (3, [.ref q_5, .int 0])), (q_5, .inl (k_6, 480, .inl (fun _ => 0))), (q_7, .inl (k_8, 20, .inl (fun _ => 0))), (q_9, .inl (k_10, 20, .inl (fun _ => 0))), (q_11, .inl (k_12, 5, .inr (.inr (.inr (.inr f_18))))), (q_14, .inr (4, [.int 0, .int 0, .int 0, .int 0, .int 0, .int 0, .int 0, .int 0, .int 0])), (q_19, .inl (k_20, 12, .inr (.inr (.inr (.inr f_21))))), (q_22, .inl (k_23, 30, .inr (.inr (.inr (.inr (fun _ => none))))))] ++ pl_21) H := hH
      refine sj_putF (D := D) (ci := 5) (v := .ref q_22) (ty := (.array (.object "StoryDesk$Part"))) (C := RX5) (F := TX5) (N := 19) hx hb hts in5 tyX5 tyX5_ok nmX5 hown hK hH hS 0 rfl rfl 9 (by decide) wd19 (fun _ h9 => h9) rfl hnm rfl (by decide +kernel) rfl rfl (Nat.le_of_ble_eq_true rfl) dX5_init_117 (fun H locs (hH : sj_H D A ([(h0, .inr (5, [.ref q_1, .int 0, .ref q_7, .ref q_9, .int 0, .ref q_11, .int 0, .ref q_19, .int 0, .ref q_22, .int 0, .null, .int 0, .null, .int 0, .int 0, .int 0, .null, .null])), (q_1, .inr (3, [.ref q_5, .int 0])), (q_5, .inl (k_6, 480, .inl (fun _ => 0))), (q_7, .inl (k_8, 20, .inl (fun _ => 0))), (q_9, .inl (k_10, 20, .inl (fun _ => 0))), (q_11, .inl (k_12, 5, .inr (.inr (.inr (.inr f_18))))), (q_14, .inr (4, [.int 0, .int 0, .int 0, .int 0, .int 0, .int 0, .int 0, .int 0, .int 0])), (q_19, .inl (k_20, 12, .inr (.inr (.inr (.inr f_21))))), (q_22, .inl (k_23, 30, .inr (.inr (.inr (.inr (fun _ => none))))))] ++ pl_21) H) hS => ?_)
      refine lv_iconst (v := 0) hx hb dX5_init_120 (by decide) ?_
      refine lv_istore_n (lv' := [(1, .int 0), (0, .ref h0)]) hx hb dX5_init_121 rfl hl (by decide) rfl (fun ls hl => ?_)
      refine lv_iload_n hx hb dX5_init_122 rfl (lv_at hl 0 rfl) ?_
      refine lv_aload_n hx hb dX5_init_123 rfl (lv_at hl 1 rfl) ?_
      refine va_get (D := D) (ci := 5) (v := .ref q_22) (C := RX5) (T := TX5) (N := 19) hx hb hts in5 hown hK hH.1 0 rfl rfl 9 (by decide) wd19 (fun _ h9 => h9) rfl dX5_init_124 ?_
      refine va_alen hx hb hK hH.1 8 5 rfl rfl (v := 30) rfl dX5_init_127 ?_
      refine lv_icmp_ge (tgt := 150) hx hb dX5_init_128 (by decide) (fun h => absurd h (by decide)) (fun _ => ?_)
      refine lv_aload_n hx hb dX5_init_131 rfl (lv_at hl 1 rfl) ?_
      refine va_get (D := D) (ci := 5) (v := .ref q_22) (C := RX5) (T := TX5) (N := 19) hx hb hts in5 hown hK hH.1 0 rfl rfl 9 (by decide) wd19 (fun _ h9 => h9) rfl dX5_init_132 ?_
      refine lv_iload_n hx hb dX5_init_135 rfl (lv_at hl 0 rfl) ?_
      refine sj_new (ci := 4) (fs := [.int 0, .int 0, .int 0, .int 0, .int 0, .int 0, .int 0, .int 0, .int 0]) (C := RX4) (F := TX4) (N := 9) hx hb hts in4 tyX4 tyX4_ok hown wd12 wd15 wd16 hK hH hS hA rfl sj_df4 rfl rfl (Nat.le_of_ble_eq_true rfl) (Nat.le_of_ble_eq_true rfl) dX5_init_136 (fun q_25 H hH hS => ?_)
      have hH : sj_H D A ([(h0, .inr (5, [.ref q_1, .int 0, .ref q_7, .ref q_9, .int 0, .ref q_11, .int 0, .ref q_19, .int 0, .ref q_22, .int 0, .null, .int 0, .null, .int 0, .int 0, .int 0, .null, .null])), (q_1, .inr (3, [.ref q_5, .int 0])), (q_5, .inl (k_6, 480, .inl (fun _ => 0))), (q_7, .inl (k_8, 20, .inl (fun _ => 0))), (q_9, .inl (k_10, 20, .inl (fun _ => 0))), (q_11, .inl (k_12, 5, .inr (.inr (.inr (.inr f_18))))), (q_14, .inr (4, [.int 0, .int 0, .int 0, .int 0, .int 0, .int 0, .int 0, .int 0, .int 0])), (q_19, .inl (k_20, 12, .inr (.inr (.inr (.inr f_21))))), (q_22, .inl (k_23, 30, .inr (.inr (.inr (.inr (fun _ => none)))))), (q_25, .inr (4, [.int 0, .int 0, .int 0, .int 0, .int 0, .int 0, .int 0, .int 0, .int 0]))] ++ pl_21) H := hH
      refine lv_dup hx hb dX5_init_139 rfl ?_
      refine sj_callv (wr := [(h0, .inr (5, [.ref q_1, .int 0, .ref q_7, .ref q_9, .int 0, .ref q_11, .int 0, .ref q_19, .int 0, .ref q_22, .int 0, .null, .int 0, .null, .int 0, .int 0, .int 0, .null, .null])), (q_1, .inr (3, [.ref q_5, .int 0])), (q_5, .inl (k_6, 480, .inl (fun _ => 0))), (q_7, .inl (k_8, 20, .inl (fun _ => 0))), (q_9, .inl (k_10, 20, .inl (fun _ => 0))), (q_11, .inl (k_12, 5, .inr (.inr (.inr (.inr f_18))))), (q_14, .inr (4, [.int 0, .int 0, .int 0, .int 0, .int 0, .int 0, .int 0, .int 0, .int 0])), (q_19, .inl (k_20, 12, .inr (.inr (.inr (.inr f_21))))), (q_22, .inl (k_23, 30, .inr (.inr (.inr (.inr (fun _ => none))))))]) (va_runIN (As := []) (rest := [.ref q_25, .int 0, .ref q_22]) ⟨hx, hb, hml, hown, hts⟩ (c_X4_init l D q_25 H.size) ⟨(va_cnB 0 hts gX5_init_X4_init_n33 rfl rfl rfl hE.2.2.2.2.2.2.2 wd16 (by decide +kernel) ⟨(Nat.le_of_ble_eq_true rfl), (Nat.le_of_ble_eq_true rfl)⟩), rfl, wd17⟩ (sj_preS hH hK [9] rfl rfl [] rfl sj_bln sj_exn) rfl rfl hl.1 rfl (lv_room (Nat.le_of_ble_eq_true rfl)) dX5_init_140 ⟨(Nat.le_of_ble_eq_true rfl), (Nat.le_of_ble_eq_true rfl)⟩) hH hK hS hA [9] [0, 1, 2, 3, 4, 5, 6, 7, 8] rfl rfl rfl rfl (by decide) rfl rfl (fun u_27 H locs hw_28 hH hK hS => ?_)
      have hH : sj_H D A ([(h0, .inr (5, [.ref q_1, .int 0, .ref q_7, .ref q_9, .int 0, .ref q_11, .int 0, .ref q_19, .int 0, .ref q_22, .int 0, .null, .int 0, .null, .int 0, .int 0, .int 0, .null, .null])), (q_1, .inr (3, [.ref q_5, .int 0])), (q_5, .inl (k_6, 480, .inl (fun _ => 0))), (q_7, .inl (k_8, 20, .inl (fun _ => 0))), (q_9, .inl (k_10, 20, .inl (fun _ => 0))), (q_11, .inl (k_12, 5, .inr (.inr (.inr (.inr f_18))))), (q_14, .inr (4, [.int 0, .int 0, .int 0, .int 0, .int 0, .int 0, .int 0, .int 0, .int 0])), (q_19, .inl (k_20, 12, .inr (.inr (.inr (.inr f_21))))), (q_22, .inl (k_23, 30, .inr (.inr (.inr (.inr (fun _ => none)))))), (q_25, .inr (4, [.int 0, .int 0, .int 0, .int 0, .int 0, .int 0, .int 0, .int 0, .int 0]))] ++ pl_21) H := hH
      have hK : va_K D vwCl [(k_6, .char), (k_8, .int), (k_10, .int), (k_12, .object RX4), (k_20, .object RX4), (k_23, .object RX4)] s := by simpa using hK
      refine sj_astq hx hb hK hH hS 8 5 9 4 rfl rfl rfl rfl (sj_vin (by decide) (by decide)) dX5_init_143 (fun H locs hH hS => ?_)
      have hH : sj_H D A ([(h0, .inr (5, [.ref q_1, .int 0, .ref q_7, .ref q_9, .int 0, .ref q_11, .int 0, .ref q_19, .int 0, .ref q_22, .int 0, .null, .int 0, .null, .int 0, .int 0, .int 0, .null, .null])), (q_1, .inr (3, [.ref q_5, .int 0])), (q_5, .inl (k_6, 480, .inl (fun _ => 0))), (q_7, .inl (k_8, 20, .inl (fun _ => 0))), (q_9, .inl (k_10, 20, .inl (fun _ => 0))), (q_11, .inl (k_12, 5, .inr (.inr (.inr (.inr f_18))))), (q_14, .inr (4, [.int 0, .int 0, .int 0, .int 0, .int 0, .int 0, .int 0, .int 0, .int 0])), (q_19, .inl (k_20, 12, .inr (.inr (.inr (.inr f_21))))), (q_22, .inl (k_23, 30, .inr (.inr (.inr (.inr (va_up (fun _ => none) 0 (some q_25))))))), (q_25, .inr (4, [.int 0, .int 0, .int 0, .int 0, .int 0, .int 0, .int 0, .int 0, .int 0]))] ++ pl_21) H := hH
      refine lv_iinc (v := 1) (lv' := [(1, .int 1), (0, .ref h0)]) hx hb dX5_init_144 hl (k := 0) rfl (by decide) (by decide) rfl (fun ls hl => ?_)
      refine lv_goto (tgt := 122) hx hb dX5_init_147 (by decide) ?_
      have after_29 : ∀ (f_29 : Nat → Option Nat) (pl_29 : va_W) (H : Heap) (locs : List Loc) (ls : Array Slot) (cells slots : Nat), f_29 0 = some q_25 → cells ≤ 54 → slots ≤ 992 → lv_has ls 2 [(1, .int (nI 30)), (0, .ref h0)] → sj_H D A ([(h0, .inr (5, [.ref q_1, .int 0, .ref q_7, .ref q_9, .int 0, .ref q_11, .int 0, .ref q_19, .int 0, .ref q_22, .int 0, .null, .int 0, .null, .int 0, .int 0, .int 0, .null, .null])), (q_1, .inr (3, [.ref q_5, .int 0])), (q_5, .inl (k_6, 480, .inl (fun _ => 0))), (q_7, .inl (k_8, 20, .inl (fun _ => 0))), (q_9, .inl (k_10, 20, .inl (fun _ => 0))), (q_11, .inl (k_12, 5, .inr (.inr (.inr (.inr f_18))))), (q_14, .inr (4, [.int 0, .int 0, .int 0, .int 0, .int 0, .int 0, .int 0, .int 0, .int 0])), (q_19, .inl (k_20, 12, .inr (.inr (.inr (.inr f_21))))), (q_22, .inl (k_23, 30, .inr (.inr (.inr (.inr f_29))))), (q_25, .inr (4, [.int 0, .int 0, .int 0, .int 0, .int 0, .int 0, .int 0, .int 0, .int 0]))] ++ pl_29) H → va_S A s.heap H locs → W p l e (headSpec wsX5_init ({ frames := 2, cells := 188, slots := 1632, locals := 41 })).room s m ([.ref h0] : List Value).toArray below meth c H locs cells slots (MQ below (sj_Qv (S := Nat × Nat × Nat × Nat × Nat × Nat × Nat × Nat × Nat × Nat × Nat × ClassId × ClassId × ClassId × va_W) D (fun _ => True) (fun u => [(h0, .inr (5, [.ref u.1, .int 0, .ref u.2.1, .ref u.2.2.1, .int 0, .ref u.2.2.2.1, .int 0, .ref u.2.2.2.2.1, .int 0, .ref u.2.2.2.2.2.1, .int 0, .ref u.2.2.2.2.2.2.1, .int 0, .ref u.2.2.2.2.2.2.2.1, .int 0, .int 0, .int 0, .ref u.2.2.2.2.2.2.2.2.1, .ref u.2.2.2.2.2.2.2.2.2.1])), (u.1, .inr (3, [.ref u.2.2.2.2.2.2.2.2.2.2.1, .int 0])), (u.2.2.2.2.2.2.2.2.2.2.1, .inl (u.2.2.2.2.2.2.2.2.2.2.2.1, 480, .inl (fun _ => 0))), (u.2.1, .inl (u.2.2.2.2.2.2.2.2.2.2.2.2.1, 20, .inl (fun _ => 0))), (u.2.2.1, .inl (u.2.2.2.2.2.2.2.2.2.2.2.2.2.1, 20, .inl (fun _ => 0)))] ++ u.2.2.2.2.2.2.2.2.2.2.2.2.2.2) (fun u => [(u.2.2.2.2.2.2.2.2.2.2.2.1, .char), (u.2.2.2.2.2.2.2.2.2.2.2.2.1, .int), (u.2.2.2.2.2.2.2.2.2.2.2.2.2.1, .int)]) A) ([.ref h0] : List Value).toArray s 188 1632 A) (F0 m 150 ls []) := by
        intro f_29 pl_29 H locs ls cells slots hf_29 hck hcs hl hH hS
        refine W.widen (k := 54) (n := 992) hck hcs ?_
        refine lv_aload_n hx hb dX5_init_150 rfl (lv_at hl 1 rfl) ?_
        refine lv_bipush (v := 12) hx hb dX5_init_151 (by decide) ?_
        refine sj_newq (C := RX4) (N' := 12) hx hb hown wd12 (sj_ao wd13) hK hH hS hA (by decide) (by decide) (by decide) rfl rfl (Nat.le_of_ble_eq_true rfl) (Nat.le_of_ble_eq_true rfl) dX5_init_153 (fun q_30 k_31 H hK hH hS => ?_)
        have hK : va_K D vwCl [(k_6, .char), (k_8, .int), (k_10, .int), (k_12, .object RX4), (k_20, .object RX4), (k_23, .object RX4), (k_31, .object RX4)] s := hK
        have hH : sj_H D A ([(h0, .inr (5, [.ref q_1, .int 0, .ref q_7, .ref q_9, .int 0, .ref q_11, .int 0, .ref q_19, .int 0, .ref q_22, .int 0, .null, .int 0, .null, .int 0, .int 0, .int 0, .null, .null])), (q_1, .inr (3, [.ref q_5, .int 0])), (q_5, .inl (k_6, 480, .inl (fun _ => 0))), (q_7, .inl (k_8, 20, .inl (fun _ => 0))), (q_9, .inl (k_10, 20, .inl (fun _ => 0))), (q_11, .inl (k_12, 5, .inr (.inr (.inr (.inr f_18))))), (q_14, .inr (4, [.int 0, .int 0, .int 0, .int 0, .int 0, .int 0, .int 0, .int 0, .int 0])), (q_19, .inl (k_20, 12, .inr (.inr (.inr (.inr f_21))))), (q_22, .inl (k_23, 30, .inr (.inr (.inr (.inr f_29))))), (q_25, .inr (4, [.int 0, .int 0, .int 0, .int 0, .int 0, .int 0, .int 0, .int 0, .int 0])), (q_30, .inl (k_31, 12, .inr (.inr (.inr (.inr (fun _ => none))))))] ++ pl_29) H := hH
        refine sj_putF (D := D) (ci := 5) (v := .ref q_30) (ty := (.array (.object "StoryDesk$Part"))) (C := RX5) (F := TX5) (N := 19) hx hb hts in5 tyX5 tyX5_ok nmX5 hown hK hH hS 0 rfl rfl 11 (by decide) wd20 (fun _ h9 => h9) rfl hnm rfl (by decide +kernel) rfl rfl (Nat.le_of_ble_eq_true rfl) dX5_init_156 (fun H locs (hH : sj_H D A ([(h0, .inr (5, [.ref q_1, .int 0, .ref q_7, .ref q_9, .int 0, .ref q_11, .int 0, .ref q_19, .int 0, .ref q_22, .int 0, .ref q_30, .int 0, .null, .int 0, .int 0, .int 0, .null, .null])), (q_1, .inr (3, [.ref q_5, .int 0])), (q_5, .inl (k_6, 480, .inl (fun _ => 0))), (q_7, .inl (k_8, 20, .inl (fun _ => 0))), (q_9, .inl (k_10, 20, .inl (fun _ => 0))), (q_11, .inl (k_12, 5, .inr (.inr (.inr (.inr f_18))))), (q_14, .inr (4, [.int 0, .int 0, .int 0, .int 0, .int 0, .int 0, .int 0, .int 0, .int 0])), (q_19, .inl (k_20, 12, .inr (.inr (.inr (.inr f_21))))), (q_22, .inl (k_23, 30, .inr (.inr (.inr (.inr f_29))))), (q_25, .inr (4, [.int 0, .int 0, .int 0, .int 0, .int 0, .int 0, .int 0, .int 0, .int 0])), (q_30, .inl (k_31, 12, .inr (.inr (.inr (.inr (fun _ => none))))))] ++ pl_29) H) hS => ?_)
        refine lv_iconst (v := 0) hx hb dX5_init_159 (by decide) ?_
        refine lv_istore_n (lv' := [(1, .int 0), (0, .ref h0)]) hx hb dX5_init_160 rfl hl (by decide) rfl (fun ls hl => ?_)
        have after_32 : ∀ (f_32 : Nat → Option Nat) (pl_32 : va_W) (H : Heap) (locs : List Loc) (ls : Array Slot) (cells slots : Nat), cells ≤ 67 → slots ≤ 1112 → lv_has ls 2 [(1, .int (nI 12)), (0, .ref h0)] → sj_H D A ([(h0, .inr (5, [.ref q_1, .int 0, .ref q_7, .ref q_9, .int 0, .ref q_11, .int 0, .ref q_19, .int 0, .ref q_22, .int 0, .ref q_30, .int 0, .null, .int 0, .int 0, .int 0, .null, .null])), (q_1, .inr (3, [.ref q_5, .int 0])), (q_5, .inl (k_6, 480, .inl (fun _ => 0))), (q_7, .inl (k_8, 20, .inl (fun _ => 0))), (q_9, .inl (k_10, 20, .inl (fun _ => 0))), (q_11, .inl (k_12, 5, .inr (.inr (.inr (.inr f_18))))), (q_14, .inr (4, [.int 0, .int 0, .int 0, .int 0, .int 0, .int 0, .int 0, .int 0, .int 0])), (q_19, .inl (k_20, 12, .inr (.inr (.inr (.inr f_21))))), (q_22, .inl (k_23, 30, .inr (.inr (.inr (.inr f_29))))), (q_25, .inr (4, [.int 0, .int 0, .int 0, .int 0, .int 0, .int 0, .int 0, .int 0, .int 0])), (q_30, .inl (k_31, 12, .inr (.inr (.inr (.inr f_32)))))] ++ pl_32) H → va_S A s.heap H locs → W p l e (headSpec wsX5_init ({ frames := 2, cells := 188, slots := 1632, locals := 41 })).room s m ([.ref h0] : List Value).toArray below meth c H locs cells slots (MQ below (sj_Qv (S := Nat × Nat × Nat × Nat × Nat × Nat × Nat × Nat × Nat × Nat × Nat × ClassId × ClassId × ClassId × va_W) D (fun _ => True) (fun u => [(h0, .inr (5, [.ref u.1, .int 0, .ref u.2.1, .ref u.2.2.1, .int 0, .ref u.2.2.2.1, .int 0, .ref u.2.2.2.2.1, .int 0, .ref u.2.2.2.2.2.1, .int 0, .ref u.2.2.2.2.2.2.1, .int 0, .ref u.2.2.2.2.2.2.2.1, .int 0, .int 0, .int 0, .ref u.2.2.2.2.2.2.2.2.1, .ref u.2.2.2.2.2.2.2.2.2.1])), (u.1, .inr (3, [.ref u.2.2.2.2.2.2.2.2.2.2.1, .int 0])), (u.2.2.2.2.2.2.2.2.2.2.1, .inl (u.2.2.2.2.2.2.2.2.2.2.2.1, 480, .inl (fun _ => 0))), (u.2.1, .inl (u.2.2.2.2.2.2.2.2.2.2.2.2.1, 20, .inl (fun _ => 0))), (u.2.2.1, .inl (u.2.2.2.2.2.2.2.2.2.2.2.2.2.1, 20, .inl (fun _ => 0)))] ++ u.2.2.2.2.2.2.2.2.2.2.2.2.2.2) (fun u => [(u.2.2.2.2.2.2.2.2.2.2.2.1, .char), (u.2.2.2.2.2.2.2.2.2.2.2.2.1, .int), (u.2.2.2.2.2.2.2.2.2.2.2.2.2.1, .int)]) A) ([.ref h0] : List Value).toArray s 188 1632 A) (F0 m 189 ls []) := by
          intro f_32 pl_32 H locs ls cells slots hck hcs hl hH hS
          refine W.widen (k := 67) (n := 1112) hck hcs ?_
          refine lv_aload_n hx hb dX5_init_189 rfl (lv_at hl 1 rfl) ?_
          refine lv_bipush (v := 40) hx hb dX5_init_190 (by decide) ?_
          refine sj_newq (C := RX6) (N' := 40) hx hb hown wd21 (sj_ao wd22) hK hH hS hA (by decide) (by decide) (by decide) rfl rfl (Nat.le_of_ble_eq_true rfl) (Nat.le_of_ble_eq_true rfl) dX5_init_192 (fun q_33 k_34 H hK hH hS => ?_)
          have hK : va_K D vwCl [(k_6, .char), (k_8, .int), (k_10, .int), (k_12, .object RX4), (k_20, .object RX4), (k_23, .object RX4), (k_31, .object RX4), (k_34, .object RX6)] s := hK
          have hH : sj_H D A ([(h0, .inr (5, [.ref q_1, .int 0, .ref q_7, .ref q_9, .int 0, .ref q_11, .int 0, .ref q_19, .int 0, .ref q_22, .int 0, .ref q_30, .int 0, .null, .int 0, .int 0, .int 0, .null, .null])), (q_1, .inr (3, [.ref q_5, .int 0])), (q_5, .inl (k_6, 480, .inl (fun _ => 0))), (q_7, .inl (k_8, 20, .inl (fun _ => 0))), (q_9, .inl (k_10, 20, .inl (fun _ => 0))), (q_11, .inl (k_12, 5, .inr (.inr (.inr (.inr f_18))))), (q_14, .inr (4, [.int 0, .int 0, .int 0, .int 0, .int 0, .int 0, .int 0, .int 0, .int 0])), (q_19, .inl (k_20, 12, .inr (.inr (.inr (.inr f_21))))), (q_22, .inl (k_23, 30, .inr (.inr (.inr (.inr f_29))))), (q_25, .inr (4, [.int 0, .int 0, .int 0, .int 0, .int 0, .int 0, .int 0, .int 0, .int 0])), (q_30, .inl (k_31, 12, .inr (.inr (.inr (.inr f_32))))), (q_33, .inl (k_34, 40, .inr (.inr (.inr (.inr (fun _ => none))))))] ++ pl_32) H := hH
          refine sj_putF (D := D) (ci := 5) (v := .ref q_33) (ty := (.array (.object "StoryDesk$Row"))) (C := RX5) (F := TX5) (N := 19) hx hb hts in5 tyX5 tyX5_ok nmX5 hown hK hH hS 0 rfl rfl 13 (by decide) wd23 (fun _ h9 => h9) rfl hnm rfl (by decide +kernel) rfl rfl (Nat.le_of_ble_eq_true rfl) dX5_init_195 (fun H locs (hH : sj_H D A ([(h0, .inr (5, [.ref q_1, .int 0, .ref q_7, .ref q_9, .int 0, .ref q_11, .int 0, .ref q_19, .int 0, .ref q_22, .int 0, .ref q_30, .int 0, .ref q_33, .int 0, .int 0, .int 0, .null, .null])), (q_1, .inr (3, [.ref q_5, .int 0])), (q_5, .inl (k_6, 480, .inl (fun _ => 0))), (q_7, .inl (k_8, 20, .inl (fun _ => 0))), (q_9, .inl (k_10, 20, .inl (fun _ => 0))), (q_11, .inl (k_12, 5, .inr (.inr (.inr (.inr f_18))))), (q_14, .inr (4, [.int 0, .int 0, .int 0, .int 0, .int 0, .int 0, .int 0, .int 0, .int 0])), (q_19, .inl (k_20, 12, .inr (.inr (.inr (.inr f_21))))), (q_22, .inl (k_23, 30, .inr (.inr (.inr (.inr f_29))))), (q_25, .inr (4, [.int 0, .int 0, .int 0, .int 0, .int 0, .int 0, .int 0, .int 0, .int 0])), (q_30, .inl (k_31, 12, .inr (.inr (.inr (.inr f_32))))), (q_33, .inl (k_34, 40, .inr (.inr (.inr (.inr (fun _ => none))))))] ++ pl_32) H) hS => ?_)
          refine lv_iconst (v := 0) hx hb dX5_init_198 (by decide) ?_
          refine lv_istore_n (lv' := [(1, .int 0), (0, .ref h0)]) hx hb dX5_init_199 rfl hl (by decide) rfl (fun ls hl => ?_)
          have after_35 : ∀ (f_35 : Nat → Option Nat) (pl_35 : va_W) (H : Heap) (locs : List Loc) (ls : Array Slot) (cells slots : Nat), cells ≤ 188 → slots ≤ 1632 → lv_has ls 2 [(1, .int (nI 40)), (0, .ref h0)] → sj_H D A ([(h0, .inr (5, [.ref q_1, .int 0, .ref q_7, .ref q_9, .int 0, .ref q_11, .int 0, .ref q_19, .int 0, .ref q_22, .int 0, .ref q_30, .int 0, .ref q_33, .int 0, .int 0, .int 0, .null, .null])), (q_1, .inr (3, [.ref q_5, .int 0])), (q_5, .inl (k_6, 480, .inl (fun _ => 0))), (q_7, .inl (k_8, 20, .inl (fun _ => 0))), (q_9, .inl (k_10, 20, .inl (fun _ => 0))), (q_11, .inl (k_12, 5, .inr (.inr (.inr (.inr f_18))))), (q_14, .inr (4, [.int 0, .int 0, .int 0, .int 0, .int 0, .int 0, .int 0, .int 0, .int 0])), (q_19, .inl (k_20, 12, .inr (.inr (.inr (.inr f_21))))), (q_22, .inl (k_23, 30, .inr (.inr (.inr (.inr f_29))))), (q_25, .inr (4, [.int 0, .int 0, .int 0, .int 0, .int 0, .int 0, .int 0, .int 0, .int 0])), (q_30, .inl (k_31, 12, .inr (.inr (.inr (.inr f_32))))), (q_33, .inl (k_34, 40, .inr (.inr (.inr (.inr f_35)))))] ++ pl_35) H → va_S A s.heap H locs → W p l e (headSpec wsX5_init ({ frames := 2, cells := 188, slots := 1632, locals := 41 })).room s m ([.ref h0] : List Value).toArray below meth c H locs cells slots (MQ below (sj_Qv (S := Nat × Nat × Nat × Nat × Nat × Nat × Nat × Nat × Nat × Nat × Nat × ClassId × ClassId × ClassId × va_W) D (fun _ => True) (fun u => [(h0, .inr (5, [.ref u.1, .int 0, .ref u.2.1, .ref u.2.2.1, .int 0, .ref u.2.2.2.1, .int 0, .ref u.2.2.2.2.1, .int 0, .ref u.2.2.2.2.2.1, .int 0, .ref u.2.2.2.2.2.2.1, .int 0, .ref u.2.2.2.2.2.2.2.1, .int 0, .int 0, .int 0, .ref u.2.2.2.2.2.2.2.2.1, .ref u.2.2.2.2.2.2.2.2.2.1])), (u.1, .inr (3, [.ref u.2.2.2.2.2.2.2.2.2.2.1, .int 0])), (u.2.2.2.2.2.2.2.2.2.2.1, .inl (u.2.2.2.2.2.2.2.2.2.2.2.1, 480, .inl (fun _ => 0))), (u.2.1, .inl (u.2.2.2.2.2.2.2.2.2.2.2.2.1, 20, .inl (fun _ => 0))), (u.2.2.1, .inl (u.2.2.2.2.2.2.2.2.2.2.2.2.2.1, 20, .inl (fun _ => 0)))] ++ u.2.2.2.2.2.2.2.2.2.2.2.2.2.2) (fun u => [(u.2.2.2.2.2.2.2.2.2.2.2.1, .char), (u.2.2.2.2.2.2.2.2.2.2.2.2.1, .int), (u.2.2.2.2.2.2.2.2.2.2.2.2.2.1, .int)]) A) ([.ref h0] : List Value).toArray s 188 1632 A) (F0 m 228 ls []) := by
            intro f_35 pl_35 H locs ls cells slots hck hcs hl hH hS
            refine W.widen (k := 188) (n := 1632) hck hcs ?_
            refine lv_aload_n hx hb dX5_init_228 rfl (lv_at hl 1 rfl) ?_
            refine lv_aload_n hx hb dX5_init_229 rfl (lv_at hl 1 rfl) ?_
            refine va_get (D := D) (ci := 5) (v := .ref q_11) (C := RX5) (T := TX5) (N := 19) hx hb hts in5 hown hK hH.1 0 rfl rfl 5 (by decide) wd14 (fun _ h9 => h9) rfl dX5_init_230 ?_
            refine lv_iconst (v := 0) hx hb dX5_init_233 (by decide) ?_
            refine va_aldq hx hb hK hH.1 5 3 rfl rfl (sj_vin (by decide) (by decide)) dX5_init_234 ?_
            refine sj_v (y := .ref q_14) (by rw [sb_cl0, hf_18]; rfl) ?_
            refine sj_put (D := D) (ci := 5) (v := .ref q_14) (ty := (.object "StoryDesk$Part")) (C := RX5) (F := TX5) (N := 19) hx hb hts in5 tyX5 tyX5_ok nmX5 hown hK hH hS 0 rfl rfl 17 (by decide) wd24 (fun _ h9 => h9) rfl (by decide +kernel) rfl rfl (Nat.le_of_ble_eq_true rfl) dX5_init_235 (fun H locs (hH : sj_H D A ([(h0, .inr (5, [.ref q_1, .int 0, .ref q_7, .ref q_9, .int 0, .ref q_11, .int 0, .ref q_19, .int 0, .ref q_22, .int 0, .ref q_30, .int 0, .ref q_33, .int 0, .int 0, .int 0, .ref q_14, .null])), (q_1, .inr (3, [.ref q_5, .int 0])), (q_5, .inl (k_6, 480, .inl (fun _ => 0))), (q_7, .inl (k_8, 20, .inl (fun _ => 0))), (q_9, .inl (k_10, 20, .inl (fun _ => 0))), (q_11, .inl (k_12, 5, .inr (.inr (.inr (.inr f_18))))), (q_14, .inr (4, [.int 0, .int 0, .int 0, .int 0, .int 0, .int 0, .int 0, .int 0, .int 0])), (q_19, .inl (k_20, 12, .inr (.inr (.inr (.inr f_21))))), (q_22, .inl (k_23, 30, .inr (.inr (.inr (.inr f_29))))), (q_25, .inr (4, [.int 0, .int 0, .int 0, .int 0, .int 0, .int 0, .int 0, .int 0, .int 0])), (q_30, .inl (k_31, 12, .inr (.inr (.inr (.inr f_32))))), (q_33, .inl (k_34, 40, .inr (.inr (.inr (.inr f_35)))))] ++ pl_35) H) hS => ?_)
            refine lv_aload_n hx hb dX5_init_238 rfl (lv_at hl 1 rfl) ?_
            refine lv_aload_n hx hb dX5_init_239 rfl (lv_at hl 1 rfl) ?_
            refine va_get (D := D) (ci := 5) (v := .ref q_22) (C := RX5) (T := TX5) (N := 19) hx hb hts in5 hown hK hH.1 0 rfl rfl 9 (by decide) wd19 (fun _ h9 => h9) rfl dX5_init_240 ?_
            refine lv_iconst (v := 0) hx hb dX5_init_243 (by decide) ?_
            refine va_aldq hx hb hK hH.1 8 5 rfl rfl (sj_vin (by decide) (by decide)) dX5_init_244 ?_
            refine sj_v (y := .ref q_25) (by rw [sb_cl0, hf_29]; rfl) ?_
            refine sj_put (D := D) (ci := 5) (v := .ref q_25) (ty := (.object "StoryDesk$Part")) (C := RX5) (F := TX5) (N := 19) hx hb hts in5 tyX5 tyX5_ok nmX5 hown hK hH hS 0 rfl rfl 18 (by decide) wd25 (fun _ h9 => h9) rfl (by decide +kernel) rfl rfl (Nat.le_of_ble_eq_true rfl) dX5_init_245 (fun H locs (hH : sj_H D A ([(h0, .inr (5, [.ref q_1, .int 0, .ref q_7, .ref q_9, .int 0, .ref q_11, .int 0, .ref q_19, .int 0, .ref q_22, .int 0, .ref q_30, .int 0, .ref q_33, .int 0, .int 0, .int 0, .ref q_14, .ref q_25])), (q_1, .inr (3, [.ref q_5, .int 0])), (q_5, .inl (k_6, 480, .inl (fun _ => 0))), (q_7, .inl (k_8, 20, .inl (fun _ => 0))), (q_9, .inl (k_10, 20, .inl (fun _ => 0))), (q_11, .inl (k_12, 5, .inr (.inr (.inr (.inr f_18))))), (q_14, .inr (4, [.int 0, .int 0, .int 0, .int 0, .int 0, .int 0, .int 0, .int 0, .int 0])), (q_19, .inl (k_20, 12, .inr (.inr (.inr (.inr f_21))))), (q_22, .inl (k_23, 30, .inr (.inr (.inr (.inr f_29))))), (q_25, .inr (4, [.int 0, .int 0, .int 0, .int 0, .int 0, .int 0, .int 0, .int 0, .int 0])), (q_30, .inl (k_31, 12, .inr (.inr (.inr (.inr f_32))))), (q_33, .inl (k_34, 40, .inr (.inr (.inr (.inr f_35)))))] ++ pl_35) H) hS => ?_)
            exact sj_vret hx hb hr hlocks hS (q_1, q_7, q_9, q_11, q_19, q_22, q_30, q_33, q_14, q_25, q_5, k_6, k_8, k_10, ([(q_11, .inl (k_12, 5, .inr (.inr (.inr (.inr f_18))))), (q_14, .inr (4, [.int 0, .int 0, .int 0, .int 0, .int 0, .int 0, .int 0, .int 0, .int 0])), (q_19, .inl (k_20, 12, .inr (.inr (.inr (.inr f_21))))), (q_22, .inl (k_23, 30, .inr (.inr (.inr (.inr f_29))))), (q_25, .inr (4, [.int 0, .int 0, .int 0, .int 0, .int 0, .int 0, .int 0, .int 0, .int 0])), (q_30, .inl (k_31, 12, .inr (.inr (.inr (.inr f_32))))), (q_33, .inl (k_34, 40, .inr (.inr (.inr (.inr f_35)))))] ++ pl_35)) trivial (sj_hide (c1 := [(h0, .inr (5, [.ref q_1, .int 0, .ref q_7, .ref q_9, .int 0, .ref q_11, .int 0, .ref q_19, .int 0, .ref q_22, .int 0, .ref q_30, .int 0, .ref q_33, .int 0, .int 0, .int 0, .ref q_14, .ref q_25])), (q_1, .inr (3, [.ref q_5, .int 0])), (q_5, .inl (k_6, 480, .inl (fun _ => 0))), (q_7, .inl (k_8, 20, .inl (fun _ => 0))), (q_9, .inl (k_10, 20, .inl (fun _ => 0)))]) (c2 := [(q_11, .inl (k_12, 5, .inr (.inr (.inr (.inr f_18))))), (q_14, .inr (4, [.int 0, .int 0, .int 0, .int 0, .int 0, .int 0, .int 0, .int 0, .int 0])), (q_19, .inl (k_20, 12, .inr (.inr (.inr (.inr f_21))))), (q_22, .inl (k_23, 30, .inr (.inr (.inr (.inr f_29))))), (q_25, .inr (4, [.int 0, .int 0, .int 0, .int 0, .int 0, .int 0, .int 0, .int 0, .int 0])), (q_30, .inl (k_31, 12, .inr (.inr (.inr (.inr f_32))))), (q_33, .inl (k_34, 40, .inr (.inr (.inr (.inr f_35)))))]) hH [0, 1, 2, 3, 4, 5, 6, 7, 8, 9, 10, 11] rfl rfl) (hK.sub [0, 1, 2] rfl) (Nat.le_of_ble_eq_true rfl) (Nat.le_of_ble_eq_true rfl) dX5_init_248
          have lp_35 : ∀ (n j : Nat) (f_35 : Nat → Option Nat) (pl_35 : va_W) (H : Heap) (locs : List Loc) (ls : Array Slot) (cells slots : Nat), j + n = 40 → cells + n * 3 ≤ 188 → slots + n * 12 ≤ 1632 → lv_has ls 2 [(1, .int (nI j)), (0, .ref h0)] → sj_H D A ([(h0, .inr (5, [.ref q_1, .int 0, .ref q_7, .ref q_9, .int 0, .ref q_11, .int 0, .ref q_19, .int 0, .ref q_22, .int 0, .ref q_30, .int 0, .ref q_33, .int 0, .int 0, .int 0, .null, .null])), (q_1, .inr (3, [.ref q_5, .int 0])), (q_5, .inl (k_6, 480, .inl (fun _ => 0))), (q_7, .inl (k_8, 20, .inl (fun _ => 0))), (q_9, .inl (k_10, 20, .inl (fun _ => 0))), (q_11, .inl (k_12, 5, .inr (.inr (.inr (.inr f_18))))), (q_14, .inr (4, [.int 0, .int 0, .int 0, .int 0, .int 0, .int 0, .int 0, .int 0, .int 0])), (q_19, .inl (k_20, 12, .inr (.inr (.inr (.inr f_21))))), (q_22, .inl (k_23, 30, .inr (.inr (.inr (.inr f_29))))), (q_25, .inr (4, [.int 0, .int 0, .int 0, .int 0, .int 0, .int 0, .int 0, .int 0, .int 0])), (q_30, .inl (k_31, 12, .inr (.inr (.inr (.inr f_32))))), (q_33, .inl (k_34, 40, .inr (.inr (.inr (.inr f_35)))))] ++ pl_35) H → va_S A s.heap H locs → W p l e (headSpec wsX5_init ({ frames := 2, cells := 188, slots := 1632, locals := 41 })).room s m ([.ref h0] : List Value).toArray below meth c H locs cells slots (MQ below (sj_Qv (S := Nat × Nat × Nat × Nat × Nat × Nat × Nat × Nat × Nat × Nat × Nat × ClassId × ClassId × ClassId × va_W) D (fun _ => True) (fun u => [(h0, .inr (5, [.ref u.1, .int 0, .ref u.2.1, .ref u.2.2.1, .int 0, .ref u.2.2.2.1, .int 0, .ref u.2.2.2.2.1, .int 0, .ref u.2.2.2.2.2.1, .int 0, .ref u.2.2.2.2.2.2.1, .int 0, .ref u.2.2.2.2.2.2.2.1, .int 0, .int 0, .int 0, .ref u.2.2.2.2.2.2.2.2.1, .ref u.2.2.2.2.2.2.2.2.2.1])), (u.1, .inr (3, [.ref u.2.2.2.2.2.2.2.2.2.2.1, .int 0])), (u.2.2.2.2.2.2.2.2.2.2.1, .inl (u.2.2.2.2.2.2.2.2.2.2.2.1, 480, .inl (fun _ => 0))), (u.2.1, .inl (u.2.2.2.2.2.2.2.2.2.2.2.2.1, 20, .inl (fun _ => 0))), (u.2.2.1, .inl (u.2.2.2.2.2.2.2.2.2.2.2.2.2.1, 20, .inl (fun _ => 0)))] ++ u.2.2.2.2.2.2.2.2.2.2.2.2.2.2) (fun u => [(u.2.2.2.2.2.2.2.2.2.2.2.1, .char), (u.2.2.2.2.2.2.2.2.2.2.2.2.1, .int), (u.2.2.2.2.2.2.2.2.2.2.2.2.2.1, .int)]) A) ([.ref h0] : List Value).toArray s 188 1632 A) (F0 m 200 ls []) := by
            intro n
            induction n with
            | zero =>
              intro j f_35 pl_35 H locs ls cells slots hj hck hcs hl hH hS
              obtain rfl : j = 40 := by omega
              refine lv_iload_n hx hb dX5_init_200 rfl (lv_at hl 0 rfl) ?_
              refine lv_aload_n hx hb dX5_init_201 rfl (lv_at hl 1 rfl) ?_
              refine va_get (D := D) (ci := 5) (v := .ref q_33) (C := RX5) (T := TX5) (N := 19) hx hb hts in5 hown hK hH.1 0 rfl rfl 13 (by decide) wd23 (fun _ h9 => h9) rfl dX5_init_202 ?_
              refine va_alen hx hb hK hH.1 11 7 rfl rfl (v := 40) rfl dX5_init_205 ?_
              refine lv_icmp_ge (tgt := 228) hx hb dX5_init_206 (by decide) (fun _ => ?_) (fun h => absurd (by decide) h)
              exact after_35 f_35 pl_35 H locs ls cells slots (by omega) (by omega) hl hH hS
            | succ n ih =>
              intro j f_35 pl_35 H locs ls cells slots hj hck hcs hl hH hS
              have hjn : j < 40 := by omega
              refine lv_iload_n hx hb dX5_init_200 rfl (lv_at hl 0 rfl) ?_
              refine lv_aload_n hx hb dX5_init_201 rfl (lv_at hl 1 rfl) ?_
              refine va_get (D := D) (ci := 5) (v := .ref q_33) (C := RX5) (T := TX5) (N := 19) hx hb hts in5 hown hK hH.1 0 rfl rfl 13 (by decide) wd23 (fun _ h9 => h9) rfl dX5_init_202 ?_
              refine va_alen hx hb hK hH.1 11 7 rfl rfl (v := 40) rfl dX5_init_205 ?_
              refine lv_icmp_ge (tgt := 228) hx hb dX5_init_206 (by decide) (fun h => absurd h (nI_ge hjn (by decide))) (fun _ => ?_)
              refine lv_aload_n hx hb dX5_init_209 rfl (lv_at hl 1 rfl) ?_
              refine va_get (D := D) (ci := 5) (v := .ref q_33) (C := RX5) (T := TX5) (N := 19) hx hb hts in5 hown hK hH.1 0 rfl rfl 13 (by decide) wd23 (fun _ h9 => h9) rfl dX5_init_210 ?_
              refine lv_iload_n hx hb dX5_init_213 rfl (lv_at hl 0 rfl) ?_
              refine sj_new (ci := 6) (fs := [.null, .null, .int 0, .int 0]) (C := RX6) (F := TX6) (N := 4) hx hb hts in6 tyX6 tyX6_ok hown wd21 wd26 wd27 hK hH hS hA rfl sj_df6 rfl rfl (Nat.le_trans (m := 188) (by omega) (Nat.le_of_ble_eq_true rfl)) (Nat.le_trans (m := 1632) (by omega) (Nat.le_of_ble_eq_true rfl)) dX5_init_214 (fun q_38 H hH hS => ?_)
              have hH : sj_H D A ([(h0, .inr (5, [.ref q_1, .int 0, .ref q_7, .ref q_9, .int 0, .ref q_11, .int 0, .ref q_19, .int 0, .ref q_22, .int 0, .ref q_30, .int 0, .ref q_33, .int 0, .int 0, .int 0, .null, .null])), (q_1, .inr (3, [.ref q_5, .int 0])), (q_5, .inl (k_6, 480, .inl (fun _ => 0))), (q_7, .inl (k_8, 20, .inl (fun _ => 0))), (q_9, .inl (k_10, 20, .inl (fun _ => 0))), (q_11, .inl (k_12, 5, .inr (.inr (.inr (.inr f_18))))), (q_14, .inr (4, [.int 0, .int 0, .int 0, .int 0, .int 0, .int 0, .int 0, .int 0, .int 0])), (q_19, .inl (k_20, 12, .inr (.inr (.inr (.inr f_21))))), (q_22, .inl (k_23, 30, .inr (.inr (.inr (.inr f_29))))), (q_25, .inr (4, [.int 0, .int 0, .int 0, .int 0, .int 0, .int 0, .int 0, .int 0, .int 0])), (q_30, .inl (k_31, 12, .inr (.inr (.inr (.inr f_32))))), (q_33, .inl (k_34, 40, .inr (.inr (.inr (.inr f_35))))), (q_38, .inr (6, [.null, .null, .int 0, .int 0]))] ++ pl_35) H := hH
              refine lv_dup hx hb dX5_init_217 rfl ?_
              refine sj_callv (wr := [(h0, .inr (5, [.ref q_1, .int 0, .ref q_7, .ref q_9, .int 0, .ref q_11, .int 0, .ref q_19, .int 0, .ref q_22, .int 0, .ref q_30, .int 0, .ref q_33, .int 0, .int 0, .int 0, .null, .null])), (q_1, .inr (3, [.ref q_5, .int 0])), (q_5, .inl (k_6, 480, .inl (fun _ => 0))), (q_7, .inl (k_8, 20, .inl (fun _ => 0))), (q_9, .inl (k_10, 20, .inl (fun _ => 0))), (q_11, .inl (k_12, 5, .inr (.inr (.inr (.inr f_18))))), (q_14, .inr (4, [.int 0, .int 0, .int 0, .int 0, .int 0, .int 0, .int 0, .int 0, .int 0])), (q_19, .inl (k_20, 12, .inr (.inr (.inr (.inr f_21))))), (q_22, .inl (k_23, 30, .inr (.inr (.inr (.inr f_29))))), (q_25, .inr (4, [.int 0, .int 0, .int 0, .int 0, .int 0, .int 0, .int 0, .int 0, .int 0])), (q_30, .inl (k_31, 12, .inr (.inr (.inr (.inr f_32))))), (q_33, .inl (k_34, 40, .inr (.inr (.inr (.inr f_35)))))]) (va_runI (As := []) (rest := [.ref q_38, .int (nI j), .ref q_33]) ⟨hx, hb, hml, hown, hts⟩ (c_X6_init l D q_38 H.size) (cwI 0 hts gX5_init_X6_init rfl rfl rfl wd27 wd28 wd29 rfl (by decide +kernel) ⟨(Nat.le_of_ble_eq_true rfl), (Nat.le_of_ble_eq_true rfl)⟩) (sj_preS hH hK [12] rfl rfl [] rfl sj_bln sj_exn) rfl rfl hl.1 rfl (lv_room (Nat.le_of_ble_eq_true rfl)) dX5_init_218 ⟨(Nat.le_trans (m := 188) (by omega) (Nat.le_of_ble_eq_true rfl)), (Nat.le_trans (m := 1632) (by omega) (Nat.le_of_ble_eq_true rfl))⟩) hH hK hS hA [12] [0, 1, 2, 3, 4, 5, 6, 7, 8, 9, 10, 11] rfl rfl rfl rfl (by decide) rfl rfl (fun u_40 H locs hw_41 hH hK hS => ?_)
              obtain ⟨q_42, q_43, pl_44⟩ := u_40
              have hH : sj_H D A (([(h0, .inr (5, [.ref q_1, .int 0, .ref q_7, .ref q_9, .int 0, .ref q_11, .int 0, .ref q_19, .int 0, .ref q_22, .int 0, .ref q_30, .int 0, .ref q_33, .int 0, .int 0, .int 0, .null, .null])), (q_1, .inr (3, [.ref q_5, .int 0])), (q_5, .inl (k_6, 480, .inl (fun _ => 0))), (q_7, .inl (k_8, 20, .inl (fun _ => 0))), (q_9, .inl (k_10, 20, .inl (fun _ => 0))), (q_11, .inl (k_12, 5, .inr (.inr (.inr (.inr f_18))))), (q_14, .inr (4, [.int 0, .int 0, .int 0, .int 0, .int 0, .int 0, .int 0, .int 0, .int 0])), (q_19, .inl (k_20, 12, .inr (.inr (.inr (.inr f_21))))), (q_22, .inl (k_23, 30, .inr (.inr (.inr (.inr f_29))))), (q_25, .inr (4, [.int 0, .int 0, .int 0, .int 0, .int 0, .int 0, .int 0, .int 0, .int 0])), (q_30, .inl (k_31, 12, .inr (.inr (.inr (.inr f_32))))), (q_33, .inl (k_34, 40, .inr (.inr (.inr (.inr f_35)))))] ++ ([(q_38, .inr (6, [.ref q_42, .ref q_43, .int 0, .int 0]))] ++ pl_44)) ++ pl_35) H := hH
              have hH : sj_H D A ([(h0, .inr (5, [.ref q_1, .int 0, .ref q_7, .ref q_9, .int 0, .ref q_11, .int 0, .ref q_19, .int 0, .ref q_22, .int 0, .ref q_30, .int 0, .ref q_33, .int 0, .int 0, .int 0, .null, .null])), (q_1, .inr (3, [.ref q_5, .int 0])), (q_5, .inl (k_6, 480, .inl (fun _ => 0))), (q_7, .inl (k_8, 20, .inl (fun _ => 0))), (q_9, .inl (k_10, 20, .inl (fun _ => 0))), (q_11, .inl (k_12, 5, .inr (.inr (.inr (.inr f_18))))), (q_14, .inr (4, [.int 0, .int 0, .int 0, .int 0, .int 0, .int 0, .int 0, .int 0, .int 0])), (q_19, .inl (k_20, 12, .inr (.inr (.inr (.inr f_21))))), (q_22, .inl (k_23, 30, .inr (.inr (.inr (.inr f_29))))), (q_25, .inr (4, [.int 0, .int 0, .int 0, .int 0, .int 0, .int 0, .int 0, .int 0, .int 0])), (q_30, .inl (k_31, 12, .inr (.inr (.inr (.inr f_32))))), (q_33, .inl (k_34, 40, .inr (.inr (.inr (.inr f_35))))), (q_38, .inr (6, [.ref q_42, .ref q_43, .int 0, .int 0]))] ++ (pl_44 ++ pl_35)) H := sj_as hH
              generalize pl_44 ++ pl_35 = pl_45 at hH
              have hK : va_K D vwCl [(k_6, .char), (k_8, .int), (k_10, .int), (k_12, .object RX4), (k_20, .object RX4), (k_23, .object RX4), (k_31, .object RX4), (k_34, .object RX6)] s := by simpa using hK
              refine sj_astq hx hb hK hH hS 11 7 12 6 rfl rfl rfl rfl (vp_in_nI hjn (by decide)) dX5_init_221 (fun H locs hH hS => ?_)
              have hH : sj_H D A ([(h0, .inr (5, [.ref q_1, .int 0, .ref q_7, .ref q_9, .int 0, .ref q_11, .int 0, .ref q_19, .int 0, .ref q_22, .int 0, .ref q_30, .int 0, .ref q_33, .int 0, .int 0, .int 0, .null, .null])), (q_1, .inr (3, [.ref q_5, .int 0])), (q_5, .inl (k_6, 480, .inl (fun _ => 0))), (q_7, .inl (k_8, 20, .inl (fun _ => 0))), (q_9, .inl (k_10, 20, .inl (fun _ => 0))), (q_11, .inl (k_12, 5, .inr (.inr (.inr (.inr f_18))))), (q_14, .inr (4, [.int 0, .int 0, .int 0, .int 0, .int 0, .int 0, .int 0, .int 0, .int 0])), (q_19, .inl (k_20, 12, .inr (.inr (.inr (.inr f_21))))), (q_22, .inl (k_23, 30, .inr (.inr (.inr (.inr f_29))))), (q_25, .inr (4, [.int 0, .int 0, .int 0, .int 0, .int 0, .int 0, .int 0, .int 0, .int 0])), (q_30, .inl (k_31, 12, .inr (.inr (.inr (.inr f_32))))), (q_33, .inl (k_34, 40, .inr (.inr (.inr (.inr (va_up f_35 (nI j).toNatClampNeg (some q_38))))))), (q_38, .inr (6, [.ref q_42, .ref q_43, .int 0, .int 0]))] ++ pl_45) H := hH
              refine lv_iinc (v := (nI (j + 1))) (lv' := [(1, .int (nI (j + 1))), (0, .ref h0)]) hx hb dX5_init_222 hl (k := 0) rfl (by rw [nI_succ]; rfl) (by decide) rfl (fun ls hl => ?_)
              refine lv_goto (tgt := 200) hx hb dX5_init_225 (by decide) ?_
              exact ih (j + 1) _ _ _ _ _ _ _ (by omega) (by omega) (by omega) (lv_sub hl [0, 1] rfl) (sj_hide (c1 := [(h0, .inr (5, [.ref q_1, .int 0, .ref q_7, .ref q_9, .int 0, .ref q_11, .int 0, .ref q_19, .int 0, .ref q_22, .int 0, .ref q_30, .int 0, .ref q_33, .int 0, .int 0, .int 0, .null, .null])), (q_1, .inr (3, [.ref q_5, .int 0])), (q_5, .inl (k_6, 480, .inl (fun _ => 0))), (q_7, .inl (k_8, 20, .inl (fun _ => 0))), (q_9, .inl (k_10, 20, .inl (fun _ => 0))), (q_11, .inl (k_12, 5, .inr (.inr (.inr (.inr f_18))))), (q_14, .inr (4, [.int 0, .int 0, .int 0, .int 0, .int 0, .int 0, .int 0, .int 0, .int 0])), (q_19, .inl (k_20, 12, .inr (.inr (.inr (.inr f_21))))), (q_22, .inl (k_23, 30, .inr (.inr (.inr (.inr f_29))))), (q_25, .inr (4, [.int 0, .int 0, .int 0, .int 0, .int 0, .int 0, .int 0, .int 0, .int 0])), (q_30, .inl (k_31, 12, .inr (.inr (.inr (.inr f_32))))), (q_33, .inl (k_34, 40, .inr (.inr (.inr (.inr (va_up f_35 (nI j).toNatClampNeg (some q_38)))))))]) (c2 := [(q_38, .inr (6, [.ref q_42, .ref q_43, .int 0, .int 0]))]) hH [0, 1, 2, 3, 4, 5, 6, 7, 8, 9, 10, 11, 12] rfl rfl) hS
          exact lp_35 40 0 _ _ _ _ _ _ _ (by omega) (by omega) (by omega)  hl hH hS
        have lp_32 : ∀ (n j : Nat) (f_32 : Nat → Option Nat) (pl_32 : va_W) (H : Heap) (locs : List Loc) (ls : Array Slot) (cells slots : Nat), j + n = 12 → cells + n * 1 ≤ 67 → slots + n * 9 ≤ 1112 → lv_has ls 2 [(1, .int (nI j)), (0, .ref h0)] → sj_H D A ([(h0, .inr (5, [.ref q_1, .int 0, .ref q_7, .ref q_9, .int 0, .ref q_11, .int 0, .ref q_19, .int 0, .ref q_22, .int 0, .ref q_30, .int 0, .null, .int 0, .int 0, .int 0, .null, .null])), (q_1, .inr (3, [.ref q_5, .int 0])), (q_5, .inl (k_6, 480, .inl (fun _ => 0))), (q_7, .inl (k_8, 20, .inl (fun _ => 0))), (q_9, .inl (k_10, 20, .inl (fun _ => 0))), (q_11, .inl (k_12, 5, .inr (.inr (.inr (.inr f_18))))), (q_14, .inr (4, [.int 0, .int 0, .int 0, .int 0, .int 0, .int 0, .int 0, .int 0, .int 0])), (q_19, .inl (k_20, 12, .inr (.inr (.inr (.inr f_21))))), (q_22, .inl (k_23, 30, .inr (.inr (.inr (.inr f_29))))), (q_25, .inr (4, [.int 0, .int 0, .int 0, .int 0, .int 0, .int 0, .int 0, .int 0, .int 0])), (q_30, .inl (k_31, 12, .inr (.inr (.inr (.inr f_32)))))] ++ pl_32) H → va_S A s.heap H locs → W p l e (headSpec wsX5_init ({ frames := 2, cells := 188, slots := 1632, locals := 41 })).room s m ([.ref h0] : List Value).toArray below meth c H locs cells slots (MQ below (sj_Qv (S := Nat × Nat × Nat × Nat × Nat × Nat × Nat × Nat × Nat × Nat × Nat × ClassId × ClassId × ClassId × va_W) D (fun _ => True) (fun u => [(h0, .inr (5, [.ref u.1, .int 0, .ref u.2.1, .ref u.2.2.1, .int 0, .ref u.2.2.2.1, .int 0, .ref u.2.2.2.2.1, .int 0, .ref u.2.2.2.2.2.1, .int 0, .ref u.2.2.2.2.2.2.1, .int 0, .ref u.2.2.2.2.2.2.2.1, .int 0, .int 0, .int 0, .ref u.2.2.2.2.2.2.2.2.1, .ref u.2.2.2.2.2.2.2.2.2.1])), (u.1, .inr (3, [.ref u.2.2.2.2.2.2.2.2.2.2.1, .int 0])), (u.2.2.2.2.2.2.2.2.2.2.1, .inl (u.2.2.2.2.2.2.2.2.2.2.2.1, 480, .inl (fun _ => 0))), (u.2.1, .inl (u.2.2.2.2.2.2.2.2.2.2.2.2.1, 20, .inl (fun _ => 0))), (u.2.2.1, .inl (u.2.2.2.2.2.2.2.2.2.2.2.2.2.1, 20, .inl (fun _ => 0)))] ++ u.2.2.2.2.2.2.2.2.2.2.2.2.2.2) (fun u => [(u.2.2.2.2.2.2.2.2.2.2.2.1, .char), (u.2.2.2.2.2.2.2.2.2.2.2.2.1, .int), (u.2.2.2.2.2.2.2.2.2.2.2.2.2.1, .int)]) A) ([.ref h0] : List Value).toArray s 188 1632 A) (F0 m 161 ls []) := by
          intro n
          induction n with
          | zero =>
            intro j f_32 pl_32 H locs ls cells slots hj hck hcs hl hH hS
            obtain rfl : j = 12 := by omega
            refine lv_iload_n hx hb dX5_init_161 rfl (lv_at hl 0 rfl) ?_
            refine lv_aload_n hx hb dX5_init_162 rfl (lv_at hl 1 rfl) ?_
            refine va_get (D := D) (ci := 5) (v := .ref q_30) (C := RX5) (T := TX5) (N := 19) hx hb hts in5 hown hK hH.1 0 rfl rfl 11 (by decide) wd20 (fun _ h9 => h9) rfl dX5_init_163 ?_
            refine va_alen hx hb hK hH.1 10 6 rfl rfl (v := 12) rfl dX5_init_166 ?_
            refine lv_icmp_ge (tgt := 189) hx hb dX5_init_167 (by decide) (fun _ => ?_) (fun h => absurd (by decide) h)
            exact after_32 f_32 pl_32 H locs ls cells slots (by omega) (by omega) hl hH hS
          | succ n ih =>
            intro j f_32 pl_32 H locs ls cells slots hj hck hcs hl hH hS
            have hjn : j < 12 := by omega
            refine lv_iload_n hx hb dX5_init_161 rfl (lv_at hl 0 rfl) ?_
            refine lv_aload_n hx hb dX5_init_162 rfl (lv_at hl 1 rfl) ?_
            refine va_get (D := D) (ci := 5) (v := .ref q_30) (C := RX5) (T := TX5) (N := 19) hx hb hts in5 hown hK hH.1 0 rfl rfl 11 (by decide) wd20 (fun _ h9 => h9) rfl dX5_init_163 ?_
            refine va_alen hx hb hK hH.1 10 6 rfl rfl (v := 12) rfl dX5_init_166 ?_
            refine lv_icmp_ge (tgt := 189) hx hb dX5_init_167 (by decide) (fun h => absurd h (nI_ge hjn (by decide))) (fun _ => ?_)
            refine lv_aload_n hx hb dX5_init_170 rfl (lv_at hl 1 rfl) ?_
            refine va_get (D := D) (ci := 5) (v := .ref q_30) (C := RX5) (T := TX5) (N := 19) hx hb hts in5 hown hK hH.1 0 rfl rfl 11 (by decide) wd20 (fun _ h9 => h9) rfl dX5_init_171 ?_
            refine lv_iload_n hx hb dX5_init_174 rfl (lv_at hl 0 rfl) ?_
            refine sj_new (ci := 4) (fs := [.int 0, .int 0, .int 0, .int 0, .int 0, .int 0, .int 0, .int 0, .int 0]) (C := RX4) (F := TX4) (N := 9) hx hb hts in4 tyX4 tyX4_ok hown wd12 wd15 wd16 hK hH hS hA rfl sj_df4 rfl rfl (Nat.le_trans (m := 67) (by omega) (Nat.le_of_ble_eq_true rfl)) (Nat.le_trans (m := 1112) (by omega) (Nat.le_of_ble_eq_true rfl)) dX5_init_175 (fun q_48 H hH hS => ?_)
            have hH : sj_H D A ([(h0, .inr (5, [.ref q_1, .int 0, .ref q_7, .ref q_9, .int 0, .ref q_11, .int 0, .ref q_19, .int 0, .ref q_22, .int 0, .ref q_30, .int 0, .null, .int 0, .int 0, .int 0, .null, .null])), (q_1, .inr (3, [.ref q_5, .int 0])), (q_5, .inl (k_6, 480, .inl (fun _ => 0))), (q_7, .inl (k_8, 20, .inl (fun _ => 0))), (q_9, .inl (k_10, 20, .inl (fun _ => 0))), (q_11, .inl (k_12, 5, .inr (.inr (.inr (.inr f_18))))), (q_14, .inr (4, [.int 0, .int 0, .int 0, .int 0, .int 0, .int 0, .int 0, .int 0, .int 0])), (q_19, .inl (k_20, 12, .inr (.inr (.inr (.inr f_21))))), (q_22, .inl (k_23, 30, .inr (.inr (.inr (.inr f_29))))), (q_25, .inr (4, [.int 0, .int 0, .int 0, .int 0, .int 0, .int 0, .int 0, .int 0, .int 0])), (q_30, .inl (k_31, 12, .inr (.inr (.inr (.inr f_32))))), (q_48, .inr (4, [.int 0, .int 0, .int 0, .int 0, .int 0, .int 0, .int 0, .int 0, .int 0]))] ++ pl_32) H := hH
            refine lv_dup hx hb dX5_init_178 rfl ?_
            refine sj_callv (wr := [(h0, .inr (5, [.ref q_1, .int 0, .ref q_7, .ref q_9, .int 0, .ref q_11, .int 0, .ref q_19, .int 0, .ref q_22, .int 0, .ref q_30, .int 0, .null, .int 0, .int 0, .int 0, .null, .null])), (q_1, .inr (3, [.ref q_5, .int 0])), (q_5, .inl (k_6, 480, .inl (fun _ => 0))), (q_7, .inl (k_8, 20, .inl (fun _ => 0))), (q_9, .inl (k_10, 20, .inl (fun _ => 0))), (q_11, .inl (k_12, 5, .inr (.inr (.inr (.inr f_18))))), (q_14, .inr (4, [.int 0, .int 0, .int 0, .int 0, .int 0, .int 0, .int 0, .int 0, .int 0])), (q_19, .inl (k_20, 12, .inr (.inr (.inr (.inr f_21))))), (q_22, .inl (k_23, 30, .inr (.inr (.inr (.inr f_29))))), (q_25, .inr (4, [.int 0, .int 0, .int 0, .int 0, .int 0, .int 0, .int 0, .int 0, .int 0])), (q_30, .inl (k_31, 12, .inr (.inr (.inr (.inr f_32)))))]) (va_runIN (As := []) (rest := [.ref q_48, .int (nI j), .ref q_30]) ⟨hx, hb, hml, hown, hts⟩ (c_X4_init l D q_48 H.size) ⟨(va_cnB 0 hts gX5_init_X4_init_n33 rfl rfl rfl hE.2.2.2.2.2.2.2 wd16 (by decide +kernel) ⟨(Nat.le_of_ble_eq_true rfl), (Nat.le_of_ble_eq_true rfl)⟩), rfl, wd17⟩ (sj_preS hH hK [11] rfl rfl [] rfl sj_bln sj_exn) rfl rfl hl.1 rfl (lv_room (Nat.le_of_ble_eq_true rfl)) dX5_init_179 ⟨(Nat.le_trans (m := 67) (by omega) (Nat.le_of_ble_eq_true rfl)), (Nat.le_trans (m := 1112) (by omega) (Nat.le_of_ble_eq_true rfl))⟩) hH hK hS hA [11] [0, 1, 2, 3, 4, 5, 6, 7, 8, 9, 10] rfl rfl rfl rfl (by decide) rfl rfl (fun u_50 H locs hw_51 hH hK hS => ?_)
            have hH : sj_H D A ([(h0, .inr (5, [.ref q_1, .int 0, .ref q_7, .ref q_9, .int 0, .ref q_11, .int 0, .ref q_19, .int 0, .ref q_22, .int 0, .ref q_30, .int 0, .null, .int 0, .int 0, .int 0, .null, .null])), (q_1, .inr (3, [.ref q_5, .int 0])), (q_5, .inl (k_6, 480, .inl (fun _ => 0))), (q_7, .inl (k_8, 20, .inl (fun _ => 0))), (q_9, .inl (k_10, 20, .inl (fun _ => 0))), (q_11, .inl (k_12, 5, .inr (.inr (.inr (.inr f_18))))), (q_14, .inr (4, [.int 0, .int 0, .int 0, .int 0, .int 0, .int 0, .int 0, .int 0, .int 0])), (q_19, .inl (k_20, 12, .inr (.inr (.inr (.inr f_21))))), (q_22, .inl (k_23, 30, .inr (.inr (.inr (.inr f_29))))), (q_25, .inr (4, [.int 0, .int 0, .int 0, .int 0, .int 0, .int 0, .int 0, .int 0, .int 0])), (q_30, .inl (k_31, 12, .inr (.inr (.inr (.inr f_32))))), (q_48, .inr (4, [.int 0, .int 0, .int 0, .int 0, .int 0, .int 0, .int 0, .int 0, .int 0]))] ++ pl_32) H := hH
            have hK : va_K D vwCl [(k_6, .char), (k_8, .int), (k_10, .int), (k_12, .object RX4), (k_20, .object RX4), (k_23, .object RX4), (k_31, .object RX4)] s := by simpa using hK
            refine sj_astq hx hb hK hH hS 10 6 11 4 rfl rfl rfl rfl (vp_in_nI hjn (by decide)) dX5_init_182 (fun H locs hH hS => ?_)
            have hH : sj_H D A ([(h0, .inr (5, [.ref q_1, .int 0, .ref q_7, .ref q_9, .int 0, .ref q_11, .int 0, .ref q_19, .int 0, .ref q_22, .int 0, .ref q_30, .int 0, .null, .int 0, .int 0, .int 0, .null, .null])), (q_1, .inr (3, [.ref q_5, .int 0])), (q_5, .inl (k_6, 480, .inl (fun _ => 0))), (q_7, .inl (k_8, 20, .inl (fun _ => 0))), (q_9, .inl (k_10, 20, .inl (fun _ => 0))), (q_11, .inl (k_12, 5, .inr (.inr (.inr (.inr f_18))))), (q_14, .inr (4, [.int 0, .int 0, .int 0, .int 0, .int 0, .int 0, .int 0, .int 0, .int 0])), (q_19, .inl (k_20, 12, .inr (.inr (.inr (.inr f_21))))), (q_22, .inl (k_23, 30, .inr (.inr (.inr (.inr f_29))))), (q_25, .inr (4, [.int 0, .int 0, .int 0, .int 0, .int 0, .int 0, .int 0, .int 0, .int 0])), (q_30, .inl (k_31, 12, .inr (.inr (.inr (.inr (va_up f_32 (nI j).toNatClampNeg (some q_48))))))), (q_48, .inr (4, [.int 0, .int 0, .int 0, .int 0, .int 0, .int 0, .int 0, .int 0, .int 0]))] ++ pl_32) H := hH
            refine lv_iinc (v := (nI (j + 1))) (lv' := [(1, .int (nI (j + 1))), (0, .ref h0)]) hx hb dX5_init_183 hl (k := 0) rfl (by rw [nI_succ]; rfl) (by decide) rfl (fun ls hl => ?_)
            refine lv_goto (tgt := 161) hx hb dX5_init_186 (by decide) ?_
            exact ih (j + 1) _ _ _ _ _ _ _ (by omega) (by omega) (by omega) (lv_sub hl [0, 1] rfl) (sj_hide (c1 := [(h0, .inr (5, [.ref q_1, .int 0, .ref q_7, .ref q_9, .int 0, .ref q_11, .int 0, .ref q_19, .int 0, .ref q_22, .int 0, .ref q_30, .int 0, .null, .int 0, .int 0, .int 0, .null, .null])), (q_1, .inr (3, [.ref q_5, .int 0])), (q_5, .inl (k_6, 480, .inl (fun _ => 0))), (q_7, .inl (k_8, 20, .inl (fun _ => 0))), (q_9, .inl (k_10, 20, .inl (fun _ => 0))), (q_11, .inl (k_12, 5, .inr (.inr (.inr (.inr f_18))))), (q_14, .inr (4, [.int 0, .int 0, .int 0, .int 0, .int 0, .int 0, .int 0, .int 0, .int 0])), (q_19, .inl (k_20, 12, .inr (.inr (.inr (.inr f_21))))), (q_22, .inl (k_23, 30, .inr (.inr (.inr (.inr f_29))))), (q_25, .inr (4, [.int 0, .int 0, .int 0, .int 0, .int 0, .int 0, .int 0, .int 0, .int 0])), (q_30, .inl (k_31, 12, .inr (.inr (.inr (.inr (va_up f_32 (nI j).toNatClampNeg (some q_48)))))))]) (c2 := [(q_48, .inr (4, [.int 0, .int 0, .int 0, .int 0, .int 0, .int 0, .int 0, .int 0, .int 0]))]) hH [0, 1, 2, 3, 4, 5, 6, 7, 8, 9, 10, 11] rfl rfl) hS
        exact lp_32 12 0 _ _ _ _ _ _ _ (by omega) (by omega) (by omega)  hl hH hS
      have lp_29 : ∀ (n j : Nat) (f_29 : Nat → Option Nat) (pl_29 : va_W) (H : Heap) (locs : List Loc) (ls : Array Slot) (cells slots : Nat), j + n = 30 → 1 ≤ j → cells + n * 1 ≤ 54 → slots + n * 9 ≤ 992 → f_29 0 = some q_25 → lv_has ls 2 [(1, .int (nI j)), (0, .ref h0)] → sj_H D A ([(h0, .inr (5, [.ref q_1, .int 0, .ref q_7, .ref q_9, .int 0, .ref q_11, .int 0, .ref q_19, .int 0, .ref q_22, .int 0, .null, .int 0, .null, .int 0, .int 0, .int 0, .null, .null])), (q_1, .inr (3, [.ref q_5, .int 0])), (q_5, .inl (k_6, 480, .inl (fun _ => 0))), (q_7, .inl (k_8, 20, .inl (fun _ => 0))), (q_9, .inl (k_10, 20, .inl (fun _ => 0))), (q_11, .inl (k_12, 5, .inr (.inr (.inr (.inr f_18))))), (q_14, .inr (4, [.int 0, .int 0, .int 0, .int 0, .int 0, .int 0, .int 0, .int 0, .int 0])), (q_19, .inl (k_20, 12, .inr (.inr (.inr (.inr f_21))))), (q_22, .inl (k_23, 30, .inr (.inr (.inr (.inr f_29))))), (q_25, .inr (4, [.int 0, .int 0, .int 0, .int 0, .int 0, .int 0, .int 0, .int 0, .int 0]))] ++ pl_29) H → va_S A s.heap H locs → W p l e (headSpec wsX5_init ({ frames := 2, cells := 188, slots := 1632, locals := 41 })).room s m ([.ref h0] : List Value).toArray below meth c H locs cells slots (MQ below (sj_Qv (S := Nat × Nat × Nat × Nat × Nat × Nat × Nat × Nat × Nat × Nat × Nat × ClassId × ClassId × ClassId × va_W) D (fun _ => True) (fun u => [(h0, .inr (5, [.ref u.1, .int 0, .ref u.2.1, .ref u.2.2.1, .int 0, .ref u.2.2.2.1, .int 0, .ref u.2.2.2.2.1, .int 0, .ref u.2.2.2.2.2.1, .int 0, .ref u.2.2.2.2.2.2.1, .int 0, .ref u.2.2.2.2.2.2.2.1, .int 0, .int 0, .int 0, .ref u.2.2.2.2.2.2.2.2.1, .ref u.2.2.2.2.2.2.2.2.2.1])), (u.1, .inr (3, [.ref u.2.2.2.2.2.2.2.2.2.2.1, .int 0])), (u.2.2.2.2.2.2.2.2.2.2.1, .inl (u.2.2.2.2.2.2.2.2.2.2.2.1, 480, .inl (fun _ => 0))), (u.2.1, .inl (u.2.2.2.2.2.2.2.2.2.2.2.2.1, 20, .inl (fun _ => 0))), (u.2.2.1, .inl (u.2.2.2.2.2.2.2.2.2.2.2.2.2.1, 20, .inl (fun _ => 0)))] ++ u.2.2.2.2.2.2.2.2.2.2.2.2.2.2) (fun u => [(u.2.2.2.2.2.2.2.2.2.2.2.1, .char), (u.2.2.2.2.2.2.2.2.2.2.2.2.1, .int), (u.2.2.2.2.2.2.2.2.2.2.2.2.2.1, .int)]) A) ([.ref h0] : List Value).toArray s 188 1632 A) (F0 m 122 ls []) := by
        intro n
        induction n with
        | zero =>
          intro j f_29 pl_29 H locs ls cells slots hj h1j hck hcs hf_29 hl hH hS
          obtain rfl : j = 30 := by omega
          refine lv_iload_n hx hb dX5_init_122 rfl (lv_at hl 0 rfl) ?_
          refine lv_aload_n hx hb dX5_init_123 rfl (lv_at hl 1 rfl) ?_
          refine va_get (D := D) (ci := 5) (v := .ref q_22) (C := RX5) (T := TX5) (N := 19) hx hb hts in5 hown hK hH.1 0 rfl rfl 9 (by decide) wd19 (fun _ h9 => h9) rfl dX5_init_124 ?_
          refine va_alen hx hb hK hH.1 8 5 rfl rfl (v := 30) rfl dX5_init_127 ?_
          refine lv_icmp_ge (tgt := 150) hx hb dX5_init_128 (by decide) (fun _ => ?_) (fun h => absurd (by decide) h)
          exact after_29 f_29 pl_29 H locs ls cells slots hf_29 (by omega) (by omega) hl hH hS
        | succ n ih =>
          intro j f_29 pl_29 H locs ls cells slots hj h1j hck hcs hf_29 hl hH hS
          have hjn : j < 30 := by omega
          refine lv_iload_n hx hb dX5_init_122 rfl (lv_at hl 0 rfl) ?_
          refine lv_aload_n hx hb dX5_init_123 rfl (lv_at hl 1 rfl) ?_
          refine va_get (D := D) (ci := 5) (v := .ref q_22) (C := RX5) (T := TX5) (N := 19) hx hb hts in5 hown hK hH.1 0 rfl rfl 9 (by decide) wd19 (fun _ h9 => h9) rfl dX5_init_124 ?_
          refine va_alen hx hb hK hH.1 8 5 rfl rfl (v := 30) rfl dX5_init_127 ?_
          refine lv_icmp_ge (tgt := 150) hx hb dX5_init_128 (by decide) (fun h => absurd h (nI_ge hjn (by decide))) (fun _ => ?_)
          refine lv_aload_n hx hb dX5_init_131 rfl (lv_at hl 1 rfl) ?_
          refine va_get (D := D) (ci := 5) (v := .ref q_22) (C := RX5) (T := TX5) (N := 19) hx hb hts in5 hown hK hH.1 0 rfl rfl 9 (by decide) wd19 (fun _ h9 => h9) rfl dX5_init_132 ?_
          refine lv_iload_n hx hb dX5_init_135 rfl (lv_at hl 0 rfl) ?_
          refine sj_new (ci := 4) (fs := [.int 0, .int 0, .int 0, .int 0, .int 0, .int 0, .int 0, .int 0, .int 0]) (C := RX4) (F := TX4) (N := 9) hx hb hts in4 tyX4 tyX4_ok hown wd12 wd15 wd16 hK hH hS hA rfl sj_df4 rfl rfl (Nat.le_trans (m := 54) (by omega) (Nat.le_of_ble_eq_true rfl)) (Nat.le_trans (m := 992) (by omega) (Nat.le_of_ble_eq_true rfl)) dX5_init_136 (fun q_54 H hH hS => ?_)
          have hH : sj_H D A ([(h0, .inr (5, [.ref q_1, .int 0, .ref q_7, .ref q_9, .int 0, .ref q_11, .int 0, .ref q_19, .int 0, .ref q_22, .int 0, .null, .int 0, .null, .int 0, .int 0, .int 0, .null, .null])), (q_1, .inr (3, [.ref q_5, .int 0])), (q_5, .inl (k_6, 480, .inl (fun _ => 0))), (q_7, .inl (k_8, 20, .inl (fun _ => 0))), (q_9, .inl (k_10, 20, .inl (fun _ => 0))), (q_11, .inl (k_12, 5, .inr (.inr (.inr (.inr f_18))))), (q_14, .inr (4, [.int 0, .int 0, .int 0, .int 0, .int 0, .int 0, .int 0, .int 0, .int 0])), (q_19, .inl (k_20, 12, .inr (.inr (.inr (.inr f_21))))), (q_22, .inl (k_23, 30, .inr (.inr (.inr (.inr f_29))))), (q_25, .inr (4, [.int 0, .int 0, .int 0, .int 0, .int 0, .int 0, .int 0, .int 0, .int 0])), (q_54, .inr (4, [.int 0, .int 0, .int 0, .int 0, .int 0, .int 0, .int 0, .int 0, .int 0]))] ++ pl_29) H := hH
          refine lv_dup hx hb dX5_init_139 rfl ?_
          refine sj_callv (wr := [(h0, .inr (5, [.ref q_1, .int 0, .ref q_7, .ref q_9, .int 0, .ref q_11, .int 0, .ref q_19, .int 0, .ref q_22, .int 0, .null, .int 0, .null, .int 0, .int 0, .int 0, .null, .null])), (q_1, .inr (3, [.ref q_5, .int 0])), (q_5, .inl (k_6, 480, .inl (fun _ => 0))), (q_7, .inl (k_8, 20, .inl (fun _ => 0))), (q_9, .inl (k_10, 20, .inl (fun _ => 0))), (q_11, .inl (k_12, 5, .inr (.inr (.inr (.inr f_18))))), (q_14, .inr (4, [.int 0, .int 0, .int 0, .int 0, .int 0, .int 0, .int 0, .int 0, .int 0])), (q_19, .inl (k_20, 12, .inr (.inr (.inr (.inr f_21))))), (q_22, .inl (k_23, 30, .inr (.inr (.inr (.inr f_29))))), (q_25, .inr (4, [.int 0, .int 0, .int 0, .int 0, .int 0, .int 0, .int 0, .int 0, .int 0]))]) (va_runIN (As := []) (rest := [.ref q_54, .int (nI j), .ref q_22]) ⟨hx, hb, hml, hown, hts⟩ (c_X4_init l D q_54 H.size) ⟨(va_cnB 0 hts gX5_init_X4_init_n33 rfl rfl rfl hE.2.2.2.2.2.2.2 wd16 (by decide +kernel) ⟨(Nat.le_of_ble_eq_true rfl), (Nat.le_of_ble_eq_true rfl)⟩), rfl, wd17⟩ (sj_preS hH hK [10] rfl rfl [] rfl sj_bln sj_exn) rfl rfl hl.1 rfl (lv_room (Nat.le_of_ble_eq_true rfl)) dX5_init_140 ⟨(Nat.le_trans (m := 54) (by omega) (Nat.le_of_ble_eq_true rfl)), (Nat.le_trans (m := 992) (by omega) (Nat.le_of_ble_eq_true rfl))⟩) hH hK hS hA [10] [0, 1, 2, 3, 4, 5, 6, 7, 8, 9] rfl rfl rfl rfl (by decide) rfl rfl (fun u_56 H locs hw_57 hH hK hS => ?_)
          have hH : sj_H D A ([(h0, .inr (5, [.ref q_1, .int 0, .ref q_7, .ref q_9, .int 0, .ref q_11, .int 0, .ref q_19, .int 0, .ref q_22, .int 0, .null, .int 0, .null, .int 0, .int 0, .int 0, .null, .null])), (q_1, .inr (3, [.ref q_5, .int 0])), (q_5, .inl (k_6, 480, .inl (fun _ => 0))), (q_7, .inl (k_8, 20, .inl (fun _ => 0))), (q_9, .inl (k_10, 20, .inl (fun _ => 0))), (q_11, .inl (k_12, 5, .inr (.inr (.inr (.inr f_18))))), (q_14, .inr (4, [.int 0, .int 0, .int 0, .int 0, .int 0, .int 0, .int 0, .int 0, .int 0])), (q_19, .inl (k_20, 12, .inr (.inr (.inr (.inr f_21))))), (q_22, .inl (k_23, 30, .inr (.inr (.inr (.inr f_29))))), (q_25, .inr (4, [.int 0, .int 0, .int 0, .int 0, .int 0, .int 0, .int 0, .int 0, .int 0])), (q_54, .inr (4, [.int 0, .int 0, .int 0, .int 0, .int 0, .int 0, .int 0, .int 0, .int 0]))] ++ pl_29) H := hH
          have hK : va_K D vwCl [(k_6, .char), (k_8, .int), (k_10, .int), (k_12, .object RX4), (k_20, .object RX4), (k_23, .object RX4)] s := by simpa using hK
          refine sj_astq hx hb hK hH hS 8 5 10 4 rfl rfl rfl rfl (vp_in_nI hjn (by decide)) dX5_init_143 (fun H locs hH hS => ?_)
          have hH : sj_H D A ([(h0, .inr (5, [.ref q_1, .int 0, .ref q_7, .ref q_9, .int 0, .ref q_11, .int 0, .ref q_19, .int 0, .ref q_22, .int 0, .null, .int 0, .null, .int 0, .int 0, .int 0, .null, .null])), (q_1, .inr (3, [.ref q_5, .int 0])), (q_5, .inl (k_6, 480, .inl (fun _ => 0))), (q_7, .inl (k_8, 20, .inl (fun _ => 0))), (q_9, .inl (k_10, 20, .inl (fun _ => 0))), (q_11, .inl (k_12, 5, .inr (.inr (.inr (.inr f_18))))), (q_14, .inr (4, [.int 0, .int 0, .int 0, .int 0, .int 0, .int 0, .int 0, .int 0, .int 0])), (q_19, .inl (k_20, 12, .inr (.inr (.inr (.inr f_21))))), (q_22, .inl (k_23, 30, .inr (.inr (.inr (.inr (va_up f_29 (nI j).toNatClampNeg (some q_54))))))), (q_25, .inr (4, [.int 0, .int 0, .int 0, .int 0, .int 0, .int 0, .int 0, .int 0, .int 0])), (q_54, .inr (4, [.int 0, .int 0, .int 0, .int 0, .int 0, .int 0, .int 0, .int 0, .int 0]))] ++ pl_29) H := hH
          refine lv_iinc (v := (nI (j + 1))) (lv' := [(1, .int (nI (j + 1))), (0, .ref h0)]) hx hb dX5_init_144 hl (k := 0) rfl (by rw [nI_succ]; rfl) (by decide) rfl (fun ls hl => ?_)
          refine lv_goto (tgt := 122) hx hb dX5_init_147 (by decide) ?_
          exact ih (j + 1) _ _ _ _ _ _ _ (by omega) (by omega) (by omega) (by omega) (by rw [nI_clamp (by omega)]; unfold va_up; rw [if_neg (by omega)]; exact hf_29) (lv_sub hl [0, 1] rfl) (sj_hide (c1 := [(h0, .inr (5, [.ref q_1, .int 0, .ref q_7, .ref q_9, .int 0, .ref q_11, .int 0, .ref q_19, .int 0, .ref q_22, .int 0, .null, .int 0, .null, .int 0, .int 0, .int 0, .null, .null])), (q_1, .inr (3, [.ref q_5, .int 0])), (q_5, .inl (k_6, 480, .inl (fun _ => 0))), (q_7, .inl (k_8, 20, .inl (fun _ => 0))), (q_9, .inl (k_10, 20, .inl (fun _ => 0))), (q_11, .inl (k_12, 5, .inr (.inr (.inr (.inr f_18))))), (q_14, .inr (4, [.int 0, .int 0, .int 0, .int 0, .int 0, .int 0, .int 0, .int 0, .int 0])), (q_19, .inl (k_20, 12, .inr (.inr (.inr (.inr f_21))))), (q_22, .inl (k_23, 30, .inr (.inr (.inr (.inr (va_up f_29 (nI j).toNatClampNeg (some q_54))))))), (q_25, .inr (4, [.int 0, .int 0, .int 0, .int 0, .int 0, .int 0, .int 0, .int 0, .int 0]))]) (c2 := [(q_54, .inr (4, [.int 0, .int 0, .int 0, .int 0, .int 0, .int 0, .int 0, .int 0, .int 0]))]) hH [0, 1, 2, 3, 4, 5, 6, 7, 8, 9, 10] rfl rfl) hS
      exact lp_29 29 1 _ _ _ _ _ _ _ (by omega) (by omega) (by omega) (by omega) rfl  hl hH hS
    have lp_21 : ∀ (n j : Nat) (f_21 : Nat → Option Nat) (pl_21 : va_W) (H : Heap) (locs : List Loc) (ls : Array Slot) (cells slots : Nat), j + n = 12 → cells + n * 1 ≤ 23 → slots + n * 9 ≤ 692 → lv_has ls 2 [(1, .int (nI j)), (0, .ref h0)] → sj_H D A ([(h0, .inr (5, [.ref q_1, .int 0, .ref q_7, .ref q_9, .int 0, .ref q_11, .int 0, .ref q_19, .int 0, .null, .int 0, .null, .int 0, .null, .int 0, .int 0, .int 0, .null, .null])), (q_1, .inr (3, [.ref q_5, .int 0])), (q_5, .inl (k_6, 480, .inl (fun _ => 0))), (q_7, .inl (k_8, 20, .inl (fun _ => 0))), (q_9, .inl (k_10, 20, .inl (fun _ => 0))), (q_11, .inl (k_12, 5, .inr (.inr (.inr (.inr f_18))))), (q_14, .inr (4, [.int 0, .int 0, .int 0, .int 0, .int 0, .int 0, .int 0, .int 0, .int 0])), (q_19, .inl (k_20, 12, .inr (.inr (.inr (.inr f_21)))))] ++ pl_21) H → va_S A s.heap H locs → W p l e (headSpec wsX5_init ({ frames := 2, cells := 188, slots := 1632, locals := 41 })).room s m ([.ref h0] : List Value).toArray below meth c H locs cells slots (MQ below (sj_Qv (S := Nat × Nat × Nat × Nat × Nat × Nat × Nat × Nat × Nat × Nat × Nat × ClassId × ClassId × ClassId × va_W) D (fun _ => True) (fun u => [(h0, .inr (5, [.ref u.1, .int 0, .ref u.2.1, .ref u.2.2.1, .int 0, .ref u.2.2.2.1, .int 0, .ref u.2.2.2.2.1, .int 0, .ref u.2.2.2.2.2.1, .int 0, .ref u.2.2.2.2.2.2.1, .int 0, .ref u.2.2.2.2.2.2.2.1, .int 0, .int 0, .int 0, .ref u.2.2.2.2.2.2.2.2.1, .ref u.2.2.2.2.2.2.2.2.2.1])), (u.1, .inr (3, [.ref u.2.2.2.2.2.2.2.2.2.2.1, .int 0])), (u.2.2.2.2.2.2.2.2.2.2.1, .inl (u.2.2.2.2.2.2.2.2.2.2.2.1, 480, .inl (fun _ => 0))), (u.2.1, .inl (u.2.2.2.2.2.2.2.2.2.2.2.2.1, 20, .inl (fun _ => 0))), (u.2.2.1, .inl (u.2.2.2.2.2.2.2.2.2.2.2.2.2.1, 20, .inl (fun _ => 0)))] ++ u.2.2.2.2.2.2.2.2.2.2.2.2.2.2) (fun u => [(u.2.2.2.2.2.2.2.2.2.2.2.1, .char), (u.2.2.2.2.2.2.2.2.2.2.2.2.1, .int), (u.2.2.2.2.2.2.2.2.2.2.2.2.2.1, .int)]) A) ([.ref h0] : List Value).toArray s 188 1632 A) (F0 m 83 ls []) := by
      intro n
      induction n with
      | zero =>
        intro j f_21 pl_21 H locs ls cells slots hj hck hcs hl hH hS
        obtain rfl : j = 12 := by omega
        refine lv_iload_n hx hb dX5_init_83 rfl (lv_at hl 0 rfl) ?_
        refine lv_aload_n hx hb dX5_init_84 rfl (lv_at hl 1 rfl) ?_
        refine va_get (D := D) (ci := 5) (v := .ref q_19) (C := RX5) (T := TX5) (N := 19) hx hb hts in5 hown hK hH.1 0 rfl rfl 7 (by decide) wd18 (fun _ h9 => h9) rfl dX5_init_85 ?_
        refine va_alen hx hb hK hH.1 7 4 rfl rfl (v := 12) rfl dX5_init_88 ?_
        refine lv_icmp_ge (tgt := 111) hx hb dX5_init_89 (by decide) (fun _ => ?_) (fun h => absurd (by decide) h)
        exact after_21 f_21 pl_21 H locs ls cells slots (by omega) (by omega) hl hH hS
      | succ n ih =>
        intro j f_21 pl_21 H locs ls cells slots hj hck hcs hl hH hS
        have hjn : j < 12 := by omega
        refine lv_iload_n hx hb dX5_init_83 rfl (lv_at hl 0 rfl) ?_
        refine lv_aload_n hx hb dX5_init_84 rfl (lv_at hl 1 rfl) ?_
        refine va_get (D := D) (ci := 5) (v := .ref q_19) (C := RX5) (T := TX5) (N := 19) hx hb hts in5 hown hK hH.1 0 rfl rfl 7 (by decide) wd18 (fun _ h9 => h9) rfl dX5_init_85 ?_
        refine va_alen hx hb hK hH.1 7 4 rfl rfl (v := 12) rfl dX5_init_88 ?_
        refine lv_icmp_ge (tgt := 111) hx hb dX5_init_89 (by decide) (fun h => absurd h (nI_ge hjn (by decide))) (fun _ => ?_)
        refine lv_aload_n hx hb dX5_init_92 rfl (lv_at hl 1 rfl) ?_
        refine va_get (D := D) (ci := 5) (v := .ref q_19) (C := RX5) (T := TX5) (N := 19) hx hb hts in5 hown hK hH.1 0 rfl rfl 7 (by decide) wd18 (fun _ h9 => h9) rfl dX5_init_93 ?_
        refine lv_iload_n hx hb dX5_init_96 rfl (lv_at hl 0 rfl) ?_
        refine sj_new (ci := 4) (fs := [.int 0, .int 0, .int 0, .int 0, .int 0, .int 0, .int 0, .int 0, .int 0]) (C := RX4) (F := TX4) (N := 9) hx hb hts in4 tyX4 tyX4_ok hown wd12 wd15 wd16 hK hH hS hA rfl sj_df4 rfl rfl (Nat.le_trans (m := 23) (by omega) (Nat.le_of_ble_eq_true rfl)) (Nat.le_trans (m := 692) (by omega) (Nat.le_of_ble_eq_true rfl)) dX5_init_97 (fun q_60 H hH hS => ?_)
        have hH : sj_H D A ([(h0, .inr (5, [.ref q_1, .int 0, .ref q_7, .ref q_9, .int 0, .ref q_11, .int 0, .ref q_19, .int 0, .null, .int 0, .null, .int 0, .null, .int 0, .int 0, .int 0, .null, .null])), (q_1, .inr (3, [.ref q_5, .int 0])), (q_5, .inl (k_6, 480, .inl (fun _ => 0))), (q_7, .inl (k_8, 20, .inl (fun _ => 0))), (q_9, .inl (k_10, 20, .inl (fun _ => 0))), (q_11, .inl (k_12, 5, .inr (.inr (.inr (.inr f_18))))), (q_14, .inr (4, [.int 0, .int 0, .int 0, .int 0, .int 0, .int 0, .int 0, .int 0, .int 0])), (q_19, .inl (k_20, 12, .inr (.inr (.inr (.inr f_21))))), (q_60, .inr (4, [.int 0, .int 0, .int 0, .int 0, .int 0, .int 0, .int 0, .int 0, .int 0]))] ++ pl_21) H := hH
        refine lv_dup hx hb dX5_init_100 rfl ?_
        refine sj_callv (wr := [(h0, .inr (5, [.ref q_1, .int 0, .ref q_7, .ref q_9, .int 0, .ref q_11, .int 0, .ref q_19, .int 0, .null, .int 0, .null, .int 0, .null, .int 0, .int 0, .int 0, .null, .null])), (q_1, .inr (3, [.ref q_5, .int 0])), (q_5, .inl (k_6, 480, .inl (fun _ => 0))), (q_7, .inl (k_8, 20, .inl (fun _ => 0))), (q_9, .inl (k_10, 20, .inl (fun _ => 0))), (q_11, .inl (k_12, 5, .inr (.inr (.inr (.inr f_18))))), (q_14, .inr (4, [.int 0, .int 0, .int 0, .int 0, .int 0, .int 0, .int 0, .int 0, .int 0])), (q_19, .inl (k_20, 12, .inr (.inr (.inr (.inr f_21)))))]) (va_runIN (As := []) (rest := [.ref q_60, .int (nI j), .ref q_19]) ⟨hx, hb, hml, hown, hts⟩ (c_X4_init l D q_60 H.size) ⟨(va_cnB 0 hts gX5_init_X4_init_n33 rfl rfl rfl hE.2.2.2.2.2.2.2 wd16 (by decide +kernel) ⟨(Nat.le_of_ble_eq_true rfl), (Nat.le_of_ble_eq_true rfl)⟩), rfl, wd17⟩ (sj_preS hH hK [8] rfl rfl [] rfl sj_bln sj_exn) rfl rfl hl.1 rfl (lv_room (Nat.le_of_ble_eq_true rfl)) dX5_init_101 ⟨(Nat.le_trans (m := 23) (by omega) (Nat.le_of_ble_eq_true rfl)), (Nat.le_trans (m := 692) (by omega) (Nat.le_of_ble_eq_true rfl))⟩) hH hK hS hA [8] [0, 1, 2, 3, 4, 5, 6, 7] rfl rfl rfl rfl (by decide) rfl rfl (fun u_62 H locs hw_63 hH hK hS => ?_)
        have hH : sj_H D A ([(h0, .inr (5, [.ref q_1, .int 0, .ref q_7, .ref q_9, .int 0, .ref q_11, .int 0, .ref q_19, .int 0, .null, .int 0, .null, .int 0, .null, .int 0, .int 0, .int 0, .null, .null])), (q_1, .inr (3, [.ref q_5, .int 0])), (q_5, .inl (k_6, 480, .inl (fun _ => 0))), (q_7, .inl (k_8, 20, .inl (fun _ => 0))), (q_9, .inl (k_10, 20, .inl (fun _ => 0))), (q_11, .inl (k_12, 5, .inr (.inr (.inr (.inr f_18))))), (q_14, .inr (4, [.int 0, .int 0, .int 0, .int 0, .int 0, .int 0, .int 0, .int 0, .int 0])), (q_19, .inl (k_20, 12, .inr (.inr (.inr (.inr f_21))))), (q_60, .inr (4, [.int 0, .int 0, .int 0, .int 0, .int 0, .int 0, .int 0, .int 0, .int 0]))] ++ pl_21) H := hH
        have hK : va_K D vwCl [(k_6, .char), (k_8, .int), (k_10, .int), (k_12, .object RX4), (k_20, .object RX4)] s := by simpa using hK
        refine sj_astq hx hb hK hH hS 7 4 8 4 rfl rfl rfl rfl (vp_in_nI hjn (by decide)) dX5_init_104 (fun H locs hH hS => ?_)
        have hH : sj_H D A ([(h0, .inr (5, [.ref q_1, .int 0, .ref q_7, .ref q_9, .int 0, .ref q_11, .int 0, .ref q_19, .int 0, .null, .int 0, .null, .int 0, .null, .int 0, .int 0, .int 0, .null, .null])), (q_1, .inr (3, [.ref q_5, .int 0])), (q_5, .inl (k_6, 480, .inl (fun _ => 0))), (q_7, .inl (k_8, 20, .inl (fun _ => 0))), (q_9, .inl (k_10, 20, .inl (fun _ => 0))), (q_11, .inl (k_12, 5, .inr (.inr (.inr (.inr f_18))))), (q_14, .inr (4, [.int 0, .int 0, .int 0, .int 0, .int 0, .int 0, .int 0, .int 0, .int 0])), (q_19, .inl (k_20, 12, .inr (.inr (.inr (.inr (va_up f_21 (nI j).toNatClampNeg (some q_60))))))), (q_60, .inr (4, [.int 0, .int 0, .int 0, .int 0, .int 0, .int 0, .int 0, .int 0, .int 0]))] ++ pl_21) H := hH
        refine lv_iinc (v := (nI (j + 1))) (lv' := [(1, .int (nI (j + 1))), (0, .ref h0)]) hx hb dX5_init_105 hl (k := 0) rfl (by rw [nI_succ]; rfl) (by decide) rfl (fun ls hl => ?_)
        refine lv_goto (tgt := 83) hx hb dX5_init_108 (by decide) ?_
        exact ih (j + 1) _ _ _ _ _ _ _ (by omega) (by omega) (by omega) (lv_sub hl [0, 1] rfl) (sj_hide (c1 := [(h0, .inr (5, [.ref q_1, .int 0, .ref q_7, .ref q_9, .int 0, .ref q_11, .int 0, .ref q_19, .int 0, .null, .int 0, .null, .int 0, .null, .int 0, .int 0, .int 0, .null, .null])), (q_1, .inr (3, [.ref q_5, .int 0])), (q_5, .inl (k_6, 480, .inl (fun _ => 0))), (q_7, .inl (k_8, 20, .inl (fun _ => 0))), (q_9, .inl (k_10, 20, .inl (fun _ => 0))), (q_11, .inl (k_12, 5, .inr (.inr (.inr (.inr f_18))))), (q_14, .inr (4, [.int 0, .int 0, .int 0, .int 0, .int 0, .int 0, .int 0, .int 0, .int 0])), (q_19, .inl (k_20, 12, .inr (.inr (.inr (.inr (va_up f_21 (nI j).toNatClampNeg (some q_60)))))))]) (c2 := [(q_60, .inr (4, [.int 0, .int 0, .int 0, .int 0, .int 0, .int 0, .int 0, .int 0, .int 0]))]) hH [0, 1, 2, 3, 4, 5, 6, 7, 8] rfl rfl) hS
    exact lp_21 12 0 _ _ _ _ _ _ _ (by omega) (by omega) (by omega)  hl hH hS
  have lp_18 : ∀ (n j : Nat) (f_18 : Nat → Option Nat) (pl_18 : va_W) (H : Heap) (locs : List Loc) (ls : Array Slot) (cells slots : Nat), j + n = 5 → 1 ≤ j → cells + n * 1 ≤ 10 → slots + n * 9 ≤ 572 → f_18 0 = some q_14 → lv_has ls 2 [(1, .int (nI j)), (0, .ref h0)] → sj_H D A ([(h0, .inr (5, [.ref q_1, .int 0, .ref q_7, .ref q_9, .int 0, .ref q_11, .int 0, .null, .int 0, .null, .int 0, .null, .int 0, .null, .int 0, .int 0, .int 0, .null, .null])), (q_1, .inr (3, [.ref q_5, .int 0])), (q_5, .inl (k_6, 480, .inl (fun _ => 0))), (q_7, .inl (k_8, 20, .inl (fun _ => 0))), (q_9, .inl (k_10, 20, .inl (fun _ => 0))), (q_11, .inl (k_12, 5, .inr (.inr (.inr (.inr f_18))))), (q_14, .inr (4, [.int 0, .int 0, .int 0, .int 0, .int 0, .int 0, .int 0, .int 0, .int 0]))] ++ pl_18) H → va_S A s.heap H locs → W p l e (headSpec wsX5_init ({ frames := 2, cells := 188, slots := 1632, locals := 41 })).room s m ([.ref h0] : List Value).toArray below meth c H locs cells slots (MQ below (sj_Qv (S := Nat × Nat × Nat × Nat × Nat × Nat × Nat × Nat × Nat × Nat × Nat × ClassId × ClassId × ClassId × va_W) D (fun _ => True) (fun u => [(h0, .inr (5, [.ref u.1, .int 0, .ref u.2.1, .ref u.2.2.1, .int 0, .ref u.2.2.2.1, .int 0, .ref u.2.2.2.2.1, .int 0, .ref u.2.2.2.2.2.1, .int 0, .ref u.2.2.2.2.2.2.1, .int 0, .ref u.2.2.2.2.2.2.2.1, .int 0, .int 0, .int 0, .ref u.2.2.2.2.2.2.2.2.1, .ref u.2.2.2.2.2.2.2.2.2.1])), (u.1, .inr (3, [.ref u.2.2.2.2.2.2.2.2.2.2.1, .int 0])), (u.2.2.2.2.2.2.2.2.2.2.1, .inl (u.2.2.2.2.2.2.2.2.2.2.2.1, 480, .inl (fun _ => 0))), (u.2.1, .inl (u.2.2.2.2.2.2.2.2.2.2.2.2.1, 20, .inl (fun _ => 0))), (u.2.2.1, .inl (u.2.2.2.2.2.2.2.2.2.2.2.2.2.1, 20, .inl (fun _ => 0)))] ++ u.2.2.2.2.2.2.2.2.2.2.2.2.2.2) (fun u => [(u.2.2.2.2.2.2.2.2.2.2.2.1, .char), (u.2.2.2.2.2.2.2.2.2.2.2.2.1, .int), (u.2.2.2.2.2.2.2.2.2.2.2.2.2.1, .int)]) A) ([.ref h0] : List Value).toArray s 188 1632 A) (F0 m 44 ls []) := by
    intro n
    induction n with
    | zero =>
      intro j f_18 pl_18 H locs ls cells slots hj h1j hck hcs hf_18 hl hH hS
      obtain rfl : j = 5 := by omega
      refine lv_iload_n hx hb dX5_init_44 rfl (lv_at hl 0 rfl) ?_
      refine lv_aload_n hx hb dX5_init_45 rfl (lv_at hl 1 rfl) ?_
      refine va_get (D := D) (ci := 5) (v := .ref q_11) (C := RX5) (T := TX5) (N := 19) hx hb hts in5 hown hK hH.1 0 rfl rfl 5 (by decide) wd14 (fun _ h9 => h9) rfl dX5_init_46 ?_
      refine va_alen hx hb hK hH.1 5 3 rfl rfl (v := 5) rfl dX5_init_49 ?_
      refine lv_icmp_ge (tgt := 72) hx hb dX5_init_50 (by decide) (fun _ => ?_) (fun h => absurd (by decide) h)
      exact after_18 f_18 pl_18 H locs ls cells slots hf_18 (by omega) (by omega) hl hH hS
    | succ n ih =>
      intro j f_18 pl_18 H locs ls cells slots hj h1j hck hcs hf_18 hl hH hS
      have hjn : j < 5 := by omega
      refine lv_iload_n hx hb dX5_init_44 rfl (lv_at hl 0 rfl) ?_
      refine lv_aload_n hx hb dX5_init_45 rfl (lv_at hl 1 rfl) ?_
      refine va_get (D := D) (ci := 5) (v := .ref q_11) (C := RX5) (T := TX5) (N := 19) hx hb hts in5 hown hK hH.1 0 rfl rfl 5 (by decide) wd14 (fun _ h9 => h9) rfl dX5_init_46 ?_
      refine va_alen hx hb hK hH.1 5 3 rfl rfl (v := 5) rfl dX5_init_49 ?_
      refine lv_icmp_ge (tgt := 72) hx hb dX5_init_50 (by decide) (fun h => absurd h (nI_ge hjn (by decide))) (fun _ => ?_)
      refine lv_aload_n hx hb dX5_init_53 rfl (lv_at hl 1 rfl) ?_
      refine va_get (D := D) (ci := 5) (v := .ref q_11) (C := RX5) (T := TX5) (N := 19) hx hb hts in5 hown hK hH.1 0 rfl rfl 5 (by decide) wd14 (fun _ h9 => h9) rfl dX5_init_54 ?_
      refine lv_iload_n hx hb dX5_init_57 rfl (lv_at hl 0 rfl) ?_
      refine sj_new (ci := 4) (fs := [.int 0, .int 0, .int 0, .int 0, .int 0, .int 0, .int 0, .int 0, .int 0]) (C := RX4) (F := TX4) (N := 9) hx hb hts in4 tyX4 tyX4_ok hown wd12 wd15 wd16 hK hH hS hA rfl sj_df4 rfl rfl (Nat.le_trans (m := 10) (by omega) (Nat.le_of_ble_eq_true rfl)) (Nat.le_trans (m := 572) (by omega) (Nat.le_of_ble_eq_true rfl)) dX5_init_58 (fun q_66 H hH hS => ?_)
      have hH : sj_H D A ([(h0, .inr (5, [.ref q_1, .int 0, .ref q_7, .ref q_9, .int 0, .ref q_11, .int 0, .null, .int 0, .null, .int 0, .null, .int 0, .null, .int 0, .int 0, .int 0, .null, .null])), (q_1, .inr (3, [.ref q_5, .int 0])), (q_5, .inl (k_6, 480, .inl (fun _ => 0))), (q_7, .inl (k_8, 20, .inl (fun _ => 0))), (q_9, .inl (k_10, 20, .inl (fun _ => 0))), (q_11, .inl (k_12, 5, .inr (.inr (.inr (.inr f_18))))), (q_14, .inr (4, [.int 0, .int 0, .int 0, .int 0, .int 0, .int 0, .int 0, .int 0, .int 0])), (q_66, .inr (4, [.int 0, .int 0, .int 0, .int 0, .int 0, .int 0, .int 0, .int 0, .int 0]))] ++ pl_18) H := hH
      refine lv_dup hx hb dX5_init_61 rfl ?_
      refine sj_callv (wr := [(h0, .inr (5, [.ref q_1, .int 0, .ref q_7, .ref q_9, .int 0, .ref q_11, .int 0, .null, .int 0, .null, .int 0, .null, .int 0, .null, .int 0, .int 0, .int 0, .null, .null])), (q_1, .inr (3, [.ref q_5, .int 0])), (q_5, .inl (k_6, 480, .inl (fun _ => 0))), (q_7, .inl (k_8, 20, .inl (fun _ => 0))), (q_9, .inl (k_10, 20, .inl (fun _ => 0))), (q_11, .inl (k_12, 5, .inr (.inr (.inr (.inr f_18))))), (q_14, .inr (4, [.int 0, .int 0, .int 0, .int 0, .int 0, .int 0, .int 0, .int 0, .int 0]))]) (va_runIN (As := []) (rest := [.ref q_66, .int (nI j), .ref q_11]) ⟨hx, hb, hml, hown, hts⟩ (c_X4_init l D q_66 H.size) ⟨(va_cnB 0 hts gX5_init_X4_init_n33 rfl rfl rfl hE.2.2.2.2.2.2.2 wd16 (by decide +kernel) ⟨(Nat.le_of_ble_eq_true rfl), (Nat.le_of_ble_eq_true rfl)⟩), rfl, wd17⟩ (sj_preS hH hK [7] rfl rfl [] rfl sj_bln sj_exn) rfl rfl hl.1 rfl (lv_room (Nat.le_of_ble_eq_true rfl)) dX5_init_62 ⟨(Nat.le_trans (m := 10) (by omega) (Nat.le_of_ble_eq_true rfl)), (Nat.le_trans (m := 572) (by omega) (Nat.le_of_ble_eq_true rfl))⟩) hH hK hS hA [7] [0, 1, 2, 3, 4, 5, 6] rfl rfl rfl rfl (by decide) rfl rfl (fun u_68 H locs hw_69 hH hK hS => ?_)
      have hH : sj_H D A ([(h0, .inr (5, [.ref q_1, .int 0, .ref q_7, .ref q_9, .int 0, .ref q_11, .int 0, .null, .int 0, .null, .int 0, .null, .int 0, .null, .int 0, .int 0, .int 0, .null, .null])), (q_1, .inr (3, [.ref q_5, .int 0])), (q_5, .inl (k_6, 480, .inl (fun _ => 0))), (q_7, .inl (k_8, 20, .inl (fun _ => 0))), (q_9, .inl (k_10, 20, .inl (fun _ => 0))), (q_11, .inl (k_12, 5, .inr (.inr (.inr (.inr f_18))))), (q_14, .inr (4, [.int 0, .int 0, .int 0, .int 0, .int 0, .int 0, .int 0, .int 0, .int 0])), (q_66, .inr (4, [.int 0, .int 0, .int 0, .int 0, .int 0, .int 0, .int 0, .int 0, .int 0]))] ++ pl_18) H := hH
      have hK : va_K D vwCl [(k_6, .char), (k_8, .int), (k_10, .int), (k_12, .object RX4)] s := by simpa using hK
      refine sj_astq hx hb hK hH hS 5 3 7 4 rfl rfl rfl rfl (vp_in_nI hjn (by decide)) dX5_init_65 (fun H locs hH hS => ?_)
      have hH : sj_H D A ([(h0, .inr (5, [.ref q_1, .int 0, .ref q_7, .ref q_9, .int 0, .ref q_11, .int 0, .null, .int 0, .null, .int 0, .null, .int 0, .null, .int 0, .int 0, .int 0, .null, .null])), (q_1, .inr (3, [.ref q_5, .int 0])), (q_5, .inl (k_6, 480, .inl (fun _ => 0))), (q_7, .inl (k_8, 20, .inl (fun _ => 0))), (q_9, .inl (k_10, 20, .inl (fun _ => 0))), (q_11, .inl (k_12, 5, .inr (.inr (.inr (.inr (va_up f_18 (nI j).toNatClampNeg (some q_66))))))), (q_14, .inr (4, [.int 0, .int 0, .int 0, .int 0, .int 0, .int 0, .int 0, .int 0, .int 0])), (q_66, .inr (4, [.int 0, .int 0, .int 0, .int 0, .int 0, .int 0, .int 0, .int 0, .int 0]))] ++ pl_18) H := hH
      refine lv_iinc (v := (nI (j + 1))) (lv' := [(1, .int (nI (j + 1))), (0, .ref h0)]) hx hb dX5_init_66 hl (k := 0) rfl (by rw [nI_succ]; rfl) (by decide) rfl (fun ls hl => ?_)
      refine lv_goto (tgt := 44) hx hb dX5_init_69 (by decide) ?_
      exact ih (j + 1) _ _ _ _ _ _ _ (by omega) (by omega) (by omega) (by omega) (by rw [nI_clamp (by omega)]; unfold va_up; rw [if_neg (by omega)]; exact hf_18) (lv_sub hl [0, 1] rfl) (sj_hide (c1 := [(h0, .inr (5, [.ref q_1, .int 0, .ref q_7, .ref q_9, .int 0, .ref q_11, .int 0, .null, .int 0, .null, .int 0, .null, .int 0, .null, .int 0, .int 0, .int 0, .null, .null])), (q_1, .inr (3, [.ref q_5, .int 0])), (q_5, .inl (k_6, 480, .inl (fun _ => 0))), (q_7, .inl (k_8, 20, .inl (fun _ => 0))), (q_9, .inl (k_10, 20, .inl (fun _ => 0))), (q_11, .inl (k_12, 5, .inr (.inr (.inr (.inr (va_up f_18 (nI j).toNatClampNeg (some q_66))))))), (q_14, .inr (4, [.int 0, .int 0, .int 0, .int 0, .int 0, .int 0, .int 0, .int 0, .int 0]))]) (c2 := [(q_66, .inr (4, [.int 0, .int 0, .int 0, .int 0, .int 0, .int 0, .int 0, .int 0, .int 0]))]) hH [0, 1, 2, 3, 4, 5, 6, 7] rfl rfl) hS
  exact lp_18 4 1 _ _ _ _ _ _ _ (by omega) (by omega) (by omega) (by omega) rfl  hl hH hS
