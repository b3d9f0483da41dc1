def sdI (i : Nat → Nat → Int32) (t k u b : Int) : Prop := (b = 1 ∧ k + (i 410 t.toNat).toInt ≤ (i 36 40).toInt ∧ ∀ j : Nat, (j : Int) < u → (i 402 (k + (j : Int)).toNat).toInt = (i 411 ((i 409 t.toNat).toInt + (j : Int)).toNat).toInt) ∨ (b = 0 ∧ ¬ sdB i t k)
theorem sd_end {i : Nat → Nat → Int32} {t k u b : Int} (h : sdI i t k u b) (hu : (i 410 t.toNat).toInt ≤ u ∨ b = 0) : (b = 1 ∧ sdB i t k) ∨ (b = 0 ∧ ¬ sdB i t k) := by
  rcases h with ⟨h1, h2, h3⟩ | ⟨h1, h2⟩
  · exact Or.inl ⟨h1, h2, fun j hj => h3 j (by omega)⟩
  · exact Or.inr ⟨h1, h2⟩
theorem dX12_in_0 : decode cX12_in 0 = .ok (.iload_n 1, 1) := by decide +kernel
theorem dX12_in_1 : decode cX12_in 1 = .ok (.aload_n 0, 1) := by decide +kernel
theorem dX12_in_2 : decode cX12_in 2 = .ok (.getfield 224, 3) := by decide +kernel
theorem dX12_in_5 : decode cX12_in 5 = .ok (.if_icmp .ge 12, 3) := by decide +kernel
theorem dX12_in_17 : decode cX12_in 17 = .ok (.bipush 10, 2) := by decide +kernel
theorem dX12_in_19 : decode cX12_in 19 = .ok (.ireturn, 1) := by decide +kernel
theorem dX12_in_8 : decode cX12_in 8 = .ok (.aload_n 0, 1) := by decide +kernel
theorem dX12_in_9 : decode cX12_in 9 = .ok (.getfield 227, 3) := by decide +kernel
theorem dX12_in_12 : decode cX12_in 12 = .ok (.iload_n 1, 1) := by decide +kernel
theorem dX12_in_13 : decode cX12_in 13 = .ok (.caload, 1) := by decide +kernel
theorem dX12_in_14 : decode cX12_in 14 = .ok (.goto 5, 3) := by decide +kernel
theorem dX12_digitsAt_0 : decode cX12_digitsAt 0 = .ok (.iconst 0, 1) := by decide +kernel
theorem dX12_digitsAt_1 : decode cX12_digitsAt 1 = .ok (.istore_n 2, 1) := by decide +kernel
theorem dX12_digitsAt_2 : decode cX12_digitsAt 2 = .ok (.aload_n 0, 1) := by decide +kernel
theorem dX12_digitsAt_3 : decode cX12_digitsAt 3 = .ok (.iload_n 1, 1) := by decide +kernel
theorem dX12_digitsAt_4 : decode cX12_digitsAt 4 = .ok (.iload_n 2, 1) := by decide +kernel
theorem dX12_digitsAt_5 : decode cX12_digitsAt 5 = .ok (.iadd, 1) := by decide +kernel
theorem dX12_digitsAt_6 : decode cX12_digitsAt 6 = .ok (.invokevirtual 320, 3) := by decide +kernel
theorem dX12_digitsAt_9 : decode cX12_digitsAt 9 = .ok (.bipush 48, 2) := by decide +kernel
theorem dX12_digitsAt_11 : decode cX12_digitsAt 11 = .ok (.if_icmp .lt 21, 3) := by decide +kernel
theorem dX12_digitsAt_32 : decode cX12_digitsAt 32 = .ok (.iload_n 2, 1) := by decide +kernel
theorem dX12_digitsAt_33 : decode cX12_digitsAt 33 = .ok (.ireturn, 1) := by decide +kernel
theorem dX12_digitsAt_14 : decode cX12_digitsAt 14 = .ok (.aload_n 0, 1) := by decide +kernel
theorem dX12_digitsAt_15 : decode cX12_digitsAt 15 = .ok (.iload_n 1, 1) := by decide +kernel
theorem dX12_digitsAt_16 : decode cX12_digitsAt 16 = .ok (.iload_n 2, 1) := by decide +kernel
theorem dX12_digitsAt_17 : decode cX12_digitsAt 17 = .ok (.iadd, 1) := by decide +kernel
theorem dX12_digitsAt_18 : decode cX12_digitsAt 18 = .ok (.invokevirtual 320, 3) := by decide +kernel
theorem dX12_digitsAt_21 : decode cX12_digitsAt 21 = .ok (.bipush 57, 2) := by decide +kernel
theorem dX12_digitsAt_23 : decode cX12_digitsAt 23 = .ok (.if_icmp .gt 9, 3) := by decide +kernel
theorem dX12_digitsAt_26 : decode cX12_digitsAt 26 = .ok (.iinc 2 1, 3) := by decide +kernel
theorem dX12_digitsAt_29 : decode cX12_digitsAt 29 = .ok (.goto (-27), 3) := by decide +kernel
theorem dX12_most_0 : decode cX12_most 0 = .ok (.aload_n 0, 1) := by decide +kernel
theorem dX12_most_1 : decode cX12_most 1 = .ok (.iload_n 2, 1) := by decide +kernel
theorem dX12_most_2 : decode cX12_most 2 = .ok (.invokevirtual 320, 3) := by decide +kernel
theorem dX12_most_5 : decode cX12_most 5 = .ok (.bipush 45, 2) := by decide +kernel
theorem dX12_most_7 : decode cX12_most 7 = .ok (.if_icmp .ne 7, 3) := by decide +kernel
theorem dX12_most_14 : decode cX12_most 14 = .ok (.iconst 0, 1) := by decide +kernel
theorem dX12_most_15 : decode cX12_most 15 = .ok (.istore_n 3, 1) := by decide +kernel
theorem dX12_most_16 : decode cX12_most 16 = .ok (.iconst 0, 1) := by decide +kernel
theorem dX12_most_17 : decode cX12_most 17 = .ok (.istore 4, 2) := by decide +kernel
theorem dX12_most_19 : decode cX12_most 19 = .ok (.iload_n 1, 1) := by decide +kernel
theorem dX12_most_20 : decode cX12_most 20 = .ok (.bipush 119, 2) := by decide +kernel
theorem dX12_most_22 : decode cX12_most 22 = .ok (.if_icmp .ne 37, 3) := by decide +kernel
theorem dX12_most_59 : decode cX12_most 59 = .ok (.iload_n 1, 1) := by decide +kernel
theorem dX12_most_60 : decode cX12_most 60 = .ok (.bipush 115, 2) := by decide +kernel
theorem dX12_most_62 : decode cX12_most 62 = .ok (.if_icmp .ne 69, 3) := by decide +kernel
theorem dX12_most_131 : decode cX12_most 131 = .ok (.aload_n 0, 1) := by decide +kernel
theorem dX12_most_132 : decode cX12_most 132 = .ok (.iload_n 2, 1) := by decide +kernel
theorem dX12_most_133 : decode cX12_most 133 = .ok (.iload_n 3, 1) := by decide +kernel
theorem dX12_most_134 : decode cX12_most 134 = .ok (.iadd, 1) := by decide +kernel
theorem dX12_most_135 : decode cX12_most 135 = .ok (.invokevirtual 323, 3) := by decide +kernel
theorem dX12_most_138 : decode cX12_most 138 = .ok (.istore 4, 2) := by decide +kernel
theorem dX12_most_140 : decode cX12_most 140 = .ok (.iload_n 1, 1) := by decide +kernel
theorem dX12_most_141 : decode cX12_most 141 = .ok (.bipush 105, 2) := by decide +kernel
theorem dX12_most_143 : decode cX12_most 143 = .ok (.if_icmp .ne 29, 3) := by decide +kernel
theorem dX12_most_172 : decode cX12_most 172 = .ok (.iload 4, 2) := by decide +kernel
theorem dX12_most_174 : decode cX12_most 174 = .ok (.iconst 1, 1) := by decide +kernel
theorem dX12_most_175 : decode cX12_most 175 = .ok (.if_icmp .lt 25, 3) := by decide +kernel
theorem dX12_most_200 : decode cX12_most 200 = .ok (.iconst 0, 1) := by decide +kernel
theorem dX12_most_201 : decode cX12_most 201 = .ok (.ireturn, 1) := by decide +kernel
theorem dX12_most_178 : decode cX12_most 178 = .ok (.iload 4, 2) := by decide +kernel
theorem dX12_most_180 : decode cX12_most 180 = .ok (.bipush 6, 2) := by decide +kernel
theorem dX12_most_182 : decode cX12_most 182 = .ok (.if_icmp .gt 18, 3) := by decide +kernel
theorem dX12_most_185 : decode cX12_most 185 = .ok (.aload_n 0, 1) := by decide +kernel
theorem dX12_most_186 : decode cX12_most 186 = .ok (.iload_n 2, 1) := by decide +kernel
theorem dX12_most_187 : decode cX12_most 187 = .ok (.iload_n 3, 1) := by decide +kernel
theorem dX12_most_188 : decode cX12_most 188 = .ok (.iadd, 1) := by decide +kernel
theorem dX12_most_189 : decode cX12_most 189 = .ok (.iload 4, 2) := by decide +kernel
theorem dX12_most_191 : decode cX12_most 191 = .ok (.iadd, 1) := by decide +kernel
theorem dX12_most_192 : decode cX12_most 192 = .ok (.invokevirtual 320, 3) := by decide +kernel
theorem dX12_most_195 : decode cX12_most 195 = .ok (.bipush 46, 2) := by decide +kernel
theorem dX12_most_197 : decode cX12_most 197 = .ok (.if_icmp .eq 5, 3) := by decide +kernel
theorem dX12_most_202 : decode cX12_most 202 = .ok (.aload_n 0, 1) := by decide +kernel
theorem dX12_most_203 : decode cX12_most 203 = .ok (.iload_n 2, 1) := by decide +kernel
theorem dX12_most_204 : decode cX12_most 204 = .ok (.iload_n 3, 1) := by decide +kernel
theorem dX12_most_205 : decode cX12_most 205 = .ok (.iadd, 1) := by decide +kernel
theorem dX12_most_206 : decode cX12_most 206 = .ok (.iload 4, 2) := by decide +kernel
theorem dX12_most_208 : decode cX12_most 208 = .ok (.iadd, 1) := by decide +kernel
theorem dX12_most_209 : decode cX12_most 209 = .ok (.iconst 1, 1) := by decide +kernel
theorem dX12_most_210 : decode cX12_most 210 = .ok (.iadd, 1) := by decide +kernel
theorem dX12_most_211 : decode cX12_most 211 = .ok (.invokevirtual 323, 3) := by decide +kernel
theorem dX12_most_214 : decode cX12_most 214 = .ok (.istore 5, 2) := by decide +kernel
theorem dX12_most_216 : decode cX12_most 216 = .ok (.iload 5, 2) := by decide +kernel
theorem dX12_most_218 : decode cX12_most 218 = .ok (.ifCond .ne 7, 3) := by decide +kernel
theorem dX12_most_225 : decode cX12_most 225 = .ok (.iload_n 3, 1) := by decide +kernel
theorem dX12_most_226 : decode cX12_most 226 = .ok (.iload 4, 2) := by decide +kernel
theorem dX12_most_228 : decode cX12_most 228 = .ok (.iadd, 1) := by decide +kernel
theorem dX12_most_229 : decode cX12_most 229 = .ok (.iconst 1, 1) := by decide +kernel
theorem dX12_most_230 : decode cX12_most 230 = .ok (.iadd, 1) := by decide +kernel
theorem dX12_most_231 : decode cX12_most 231 = .ok (.iload 5, 2) := by decide +kernel
theorem dX12_most_233 : decode cX12_most 233 = .ok (.iconst 3, 1) := by decide +kernel
theorem dX12_most_234 : decode cX12_most 234 = .ok (.if_icmp .ge 8, 3) := by decide +kernel
theorem dX12_most_242 : decode cX12_most 242 = .ok (.iconst 3, 1) := by decide +kernel
theorem dX12_most_243 : decode cX12_most 243 = .ok (.iadd, 1) := by decide +kernel
theorem dX12_most_244 : decode cX12_most 244 = .ok (.ireturn, 1) := by decide +kernel
theorem dX12_most_237 : decode cX12_most 237 = .ok (.iload 5, 2) := by decide +kernel
theorem dX12_most_239 : decode cX12_most 239 = .ok (.goto 4, 3) := by decide +kernel
theorem dX12_most_221 : decode cX12_most 221 = .ok (.iconst 0, 1) := by decide +kernel
theorem dX12_most_222 : decode cX12_most 222 = .ok (.goto 22, 3) := by decide +kernel
theorem dX12_most_146 : decode cX12_most 146 = .ok (.iload 4, 2) := by decide +kernel
theorem dX12_most_148 : decode cX12_most 148 = .ok (.ifCond .ne 7, 3) := by decide +kernel
theorem dX12_most_155 : decode cX12_most 155 = .ok (.iload_n 3, 1) := by decide +kernel
theorem dX12_most_156 : decode cX12_most 156 = .ok (.iload 4, 2) := by decide +kernel
theorem dX12_most_158 : decode cX12_most 158 = .ok (.bipush 9, 2) := by decide +kernel
theorem dX12_most_160 : decode cX12_most 160 = .ok (.if_icmp .ge 8, 3) := by decide +kernel
theorem dX12_most_168 : decode cX12_most 168 = .ok (.bipush 9, 2) := by decide +kernel
theorem dX12_most_170 : decode cX12_most 170 = .ok (.iadd, 1) := by decide +kernel
theorem dX12_most_171 : decode cX12_most 171 = .ok (.ireturn, 1) := by decide +kernel
theorem dX12_most_163 : decode cX12_most 163 = .ok (.iload 4, 2) := by decide +kernel
theorem dX12_most_165 : decode cX12_most 165 = .ok (.goto 5, 3) := by decide +kernel
theorem dX12_most_151 : decode cX12_most 151 = .ok (.iconst 0, 1) := by decide +kernel
theorem dX12_most_152 : decode cX12_most 152 = .ok (.goto 19, 3) := by decide +kernel
theorem dX12_most_65 : decode cX12_most 65 = .ok (.aload_n 0, 1) := by decide +kernel
theorem dX12_most_66 : decode cX12_most 66 = .ok (.iload_n 2, 1) := by decide +kernel
theorem dX12_most_67 : decode cX12_most 67 = .ok (.invokevirtual 320, 3) := by decide +kernel
theorem dX12_most_70 : decode cX12_most 70 = .ok (.bipush 34, 2) := by decide +kernel
theorem dX12_most_72 : decode cX12_most 72 = .ok (.if_icmp .eq 5, 3) := by decide +kernel
theorem dX12_most_77 : decode cX12_most 77 = .ok (.iconst 1, 1) := by decide +kernel
theorem dX12_most_78 : decode cX12_most 78 = .ok (.istore 4, 2) := by decide +kernel
theorem dX12_most_80 : decode cX12_most 80 = .ok (.iload_n 2, 1) := by decide +kernel
theorem dX12_most_81 : decode cX12_most 81 = .ok (.iload 4, 2) := by decide +kernel
theorem dX12_most_83 : decode cX12_most 83 = .ok (.iadd, 1) := by decide +kernel
theorem dX12_most_84 : decode cX12_most 84 = .ok (.aload_n 0, 1) := by decide +kernel
theorem dX12_most_85 : decode cX12_most 85 = .ok (.getfield 224, 3) := by decide +kernel
theorem dX12_most_88 : decode cX12_most 88 = .ok (.if_icmp .ge 23, 3) := by decide +kernel
theorem dX12_most_111 : decode cX12_most 111 = .ok (.iload_n 2, 1) := by decide +kernel
theorem dX12_most_112 : decode cX12_most 112 = .ok (.iload 4, 2) := by decide +kernel
theorem dX12_most_114 : decode cX12_most 114 = .ok (.iadd, 1) := by decide +kernel
theorem dX12_most_115 : decode cX12_most 115 = .ok (.aload_n 0, 1) := by decide +kernel
theorem dX12_most_116 : decode cX12_most 116 = .ok (.getfield 224, 3) := by decide +kernel
theorem dX12_most_119 : decode cX12_most 119 = .ok (.if_icmp .ge 10, 3) := by decide +kernel
theorem dX12_most_129 : decode cX12_most 129 = .ok (.iconst 0, 1) := by decide +kernel
theorem dX12_most_130 : decode cX12_most 130 = .ok (.ireturn, 1) := by decide +kernel
theorem dX12_most_122 : decode cX12_most 122 = .ok (.iload 4, 2) := by decide +kernel
theorem dX12_most_124 : decode cX12_most 124 = .ok (.iconst 1, 1) := by decide +kernel
theorem dX12_most_125 : decode cX12_most 125 = .ok (.iadd, 1) := by decide +kernel
theorem dX12_most_126 : decode cX12_most 126 = .ok (.goto 4, 3) := by decide +kernel
theorem dX12_most_91 : decode cX12_most 91 = .ok (.aload_n 0, 1) := by decide +kernel
theorem dX12_most_92 : decode cX12_most 92 = .ok (.getfield 227, 3) := by decide +kernel
theorem dX12_most_95 : decode cX12_most 95 = .ok (.iload_n 2, 1) := by decide +kernel
theorem dX12_most_96 : decode cX12_most 96 = .ok (.iload 4, 2) := by decide +kernel
theorem dX12_most_98 : decode cX12_most 98 = .ok (.iadd, 1) := by decide +kernel
theorem dX12_most_99 : decode cX12_most 99 = .ok (.caload, 1) := by decide +kernel
theorem dX12_most_100 : decode cX12_most 100 = .ok (.bipush 34, 2) := by decide +kernel
theorem dX12_most_102 : decode cX12_most 102 = .ok (.if_icmp .eq 9, 3) := by decide +kernel
theorem dX12_most_105 : decode cX12_most 105 = .ok (.iinc 4 1, 3) := by decide +kernel
theorem dX12_most_108 : decode cX12_most 108 = .ok (.goto (-28), 3) := by decide +kernel
theorem dX12_most_75 : decode cX12_most 75 = .ok (.iconst 0, 1) := by decide +kernel
theorem dX12_most_76 : decode cX12_most 76 = .ok (.ireturn, 1) := by decide +kernel
theorem dX12_most_25 : decode cX12_most 25 = .ok (.iload_n 2, 1) := by decide +kernel
theorem dX12_most_26 : decode cX12_most 26 = .ok (.iload 4, 2) := by decide +kernel
theorem dX12_most_28 : decode cX12_most 28 = .ok (.iadd, 1) := by decide +kernel
theorem dX12_most_29 : decode cX12_most 29 = .ok (.aload_n 0, 1) := by decide +kernel
theorem dX12_most_30 : decode cX12_most 30 = .ok (.getfield 224, 3) := by decide +kernel
theorem dX12_most_33 : decode cX12_most 33 = .ok (.if_icmp .ge 23, 3) := by decide +kernel
theorem dX12_most_56 : decode cX12_most 56 = .ok (.iload 4, 2) := by decide +kernel
theorem dX12_most_58 : decode cX12_most 58 = .ok (.ireturn, 1) := by decide +kernel
theorem dX12_most_36 : decode cX12_most 36 = .ok (.aload_n 0, 1) := by decide +kernel
theorem dX12_most_37 : decode cX12_most 37 = .ok (.getfield 227, 3) := by decide +kernel
theorem dX12_most_40 : decode cX12_most 40 = .ok (.iload_n 2, 1) := by decide +kernel
theorem dX12_most_41 : decode cX12_most 41 = .ok (.iload 4, 2) := by decide +kernel
theorem dX12_most_43 : decode cX12_most 43 = .ok (.iadd, 1) := by decide +kernel
theorem dX12_most_44 : decode cX12_most 44 = .ok (.caload, 1) := by decide +kernel
theorem dX12_most_45 : decode cX12_most 45 = .ok (.bipush 32, 2) := by decide +kernel
theorem dX12_most_47 : decode cX12_most 47 = .ok (.if_icmp .eq 9, 3) := by decide +kernel
theorem dX12_most_50 : decode cX12_most 50 = .ok (.iinc 4 1, 3) := by decide +kernel
theorem dX12_most_53 : decode cX12_most 53 = .ok (.goto (-28), 3) := by decide +kernel
theorem dX12_most_10 : decode cX12_most 10 = .ok (.iconst 1, 1) := by decide +kernel
theorem dX12_most_11 : decode cX12_most 11 = .ok (.goto 4, 3) := by decide +kernel
theorem dX12_least_0 : decode cX12_least 0 = .ok (.aload_n 0, 1) := by decide +kernel
theorem dX12_least_1 : decode cX12_least 1 = .ok (.iload_n 2, 1) := by decide +kernel
theorem dX12_least_2 : decode cX12_least 2 = .ok (.invokevirtual 320, 3) := by decide +kernel
theorem dX12_least_5 : decode cX12_least 5 = .ok (.bipush 45, 2) := by decide +kernel
theorem dX12_least_7 : decode cX12_least 7 = .ok (.if_icmp .ne 7, 3) := by decide +kernel
theorem dX12_least_14 : decode cX12_least 14 = .ok (.iconst 0, 1) := by decide +kernel
theorem dX12_least_15 : decode cX12_least 15 = .ok (.istore 4, 2) := by decide +kernel
theorem dX12_least_17 : decode cX12_least 17 = .ok (.iload_n 1, 1) := by decide +kernel
theorem dX12_least_18 : decode cX12_least 18 = .ok (.bipush 115, 2) := by decide +kernel
theorem dX12_least_20 : decode cX12_least 20 = .ok (.if_icmp .ne 5, 3) := by decide +kernel
theorem dX12_least_25 : decode cX12_least 25 = .ok (.iload_n 1, 1) := by decide +kernel
theorem dX12_least_26 : decode cX12_least 26 = .ok (.bipush 119, 2) := by decide +kernel
theorem dX12_least_28 : decode cX12_least 28 = .ok (.if_icmp .ne 7, 3) := by decide +kernel
theorem dX12_least_35 : decode cX12_least 35 = .ok (.iload_n 1, 1) := by decide +kernel
theorem dX12_least_36 : decode cX12_least 36 = .ok (.bipush 105, 2) := by decide +kernel
theorem dX12_least_38 : decode cX12_least 38 = .ok (.if_icmp .ne 10, 3) := by decide +kernel
theorem dX12_least_48 : decode cX12_least 48 = .ok (.iload 4, 2) := by decide +kernel
theorem dX12_least_50 : decode cX12_least 50 = .ok (.aload_n 0, 1) := by decide +kernel
theorem dX12_least_51 : decode cX12_least 51 = .ok (.iload_n 2, 1) := by decide +kernel
theorem dX12_least_52 : decode cX12_least 52 = .ok (.iload 4, 2) := by decide +kernel
theorem dX12_least_54 : decode cX12_least 54 = .ok (.iadd, 1) := by decide +kernel
theorem dX12_least_55 : decode cX12_least 55 = .ok (.invokevirtual 323, 3) := by decide +kernel
theorem dX12_least_58 : decode cX12_least 58 = .ok (.iadd, 1) := by decide +kernel
theorem dX12_least_59 : decode cX12_least 59 = .ok (.iconst 2, 1) := by decide +kernel
theorem dX12_least_60 : decode cX12_least 60 = .ok (.iadd, 1) := by decide +kernel
theorem dX12_least_61 : decode cX12_least 61 = .ok (.ireturn, 1) := by decide +kernel
theorem dX12_least_41 : decode cX12_least 41 = .ok (.iload 4, 2) := by decide +kernel
theorem dX12_least_43 : decode cX12_least 43 = .ok (.iconst 1, 1) := by decide +kernel
theorem dX12_least_44 : decode cX12_least 44 = .ok (.iadd, 1) := by decide +kernel
theorem dX12_least_45 : decode cX12_least 45 = .ok (.goto 16, 3) := by decide +kernel
theorem dX12_least_31 : decode cX12_least 31 = .ok (.iconst 1, 1) := by decide +kernel
theorem dX12_least_32 : decode cX12_least 32 = .ok (.goto 29, 3) := by decide +kernel
theorem dX12_least_23 : decode cX12_least 23 = .ok (.iload_n 3, 1) := by decide +kernel
theorem dX12_least_24 : decode cX12_least 24 = .ok (.ireturn, 1) := by decide +kernel
theorem dX12_least_10 : decode cX12_least 10 = .ok (.iconst 1, 1) := by decide +kernel
theorem dX12_least_11 : decode cX12_least 11 = .ok (.goto 4, 3) := by decide +kernel
theorem dX12_stands_0 : decode cX12_stands 0 = .ok (.iload_n 2, 1) := by decide +kernel
theorem dX12_stands_1 : decode cX12_stands 1 = .ok (.aload_n 0, 1) := by decide +kernel
theorem dX12_stands_2 : decode cX12_stands 2 = .ok (.getfield 266, 3) := by decide +kernel
theorem dX12_stands_5 : decode cX12_stands 5 = .ok (.iload_n 1, 1) := by decide +kernel
theorem dX12_stands_6 : decode cX12_stands 6 = .ok (.iaload, 1) := by decide +kernel
theorem dX12_stands_7 : decode cX12_stands 7 = .ok (.iadd, 1) := by decide +kernel
theorem dX12_stands_8 : decode cX12_stands 8 = .ok (.aload_n 0, 1) := by decide +kernel
theorem dX12_stands_9 : decode cX12_stands 9 = .ok (.getfield 224, 3) := by decide +kernel
theorem dX12_stands_12 : decode cX12_stands 12 = .ok (.if_icmp .gt 7, 3) := by decide +kernel
theorem dX12_stands_19 : decode cX12_stands 19 = .ok (.iconst 0, 1) := by decide +kernel
theorem dX12_stands_20 : decode cX12_stands 20 = .ok (.istore_n 3, 1) := by decide +kernel
theorem dX12_stands_21 : decode cX12_stands 21 = .ok (.iconst 0, 1) := by decide +kernel
theorem dX12_stands_22 : decode cX12_stands 22 = .ok (.istore 4, 2) := by decide +kernel
theorem dX12_stands_24 : decode cX12_stands 24 = .ok (.iload 4, 2) := by decide +kernel
theorem dX12_stands_26 : decode cX12_stands 26 = .ok (.aload_n 0, 1) := by decide +kernel
theorem dX12_stands_27 : decode cX12_stands 27 = .ok (.getfield 266, 3) := by decide +kernel
theorem dX12_stands_30 : decode cX12_stands 30 = .ok (.iload_n 1, 1) := by decide +kernel
theorem dX12_stands_31 : decode cX12_stands 31 = .ok (.iaload, 1) := by decide +kernel
theorem dX12_stands_32 : decode cX12_stands 32 = .ok (.if_icmp .ge 45, 3) := by decide +kernel
theorem dX12_stands_77 : decode cX12_stands 77 = .ok (.iload_n 3, 1) := by decide +kernel
theorem dX12_stands_78 : decode cX12_stands 78 = .ok (.ireturn, 1) := by decide +kernel
theorem dX12_stands_35 : decode cX12_stands 35 = .ok (.iload_n 3, 1) := by decide +kernel
theorem dX12_stands_36 : decode cX12_stands 36 = .ok (.ifCond .eq 41, 3) := by decide +kernel
theorem dX12_stands_39 : decode cX12_stands 39 = .ok (.aload_n 0, 1) := by decide +kernel
theorem dX12_stands_40 : decode cX12_stands 40 = .ok (.getfield 227, 3) := by decide +kernel
theorem dX12_stands_43 : decode cX12_stands 43 = .ok (.iload_n 2, 1) := by decide +kernel
theorem dX12_stands_44 : decode cX12_stands 44 = .ok (.iload 4, 2) := by decide +kernel
theorem dX12_stands_46 : decode cX12_stands 46 = .ok (.iadd, 1) := by decide +kernel
theorem dX12_stands_47 : decode cX12_stands 47 = .ok (.caload, 1) := by decide +kernel
theorem dX12_stands_48 : decode cX12_stands 48 = .ok (.aload_n 0, 1) := by decide +kernel
theorem dX12_stands_49 : decode cX12_stands 49 = .ok (.getfield 275, 3) := by decide +kernel
theorem dX12_stands_52 : decode cX12_stands 52 = .ok (.aload_n 0, 1) := by decide +kernel
theorem dX12_stands_53 : decode cX12_stands 53 = .ok (.getfield 257, 3) := by decide +kernel
theorem dX12_stands_56 : decode cX12_stands 56 = .ok (.iload_n 1, 1) := by decide +kernel
theorem dX12_stands_57 : decode cX12_stands 57 = .ok (.iaload, 1) := by decide +kernel
theorem dX12_stands_58 : decode cX12_stands 58 = .ok (.iload 4, 2) := by decide +kernel
theorem dX12_stands_60 : decode cX12_stands 60 = .ok (.iadd, 1) := by decide +kernel
theorem dX12_stands_61 : decode cX12_stands 61 = .ok (.caload, 1) := by decide +kernel
theorem dX12_stands_62 : decode cX12_stands 62 = .ok (.if_icmp .ne 7, 3) := by decide +kernel
theorem dX12_stands_69 : decode cX12_stands 69 = .ok (.iconst 0, 1) := by decide +kernel
theorem dX12_stands_70 : decode cX12_stands 70 = .ok (.istore_n 3, 1) := by decide +kernel
theorem dX12_stands_71 : decode cX12_stands 71 = .ok (.iinc 4 1, 3) := by decide +kernel
theorem dX12_stands_74 : decode cX12_stands 74 = .ok (.goto (-50), 3) := by decide +kernel
theorem dX12_stands_65 : decode cX12_stands 65 = .ok (.iconst 1, 1) := by decide +kernel
theorem dX12_stands_66 : decode cX12_stands 66 = .ok (.goto 4, 3) := by decide +kernel
theorem dX12_stands_15 : decode cX12_stands 15 = .ok (.iconst 1, 1) := by decide +kernel
theorem dX12_stands_16 : decode cX12_stands 16 = .ok (.goto 4, 3) := by decide +kernel
theorem gw_X12_in : wsX12_in.all goodWord = true := by decide +kernel
theorem gX12_digitsAt_X12_in : GoodIn wsX12_digitsAt (wsV RX12 320 RX12 yX12_in wsX12_in) := goodIn_app (goodIn_sub (List.forall_mem_cons.mpr ⟨(List.mem_cons_of_mem _ (List.mem_append_left _ lm0)), List.forall_mem_cons.mpr ⟨(List.mem_cons_of_mem _ (List.mem_append_left _ lm1)), List.forall_mem_cons.mpr ⟨(List.mem_cons_of_mem _ (List.mem_append_left _ lm2)), List.forall_mem_cons.mpr ⟨(List.mem_cons_of_mem _ (List.mem_append_left _ lm3)), (fun _ h => absurd h List.not_mem_nil)⟩⟩⟩⟩) (by decide +kernel)) (goodIn_sub (by unfold wsX12_in; exact List.forall_mem_cons.mpr ⟨(List.mem_cons_of_mem _ (List.mem_append_left _ lm4)), List.forall_mem_append.mpr ⟨List.forall_mem_cons.mpr ⟨(List.mem_cons_of_mem _ (List.mem_append_left _ lm5)), List.forall_mem_cons.mpr ⟨(List.mem_cons_of_mem _ (List.mem_append_left _ lm6)), (fun _ h => absurd h List.not_mem_nil)⟩⟩, (fun _ h => (List.mem_cons_of_mem _ (List.mem_append_right _ h)))⟩⟩) gw_X12_in)
theorem gX12_most_X12_in : GoodIn wsX12_most (wsV RX12 320 RX12 yX12_in wsX12_in) := goodIn_app (goodIn_sub (List.forall_mem_cons.mpr ⟨(List.mem_cons_of_mem _ (List.mem_append_left _ lm2)), List.forall_mem_cons.mpr ⟨(List.mem_cons_of_mem _ (List.mem_append_left _ lm3)), List.forall_mem_cons.mpr ⟨(List.mem_cons_of_mem _ (List.mem_append_left _ lm4)), List.forall_mem_cons.mpr ⟨(List.mem_cons_of_mem _ (List.mem_append_left _ lm5)), (fun _ h => absurd h List.not_mem_nil)⟩⟩⟩⟩) (by decide +kernel)) (goodIn_sub (by unfold wsX12_in; exact List.forall_mem_cons.mpr ⟨(List.mem_cons_of_mem _ (List.mem_append_left _ lm6)), List.forall_mem_append.mpr ⟨List.forall_mem_cons.mpr ⟨(List.mem_cons_of_mem _ (List.mem_append_left _ lm0)), List.forall_mem_cons.mpr ⟨(List.mem_cons_of_mem _ (List.mem_append_left _ lm1)), (fun _ h => absurd h List.not_mem_nil)⟩⟩, (fun _ h => (List.mem_cons_of_mem _ (List.mem_append_right _ h)))⟩⟩) gw_X12_in)
theorem gw_X12_digitsAt : wsX12_digitsAt.all goodWord = true := by decide +kernel
theorem gX12_most_X12_digitsAt : GoodIn wsX12_most (wsV RX12 323 RX12 yX12_digitsAt wsX12_digitsAt) := goodIn_app (goodIn_sub (List.forall_mem_cons.mpr ⟨(List.mem_cons_of_mem _ (List.mem_append_left _ lm7)), List.forall_mem_cons.mpr ⟨(List.mem_cons_of_mem _ (List.mem_append_left _ lm8)), List.forall_mem_cons.mpr ⟨(List.mem_cons_of_mem _ (List.mem_append_left _ lm9)), List.forall_mem_cons.mpr ⟨(List.mem_cons_of_mem _ (List.mem_append_left _ lm5)), (fun _ h => absurd h List.not_mem_nil)⟩⟩⟩⟩) (by decide +kernel)) (goodIn_sub (by unfold wsX12_digitsAt; exact List.forall_mem_cons.mpr ⟨(List.mem_cons_of_mem _ (List.mem_append_left _ lm10)), List.forall_mem_append.mpr ⟨List.forall_mem_cons.mpr ⟨(List.mem_cons_of_mem _ (List.mem_append_left _ lm2)), List.forall_mem_cons.mpr ⟨(List.mem_cons_of_mem _ (List.mem_append_left _ lm3)), List.forall_mem_cons.mpr ⟨(List.mem_cons_of_mem _ (List.mem_append_left _ lm4)), List.forall_mem_cons.mpr ⟨(List.mem_cons_of_mem _ (List.mem_append_left _ lm5)), List.forall_mem_cons.mpr ⟨(List.mem_cons_of_mem _ (List.mem_append_left _ lm6)), List.forall_mem_cons.mpr ⟨(List.mem_cons_of_mem _ (List.mem_append_left _ lm0)), List.forall_mem_cons.mpr ⟨(List.mem_cons_of_mem _ (List.mem_append_left _ lm1)), (fun _ h => absurd h List.not_mem_nil)⟩⟩⟩⟩⟩⟩⟩, (fun _ h => (List.mem_cons_of_mem _ (List.mem_append_right _ h)))⟩⟩) gw_X12_digitsAt)
theorem gX12_least_X12_in : GoodIn wsX12_least (wsV RX12 320 RX12 yX12_in wsX12_in) := goodIn_app (goodIn_sub (List.forall_mem_cons.mpr ⟨(List.mem_cons_of_mem _ (List.mem_append_left _ lm0)), List.forall_mem_cons.mpr ⟨(List.mem_cons_of_mem _ (List.mem_append_left _ lm1)), List.forall_mem_cons.mpr ⟨(List.mem_cons_of_mem _ (List.mem_append_left _ lm2)), List.forall_mem_cons.mpr ⟨(List.mem_cons_of_mem _ (List.mem_append_left _ lm3)), (fun _ h => absurd h List.not_mem_nil)⟩⟩⟩⟩) (by decide +kernel)) (goodIn_sub (by unfold wsX12_in; exact List.forall_mem_cons.mpr ⟨(List.mem_cons_of_mem _ (List.mem_append_left _ lm4)), List.forall_mem_append.mpr ⟨List.forall_mem_cons.mpr ⟨(List.mem_cons_of_mem _ (List.mem_append_left _ lm5)), List.forall_mem_cons.mpr ⟨(List.mem_cons_of_mem _ (List.mem_append_left _ lm6)), (fun _ h => absurd h List.not_mem_nil)⟩⟩, (fun _ h => (List.mem_cons_of_mem _ (List.mem_append_right _ h)))⟩⟩) gw_X12_in)
theorem gX12_least_X12_digitsAt : GoodIn wsX12_least (wsV RX12 323 RX12 yX12_digitsAt wsX12_digitsAt) := goodIn_app (goodIn_sub (List.forall_mem_cons.mpr ⟨(List.mem_cons_of_mem _ (List.mem_append_left _ lm7)), List.forall_mem_cons.mpr ⟨(List.mem_cons_of_mem _ (List.mem_append_left _ lm8)), List.forall_mem_cons.mpr ⟨(List.mem_cons_of_mem _ (List.mem_append_left _ lm9)), List.forall_mem_cons.mpr ⟨(List.mem_cons_of_mem _ (List.mem_append_left _ lm3)), (fun _ h => absurd h List.not_mem_nil)⟩⟩⟩⟩) (by decide +kernel)) (goodIn_sub (by unfold wsX12_digitsAt; exact List.forall_mem_cons.mpr ⟨(List.mem_cons_of_mem _ (List.mem_append_left _ lm10)), List.forall_mem_append.mpr ⟨List.forall_mem_cons.mpr ⟨(List.mem_cons_of_mem _ (List.mem_append_left _ lm0)), List.forall_mem_cons.mpr ⟨(List.mem_cons_of_mem _ (List.mem_append_left _ lm1)), List.forall_mem_cons.mpr ⟨(List.mem_cons_of_mem _ (List.mem_append_left _ lm2)), List.forall_mem_cons.mpr ⟨(List.mem_cons_of_mem _ (List.mem_append_left _ lm3)), List.forall_mem_cons.mpr ⟨(List.mem_cons_of_mem _ (List.mem_append_left _ lm4)), List.forall_mem_cons.mpr ⟨(List.mem_cons_of_mem _ (List.mem_append_left _ lm5)), List.forall_mem_cons.mpr ⟨(List.mem_cons_of_mem _ (List.mem_append_left _ lm6)), (fun _ h => absurd h List.not_mem_nil)⟩⟩⟩⟩⟩⟩⟩, (fun _ h => (List.mem_cons_of_mem _ (List.mem_append_right _ h)))⟩⟩) gw_X12_digitsAt)
set_option maxHeartbeats 2000000 in
set_option maxRecDepth 100000 in
theorem m_in (l : Launch) (D : va_G) (g : Nat → Nat) (ka : Nat → ClassId) (ad : Nat → Nat) (i : Nat → Nat → Int32) (r : Nat → Nat → Nat) (L : Nat → Nat → Int64) (d : Nat → Nat → UInt64) (x : Int32) (hO : OkI i) (hR : RS r) (sz : Nat) (hx0 : 0 ≤ x.toInt) : Met l yX12_in wsX12_in ({ frames := 0, cells := 0, slots := 0, locals := 0 }) (va_Pc [.ref (g 36), .int x] (sj_B D (hwc g ka i r L d) (hT ka) sz (gx ad (va_A (hwc g ka i r L d) sz)))) (sj_Qi (S := Unit) D (fun v u => ((0 : Int) ≤ v.toInt ∧ v.toInt ≤ 65535) ∧ (v.toInt = inB i x.toInt)) (fun _ => hwc g ka i r L d) (fun _ => []) (va_A (hwc g ka i r L d) sz)) 0 0 (va_A (hwc g ka i r L d) sz) := by
  refine x_met (Ex := gx ad) (cc := cX12_in) (maxL := 2) (ret := (some .char)) (by decide) rfl (Nat.le_of_ble_eq_true rfl) ?_
  intro p e s m below meth c A ls hx hb hr hml hts hown hlocks hA hS hH hK hE hl
  have hown : s.vm.findClass RX12 = some m.cls := hown
  have in12 : ∀ w ∈ wsX120, w ∈ wsX12_in := (fun _ h => (List.mem_cons_of_mem _ (List.mem_append_right _ h)))
  have wd0 := hts (.fieldLink RX12 224 "StoryDeskModel" "filled" "I") (List.mem_cons_of_mem _ (List.mem_append_left _ lm0))
  have wd1 := hts (.fieldLink RX12 227 "StoryDeskModel" "buffer" "[C") (List.mem_cons_of_mem _ (List.mem_append_left _ lm1))
  have hl : lv_has ls 2 [(0, .ref (g 36)), (1, .int x)] := hl
  have hK : va_K D vwCl (hT ka) s := hK
  have hb40 : (0 : Int) ≤ (i 36 40).toInt ∧ (i 36 40).toInt ≤ 60 := hO 36 40
  have hin := inB_or i x.toInt
  refine lv_iload_n hx hb dX12_in_0 rfl (lv_at hl 1 rfl) ?_
  refine lv_aload_n hx hb dX12_in_1 rfl (lv_at hl 0 rfl) ?_
  have bx_1 : (0 : Int) ≤ (i 36 40).toInt ∧ (i 36 40).toInt ≤ 60 := hO 36 40
  refine h_geti (ci := 12) (C := RX12) (F := TX12) (N := 86) hx hb hts in12 hown hK hH (by decide) (rfl : kd 36 = 12) (by decide) rfl 40 (by decide) wd0 (fun _ h9 => h9) (by decide) rfl dX12_in_2 ?_
  refine lv_icmp_ge (tgt := 17) hx hb dX12_in_5 (by decide) (fun c_2 => ?_) (fun c_2 => ?_)
  · skip
    have h_3 := s_le (rfl : (i 36 40).toInt = _) (rfl : x.toInt = _) c_2
    refine lv_bipush (v := 10) hx hb dX12_in_17 (by decide) ?_
    have hlv_4 : (10 : Int32).toInt = 10 := rfl
    exact sj_zret hx hb hr hlocks (by decide +kernel) hS () ⟨⟨by decide, by decide⟩, (by omega)⟩ hH (sj_Knil hK) (Nat.le_of_ble_eq_true rfl) (Nat.le_of_ble_eq_true rfl) dX12_in_19
  · skip
    have h_5 := s_nle (rfl : (i 36 40).toInt = _) (rfl : x.toInt = _) c_2
    refine lv_aload_n hx hb dX12_in_8 rfl (lv_at hl 0 rfl) ?_
    refine h_getr (ci := 12) (C := RX12) (F := TX12) (N := 86) hx hb hts in12 hown hK hH (by decide) (rfl : kd 36 = 12) (by decide) rfl 39 (by decide) wd1 (fun _ h9 => h9) (by decide) rfl (t := 402) (hR 36 39 rfl) (by decide) dX12_in_9 ?_
    refine lv_iload_n hx hb dX12_in_12 rfl (lv_at hl 1 rfl) ?_
    have bx_6 : (0 : Int) ≤ (i 402 (x.toInt).toNat).toInt ∧ (i 402 (x.toInt).toNat).toInt ≤ 65535 := hO 402 (x.toInt).toNat
    refine h_cald hx hb hK hH (by decide) (rfl : kd 402 = 14) (s_vin (N := 60) (rfl : x.toInt = _) (rfl : ln 402 = 60) (by omega) (by omega)) dX12_in_13 ?_
    have ek_7 : x.toNatClampNeg = (x.toInt).toNat := (s_cl (show x.toInt = x.toInt by omega))
    refine sj_i (y := (i 402 (x.toInt).toNat)) (by rw [ek_7]) ?_
    refine lv_goto (tgt := 19) hx hb dX12_in_14 (by decide) ?_
    exact sj_zret hx hb hr hlocks (s_nc ⟨by omega, by omega⟩) hS () ⟨⟨by omega, by omega⟩, (by omega)⟩ hH (sj_Knil hK) (Nat.le_of_ble_eq_true rfl) (Nat.le_of_ble_eq_true rfl) dX12_in_19
set_option maxHeartbeats 2000000 in
set_option maxRecDepth 100000 in
theorem m_digitsAt (l : Launch) (D : va_G) (g : Nat → Nat) (ka : Nat → ClassId) (ad : Nat → Nat) (i : Nat → Nat → Int32) (r : Nat → Nat → Nat) (L : Nat → Nat → Int64) (d : Nat → Nat → UInt64) (x : Int32) (hO : OkI i) (hR : RS r) (sz : Nat) (hx0 : 0 ≤ x.toInt) (hx1 : x.toInt ≤ 200) : Met l yX12_digitsAt wsX12_digitsAt ({ frames := 1, cells := 0, slots := 0, locals := 21 }) (va_Pc [.ref (g 36), .int x] (sj_B D (hwc g ka i r L d) (hT ka) sz (gx ad (va_A (hwc g ka i r L d) sz)))) (sj_Qi (S := Unit) D (fun v u => ((0 : Int) ≤ v.toInt ∧ v.toInt ≤ 60) ∧ (dgR i x.toInt v.toInt)) (fun _ => hwc g ka i r L d) (fun _ => []) (va_A (hwc g ka i r L d) sz)) 0 0 (va_A (hwc g ka i r L d) sz) := by
  refine x_met (Ex := gx ad) (cc := cX12_digitsAt) (maxL := 3) (ret := (some .int)) (by decide) rfl (Nat.le_of_ble_eq_true rfl) ?_
  intro p e s m below meth c A ls hx hb hr hml hts hown hlocks hA hS hH hK hE hl
  have hown : s.vm.findClass RX12 = some m.cls := hown
  have hl : lv_has ls 3 [(0, .ref (g 36)), (1, .int x)] := hl
  have hK : va_K D vwCl (hT ka) s := hK
  have hb40 : (0 : Int) ≤ (i 36 40).toInt ∧ (i 36 40).toInt ≤ 60 := hO 36 40
  refine lv_iconst (v := 0) hx hb dX12_digitsAt_0 (by decide) ?_
  refine lv_istore_n (lv' := [(2, .int 0), (0, .ref (g 36)), (1, .int x)]) hx hb dX12_digitsAt_1 rfl hl (by decide) rfl (fun ls hl => ?_)
  -- loop at 2
  have lp_1 : ∀ (fuel_lp_1 : Nat) (f : Int32) (H : Heap) (locs : List Loc) (ls : Array Slot), (61 - f.toInt).toNat < fuel_lp_1 → (0 : Int) ≤ f.toInt ∧ f.toInt ≤ 60 → 0 ≤ f.toInt → soF (dgP i x.toInt) f.toInt → lv_has ls 3 [(2, .int f), (0, .ref (g 36)), (1, .int x)] → sj_H D A (hwc g ka i r L d) H → va_S A s.heap H locs → W p l e (headSpec wsX12_digitsAt ({ frames := 1, cells := 0, slots := 0, locals := 21 })).room s m ([.ref (g 36), .int x] : List Value).toArray below meth c H locs 0 0 (MQ below (sj_Qi (S := Unit) D (fun v u => ((0 : Int) ≤ v.toInt ∧ v.toInt ≤ 60) ∧ (dgR i x.toInt v.toInt)) (fun _ => hwc g ka i r L d) (fun _ => []) A) ([.ref (g 36), .int x] : List Value).toArray s 0 0 A) (F0 m 2 ls []) := by
    intro fuel_lp_1
    induction fuel_lp_1 with
    | zero => intros; omega
    | succ fuel_lp_1 ih_lp_1 =>
      intro f H locs ls hm hr_f hi_lp_1_0 hi_lp_1_1 hl hH hS
      have hdl := dg_le hi_lp_1_1 (by omega)
      refine lv_aload_n hx hb dX12_digitsAt_2 rfl (lv_at hl 1 rfl) ?_
      refine lv_iload_n hx hb dX12_digitsAt_3 rfl (lv_at hl 2 rfl) ?_
      refine lv_iload_n hx hb dX12_digitsAt_4 rfl (lv_at hl 0 rfl) ?_
      refine lv_iadd hx hb dX12_digitsAt_5 ?_
      obtain ⟨z_2, ez_2, hz_2⟩ := s_add (rfl : x.toInt = _) (rfl : f.toInt = _) (by omega) (by omega)
      refine sj_i ez_2 ?_
      refine x_calli (va_runV (As := [.int z_2]) (rest := []) ⟨hx, hb, hml, hown, hts⟩ (m_in l D g ka ad i r L d z_2 hO hR H.size (by first | omega | decide)) (cwV 1 hts gX12_digitsAt_X12_in rfl rfl rfl (by decide +kernel) ⟨(Nat.le_of_ble_eq_true rfl), (Nat.le_of_ble_eq_true rfl)⟩) (x_preV (q := (RX12, TX12, 86)) hH hK (q_obj (by decide) (rfl : kd 36 = 12) (by decide)) rfl gxb (gxw hE hS (x_F hH hS hA))) rfl rfl hl.1 rfl (lv_room (Nat.le_of_ble_eq_true rfl)) dX12_digitsAt_6 ⟨(Nat.le_of_ble_eq_true rfl), (Nat.le_of_ble_eq_true rfl)⟩) hH hS hA rfl rfl (fun r_3 _ H locs hw_4 hH hS => ?_)
      obtain ⟨hr_6, he_7⟩ := hw_4
      have hr_6 : (0 : Int) ≤ r_3.toInt ∧ r_3.toInt ≤ 65535 := hr_6
      rw [show z_2.toInt = x.toInt + f.toInt by omega] at he_7
      have hio_8 := inB_or i (x.toInt + f.toInt)
      refine lv_bipush (v := 48) hx hb dX12_digitsAt_9 (by decide) ?_
      refine lv_icmp_lt (tgt := 32) hx hb dX12_digitsAt_11 (by decide) (fun c_9 => ?_) (fun c_9 => ?_)
      · skip
        have h_10 := s_lt (rfl : r_3.toInt = _) (show (48 : Int32).toInt = 48 from rfl) c_9
        refine lv_iload_n hx hb dX12_digitsAt_32 rfl (lv_at hl 0 rfl) ?_
        exact sj_zret hx hb hr hlocks rfl hS () ⟨⟨by omega, by omega⟩, ⟨by omega, hi_lp_1_1, fun q => by have q1 := q.1; have q2 := q.2; omega⟩⟩ hH (sj_Knil hK) (Nat.le_of_ble_eq_true rfl) (Nat.le_of_ble_eq_true rfl) dX12_digitsAt_33
      · skip
        have h_11 := s_nlt (rfl : r_3.toInt = _) (show (48 : Int32).toInt = 48 from rfl) c_9
        refine lv_aload_n hx hb dX12_digitsAt_14 rfl (lv_at hl 1 rfl) ?_
        refine lv_iload_n hx hb dX12_digitsAt_15 rfl (lv_at hl 2 rfl) ?_
        refine lv_iload_n hx hb dX12_digitsAt_16 rfl (lv_at hl 0 rfl) ?_
        refine lv_iadd hx hb dX12_digitsAt_17 ?_
        obtain ⟨z_12, ez_12, hz_12⟩ := s_add (rfl : x.toInt = _) (rfl : f.toInt = _) (by omega) (by omega)
        refine sj_i ez_12 ?_
        refine x_calli (va_runV (As := [.int z_12]) (rest := []) ⟨hx, hb, hml, hown, hts⟩ (m_in l D g ka ad i r L d z_12 hO hR H.size (by first | omega | decide)) (cwV 1 hts gX12_digitsAt_X12_in rfl rfl rfl (by decide +kernel) ⟨(Nat.le_of_ble_eq_true rfl), (Nat.le_of_ble_eq_true rfl)⟩) (x_preV (q := (RX12, TX12, 86)) hH hK (q_obj (by decide) (rfl : kd 36 = 12) (by decide)) rfl gxb (gxw hE hS (x_F hH hS hA))) rfl rfl hl.1 rfl (lv_room (Nat.le_of_ble_eq_true rfl)) dX12_digitsAt_18 ⟨(Nat.le_of_ble_eq_true rfl), (Nat.le_of_ble_eq_true rfl)⟩) hH hS hA rfl rfl (fun r_13 _ H locs hw_14 hH hS => ?_)
        obtain ⟨hr_16, he_17⟩ := hw_14
        have hr_16 : (0 : Int) ≤ r_13.toInt ∧ r_13.toInt ≤ 65535 := hr_16
        rw [show z_12.toInt = x.toInt + f.toInt by omega] at he_17
        have hio_18 := inB_or i (x.toInt + f.toInt)
        refine lv_bipush (v := 57) hx hb dX12_digitsAt_21 (by decide) ?_
        refine lv_icmp_gt (tgt := 32) hx hb dX12_digitsAt_23 (by decide) (fun c_19 => ?_) (fun c_19 => ?_)
        · skip
          have h_20 := s_lt (show (57 : Int32).toInt = 57 from rfl) (rfl : r_13.toInt = _) c_19
          refine lv_iload_n hx hb dX12_digitsAt_32 rfl (lv_at hl 0 rfl) ?_
          exact sj_zret hx hb hr hlocks rfl hS () ⟨⟨by omega, by omega⟩, ⟨by omega, hi_lp_1_1, fun q => by have q1 := q.1; have q2 := q.2; omega⟩⟩ hH (sj_Knil hK) (Nat.le_of_ble_eq_true rfl) (Nat.le_of_ble_eq_true rfl) dX12_digitsAt_33
        · skip
          have h_21 := s_nlt (show (57 : Int32).toInt = 57 from rfl) (rfl : r_13.toInt = _) c_19
          obtain ⟨z_22, ez_22, hz_22⟩ := s_add (rfl : f.toInt = _) (show (1 : Int32).toInt = 1 from rfl) (by omega) (by omega)
          refine lv_iinc (v := z_22) (lv' := [(2, .int z_22), (0, .ref (g 36)), (1, .int x)]) hx hb dX12_digitsAt_26 hl (k := 0) rfl ez_22 (by decide) rfl (fun ls hl => ?_)
          refine lv_goto (tgt := 2) hx hb dX12_digitsAt_29 (by decide) ?_
          exact ih_lp_1 z_22 _ _ ls (by omega) (by omega) (by omega) (soF_s hi_lp_1_1 (by omega) (show dgP i x.toInt f.toInt from ⟨by omega, by omega⟩)) (lv_sub hl [0, 1, 2] rfl) hH hS
  have hl_23 : (0 : Int32).toInt = 0 := rfl
  exact lp_1 _ 0 _ _ ls (Nat.lt_succ_self _) (by omega) (by omega) (soF_0 rfl) (lv_sub hl [0, 1, 2] rfl) hH hS
set_option maxHeartbeats 2000000 in
set_option maxRecDepth 100000 in
theorem m_most (l : Launch) (D : va_G) (g : Nat → Nat) (ka : Nat → ClassId) (ad : Nat → Nat) (i : Nat → Nat → Int32) (r : Nat → Nat → Nat) (L : Nat → Nat → Int64) (d : Nat → Nat → UInt64) (x : Int32) (y : Int32) (hO : OkI i) (hR : RS r) (sz : Nat) (hx0 : 0 ≤ x.toInt) (hx1 : x.toInt ≤ 65535) (hy0 : 0 ≤ y.toInt) (hy1 : y.toInt ≤ 61) : Met l yX12_most wsX12_most ({ frames := 2, cells := 0, slots := 0, locals := 43 }) (va_Pc [.ref (g 36), .int x, .int y] (sj_B D (hwc g ka i r L d) (hT ka) sz (gx ad (va_A (hwc g ka i r L d) sz)))) (sj_Qi (S := Unit) D (fun v u => ((0 : Int) ≤ v.toInt ∧ v.toInt ≤ 130) ∧ (moR i x.toInt y.toInt v.toInt)) (fun _ => hwc g ka i r L d) (fun _ => []) (va_A (hwc g ka i r L d) sz)) 0 0 (va_A (hwc g ka i r L d) sz) := by
  refine x_met (Ex := gx ad) (cc := cX12_most) (maxL := 6) (ret := (some .int)) (by decide) rfl (Nat.le_of_ble_eq_true rfl) ?_
  intro p e s m below meth c A ls hx hb hr hml hts hown hlocks hA hS hH hK hE hl
  have hown : s.vm.findClass RX12 = some m.cls := hown
  have in12 : ∀ w ∈ wsX120, w ∈ wsX12_most := (fun _ h => (List.mem_cons_of_mem _ (List.mem_append_right _ h)))
  have wd0 := hts (.fieldLink RX12 224 "StoryDeskModel" "filled" "I") (List.mem_cons_of_mem _ (List.mem_append_left _ lm0))
  have wd1 := hts (.fieldLink RX12 227 "StoryDeskModel" "buffer" "[C") (List.mem_cons_of_mem _ (List.mem_append_left _ lm1))
  have hl : lv_has ls 6 [(0, .ref (g 36)), (1, .int x), (2, .int y)] := hl
  have hK : va_K D vwCl (hT ka) s := hK
  have hb40 : (0 : Int) ≤ (i 36 40).toInt ∧ (i 36 40).toInt ≤ 60 := hO 36 40
  have hmn := mnB_or i y.toInt
  refine lv_aload_n hx hb dX12_most_0 rfl (lv_at hl 0 rfl) ?_
  refine lv_iload_n hx hb dX12_most_1 rfl (lv_at hl 2 rfl) ?_
  refine x_calli (va_runV (As := [.int y]) (rest := []) ⟨hx, hb, hml, hown, hts⟩ (m_in l D g ka ad i r L d y hO hR s.heap.size (by first | omega | decide)) (cwV 1 hts gX12_most_X12_in rfl rfl rfl (by decide +kernel) ⟨(Nat.le_of_ble_eq_true rfl), (Nat.le_of_ble_eq_true rfl)⟩) (x_preV (q := (RX12, TX12, 86)) hH hK (q_obj (by decide) (rfl : kd 36 = 12) (by decide)) rfl gxb (gxw hE hS (x_F hH hS hA))) rfl rfl hl.1 rfl (lv_room (Nat.le_of_ble_eq_true rfl)) dX12_most_2 ⟨(Nat.le_of_ble_eq_true rfl), (Nat.le_of_ble_eq_true rfl)⟩) hH hS hA rfl rfl (fun r_1 _ H locs hw_2 hH hS => ?_)
  obtain ⟨hr_4, he_5⟩ := hw_2
  have hr_4 : (0 : Int) ≤ r_1.toInt ∧ r_1.toInt ≤ 65535 := hr_4
  refine lv_bipush (v := 45) hx hb dX12_most_5 (by decide) ?_
  refine lv_icmp_ne (tgt := 14) hx hb dX12_most_7 (by decide) (fun c_6 => ?_) (fun c_6 => ?_)
  · skip
    have h_7 := s_ne (rfl : r_1.toInt = _) (show (45 : Int32).toInt = 45 from rfl) c_6
    refine lv_iconst (v := 0) hx hb dX12_most_14 (by decide) ?_
    refine lv_istore_n (lv' := [(3, .int 0), (0, .ref (g 36)), (1, .int x), (2, .int y)]) hx hb dX12_most_15 rfl hl (by decide) rfl (fun ls hl => ?_)
    refine lv_iconst (v := 0) hx hb dX12_most_16 (by decide) ?_
    refine lv_istore (lv' := [(4, .int 0), (3, .int 0), (0, .ref (g 36)), (1, .int x), (2, .int y)]) hx hb dX12_most_17 hl (by decide) rfl (fun ls hl => ?_)
    refine lv_iload_n hx hb dX12_most_19 rfl (lv_at hl 3 rfl) ?_
    refine lv_bipush (v := 119) hx hb dX12_most_20 (by decide) ?_
    refine lv_icmp_ne (tgt := 59) hx hb dX12_most_22 (by decide) (fun c_8 => ?_) (fun c_8 => ?_)
    · skip
      have h_9 := s_ne (rfl : x.toInt = _) (show (119 : Int32).toInt = 119 from rfl) c_8
      refine lv_iload_n hx hb dX12_most_59 rfl (lv_at hl 3 rfl) ?_
      refine lv_bipush (v := 115) hx hb dX12_most_60 (by decide) ?_
      refine lv_icmp_ne (tgt := 131) hx hb dX12_most_62 (by decide) (fun c_10 => ?_) (fun c_10 => ?_)
      · skip
        have h_11 := s_ne (rfl : x.toInt = _) (show (115 : Int32).toInt = 115 from rfl) c_10
        refine lv_aload_n hx hb dX12_most_131 rfl (lv_at hl 2 rfl) ?_
        refine lv_iload_n hx hb dX12_most_132 rfl (lv_at hl 4 rfl) ?_
        refine lv_iload_n hx hb dX12_most_133 rfl (lv_at hl 1 rfl) ?_
        refine lv_iadd hx hb dX12_most_134 ?_
        obtain ⟨z_12, ez_12, hz_12⟩ := s_add (rfl : y.toInt = _) (show (0 : Int32).toInt = 0 from rfl) (by omega) (by omega)
        refine sj_i ez_12 ?_
        refine x_calli (va_runV (As := [.int z_12]) (rest := []) ⟨hx, hb, hml, hown, hts⟩ (m_digitsAt l D g ka ad i r L d z_12 hO hR H.size (by first | omega | decide) (by first | omega | decide)) (cwV 1 hts gX12_most_X12_digitsAt rfl rfl rfl (by decide +kernel) ⟨(Nat.le_of_ble_eq_true rfl), (Nat.le_of_ble_eq_true rfl)⟩) (x_preV (q := (RX12, TX12, 86)) hH hK (q_obj (by decide) (rfl : kd 36 = 12) (by decide)) rfl gxb (gxw hE hS (x_F hH hS hA))) rfl rfl hl.1 rfl (lv_room (Nat.le_of_ble_eq_true rfl)) dX12_most_135 ⟨(Nat.le_of_ble_eq_true rfl), (Nat.le_of_ble_eq_true rfl)⟩) hH hS hA rfl rfl (fun r_13 _ H locs hw_14 hH hS => ?_)
        obtain ⟨hr_16, hx2_17⟩ := hw_14
        have hr_16 : (0 : Int) ≤ r_13.toInt ∧ r_13.toInt ≤ 60 := hr_16
        have hd0_18 := hx2_17.1
        refine lv_istore (lv' := [(4, .int r_13), (3, .int 0), (0, .ref (g 36)), (1, .int x), (2, .int y)]) hx hb dX12_most_138 hl (by decide) rfl (fun ls hl => ?_)
        refine lv_iload_n hx hb dX12_most_140 rfl (lv_at hl 3 rfl) ?_
        refine lv_bipush (v := 105) hx hb dX12_most_141 (by decide) ?_
        refine lv_icmp_ne (tgt := 172) hx hb dX12_most_143 (by decide) (fun c_19 => ?_) (fun c_19 => ?_)
        · skip
          have h_20 := s_ne (rfl : x.toInt = _) (show (105 : Int32).toInt = 105 from rfl) c_19
          refine lv_iload hx hb dX12_most_172 (lv_at hl 0 rfl) ?_
          refine lv_iconst (v := 1) hx hb dX12_most_174 (by decide) ?_
          refine lv_icmp_lt (tgt := 200) hx hb dX12_most_175 (by decide) (fun c_21 => ?_) (fun c_21 => ?_)
          · skip
            have h_22 := s_lt (rfl : r_13.toInt = _) (show (1 : Int32).toInt = 1 from rfl) c_21
            refine lv_iconst (v := 0) hx hb dX12_most_200 (by decide) ?_
            have hlv_23 : (0 : Int32).toInt = 0 := rfl
            have hV_24 : moR i x.toInt y.toInt (0 : Int32).toInt := (Or.inr (Or.inr ⟨by omega, by omega, r_13.toInt, (by rw [show y.toInt + mnB i y.toInt = z_12.toInt by omega]; exact hx2_17), Or.inr ⟨by omega, Or.inl ⟨by omega, by omega⟩⟩⟩))
            exact sj_zret hx hb hr hlocks rfl hS () ⟨⟨by decide, by decide⟩, hV_24⟩ hH (sj_Knil hK) (Nat.le_of_ble_eq_true rfl) (Nat.le_of_ble_eq_true rfl) dX12_most_201
          · skip
            have h_25 := s_nlt (rfl : r_13.toInt = _) (show (1 : Int32).toInt = 1 from rfl) c_21
            refine lv_iload hx hb dX12_most_178 (lv_at hl 0 rfl) ?_
            refine lv_bipush (v := 6) hx hb dX12_most_180 (by decide) ?_
            refine lv_icmp_gt (tgt := 200) hx hb dX12_most_182 (by decide) (fun c_26 => ?_) (fun c_26 => ?_)
            · skip
              have h_27 := s_lt (show (6 : Int32).toInt = 6 from rfl) (rfl : r_13.toInt = _) c_26
              refine lv_iconst (v := 0) hx hb dX12_most_200 (by decide) ?_
              have hlv_28 : (0 : Int32).toInt = 0 := rfl
              have hV_29 : moR i x.toInt y.toInt (0 : Int32).toInt := (Or.inr (Or.inr ⟨by omega, by omega, r_13.toInt, (by rw [show y.toInt + mnB i y.toInt = z_12.toInt by omega]; exact hx2_17), Or.inr ⟨by omega, Or.inl ⟨by omega, by omega⟩⟩⟩))
              exact sj_zret hx hb hr hlocks rfl hS () ⟨⟨by decide, by decide⟩, hV_29⟩ hH (sj_Knil hK) (Nat.le_of_ble_eq_true rfl) (Nat.le_of_ble_eq_true rfl) dX12_most_201
            · skip
              have h_30 := s_nlt (show (6 : Int32).toInt = 6 from rfl) (rfl : r_13.toInt = _) c_26
              refine lv_aload_n hx hb dX12_most_185 rfl (lv_at hl 2 rfl) ?_
              refine lv_iload_n hx hb dX12_most_186 rfl (lv_at hl 4 rfl) ?_
              refine lv_iload_n hx hb dX12_most_187 rfl (lv_at hl 1 rfl) ?_
              refine lv_iadd hx hb dX12_most_188 ?_
              obtain ⟨z_31, ez_31, hz_31⟩ := s_add (rfl : y.toInt = _) (show (0 : Int32).toInt = 0 from rfl) (by omega) (by omega)
              refine sj_i ez_31 ?_
              refine lv_iload hx hb dX12_most_189 (lv_at hl 0 rfl) ?_
              refine lv_iadd hx hb dX12_most_191 ?_
              obtain ⟨z_32, ez_32, hz_32⟩ := s_add (rfl : z_31.toInt = _) (rfl : r_13.toInt = _) (by omega) (by omega)
              refine sj_i ez_32 ?_
              refine x_calli (va_runV (As := [.int z_32]) (rest := []) ⟨hx, hb, hml, hown, hts⟩ (m_in l D g ka ad i r L d z_32 hO hR H.size (by first | omega | decide)) (cwV 1 hts gX12_most_X12_in rfl rfl rfl (by decide +kernel) ⟨(Nat.le_of_ble_eq_true rfl), (Nat.le_of_ble_eq_true rfl)⟩) (x_preV (q := (RX12, TX12, 86)) hH hK (q_obj (by decide) (rfl : kd 36 = 12) (by decide)) rfl gxb (gxw hE hS (x_F hH hS hA))) rfl rfl hl.1 rfl (lv_room (Nat.le_of_ble_eq_true rfl)) dX12_most_192 ⟨(Nat.le_of_ble_eq_true rfl), (Nat.le_of_ble_eq_true rfl)⟩) hH hS hA rfl rfl (fun r_33 _ H locs hw_34 hH hS => ?_)
              obtain ⟨hr_36, he_37⟩ := hw_34
              have hr_36 : (0 : Int) ≤ r_33.toInt ∧ r_33.toInt ≤ 65535 := hr_36
              refine lv_bipush (v := 46) hx hb dX12_most_195 (by decide) ?_
              refine lv_icmp_eq (tgt := 202) hx hb dX12_most_197 (by decide) (fun c_38 => ?_) (fun c_38 => ?_)
              · skip
                have h_39 := s_eq (rfl : r_33.toInt = _) (show (46 : Int32).toInt = 46 from rfl) c_38
                refine lv_aload_n hx hb dX12_most_202 rfl (lv_at hl 2 rfl) ?_
                refine lv_iload_n hx hb dX12_most_203 rfl (lv_at hl 4 rfl) ?_
                refine lv_iload_n hx hb dX12_most_204 rfl (lv_at hl 1 rfl) ?_
                refine lv_iadd hx hb dX12_most_205 ?_
                obtain ⟨z_40, ez_40, hz_40⟩ := s_add (rfl : y.toInt = _) (show (0 : Int32).toInt = 0 from rfl) (by omega) (by omega)
                refine sj_i ez_40 ?_
                refine lv_iload hx hb dX12_most_206 (lv_at hl 0 rfl) ?_
                refine lv_iadd hx hb dX12_most_208 ?_
                obtain ⟨z_41, ez_41, hz_41⟩ := s_add (rfl : z_40.toInt = _) (rfl : r_13.toInt = _) (by omega) (by omega)
                refine sj_i ez_41 ?_
                refine lv_iconst (v := 1) hx hb dX12_most_209 (by decide) ?_
                refine lv_iadd hx hb dX12_most_210 ?_
                obtain ⟨z_42, ez_42, hz_42⟩ := s_add (rfl : z_41.toInt = _) (show (1 : Int32).toInt = 1 from rfl) (by omega) (by omega)
                refine sj_i ez_42 ?_
                refine x_calli (va_runV (As := [.int z_42]) (rest := []) ⟨hx, hb, hml, hown, hts⟩ (m_digitsAt l D g ka ad i r L d z_42 hO hR H.size (by first | omega | decide) (by first | omega | decide)) (cwV 1 hts gX12_most_X12_digitsAt rfl rfl rfl (by decide +kernel) ⟨(Nat.le_of_ble_eq_true rfl), (Nat.le_of_ble_eq_true rfl)⟩) (x_preV (q := (RX12, TX12, 86)) hH hK (q_obj (by decide) (rfl : kd 36 = 12) (by decide)) rfl gxb (gxw hE hS (x_F hH hS hA))) rfl rfl hl.1 rfl (lv_room (Nat.le_of_ble_eq_true rfl)) dX12_most_211 ⟨(Nat.le_of_ble_eq_true rfl), (Nat.le_of_ble_eq_true rfl)⟩) hH hS hA rfl rfl (fun r_43 _ H locs hw_44 hH hS => ?_)
                obtain ⟨hr_46, hx2_47⟩ := hw_44
                have hr_46 : (0 : Int) ≤ r_43.toInt ∧ r_43.toInt ≤ 60 := hr_46
                have hd0_48 := hx2_47.1
                refine lv_istore (lv' := [(5, .int r_43), (4, .int r_13), (3, .int 0), (0, .ref (g 36)), (1, .int x), (2, .int y)]) hx hb dX12_most_214 hl (by decide) rfl (fun ls hl => ?_)
                refine lv_iload hx hb dX12_most_216 (lv_at hl 0 rfl) ?_
                refine lv_if_ne (tgt := 225) hx hb dX12_most_218 (by decide) (fun c_49 => ?_) (fun c_49 => ?_)
                · skip
                  have h_50 := s_ne (rfl : r_43.toInt = _) (show (0 : Int32).toInt = 0 from rfl) c_49
                  refine lv_iload_n hx hb dX12_most_225 rfl (lv_at hl 2 rfl) ?_
                  refine lv_iload hx hb dX12_most_226 (lv_at hl 1 rfl) ?_
                  refine lv_iadd hx hb dX12_most_228 ?_
                  obtain ⟨z_51, ez_51, hz_51⟩ := s_add (show (0 : Int32).toInt = 0 from rfl) (rfl : r_13.toInt = _) (by omega) (by omega)
                  refine sj_i ez_51 ?_
                  refine lv_iconst (v := 1) hx hb dX12_most_229 (by decide) ?_
                  refine lv_iadd hx hb dX12_most_230 ?_
                  obtain ⟨z_52, ez_52, hz_52⟩ := s_add (rfl : z_51.toInt = _) (show (1 : Int32).toInt = 1 from rfl) (by omega) (by omega)
                  refine sj_i ez_52 ?_
                  refine lv_iload hx hb dX12_most_231 (lv_at hl 0 rfl) ?_
                  refine lv_iconst (v := 3) hx hb dX12_most_233 (by decide) ?_
                  refine lv_icmp_ge (tgt := 242) hx hb dX12_most_234 (by decide) (fun c_53 => ?_) (fun c_53 => ?_)
                  · skip
                    have h_54 := s_le (show (3 : Int32).toInt = 3 from rfl) (rfl : r_43.toInt = _) c_53
                    refine lv_iconst (v := 3) hx hb dX12_most_242 (by decide) ?_
                    refine lv_iadd hx hb dX12_most_243 ?_
                    obtain ⟨z_55, ez_55, hz_55⟩ := s_add (rfl : z_52.toInt = _) (show (3 : Int32).toInt = 3 from rfl) (by omega) (by omega)
                    refine sj_i ez_55 ?_
                    have hV_56 : moR i x.toInt y.toInt (z_55 : Int32).toInt := (Or.inr (Or.inr ⟨by omega, by omega, r_13.toInt, (by rw [show y.toInt + mnB i y.toInt = z_12.toInt by omega]; exact hx2_17), Or.inr ⟨by omega, Or.inr ⟨⟨by omega, by omega, by rw [show y.toInt + mnB i y.toInt + r_13.toInt = z_32.toInt by omega]; omega⟩, r_43.toInt, (by rw [show y.toInt + mnB i y.toInt + r_13.toInt + 1 = z_42.toInt by omega]; exact hx2_47), by omega⟩⟩⟩))
                    exact sj_zret hx hb hr hlocks rfl hS () ⟨⟨by omega, by omega⟩, hV_56⟩ hH (sj_Knil hK) (Nat.le_of_ble_eq_true rfl) (Nat.le_of_ble_eq_true rfl) dX12_most_244
                  · skip
                    have h_57 := s_nle (show (3 : Int32).toInt = 3 from rfl) (rfl : r_43.toInt = _) c_53
                    refine lv_iload hx hb dX12_most_237 (lv_at hl 0 rfl) ?_
                    refine lv_goto (tgt := 243) hx hb dX12_most_239 (by decide) ?_
                    refine lv_iadd hx hb dX12_most_243 ?_
                    obtain ⟨z_58, ez_58, hz_58⟩ := s_add (rfl : z_52.toInt = _) (rfl : r_43.toInt = _) (by omega) (by omega)
                    refine sj_i ez_58 ?_
                    have hV_59 : moR i x.toInt y.toInt (z_58 : Int32).toInt := (Or.inr (Or.inr ⟨by omega, by omega, r_13.toInt, (by rw [show y.toInt + mnB i y.toInt = z_12.toInt by omega]; exact hx2_17), Or.inr ⟨by omega, Or.inr ⟨⟨by omega, by omega, by rw [show y.toInt + mnB i y.toInt + r_13.toInt = z_32.toInt by omega]; omega⟩, r_43.toInt, (by rw [show y.toInt + mnB i y.toInt + r_13.toInt + 1 = z_42.toInt by omega]; exact hx2_47), by omega⟩⟩⟩))
                    exact sj_zret hx hb hr hlocks rfl hS () ⟨⟨by omega, by omega⟩, hV_59⟩ hH (sj_Knil hK) (Nat.le_of_ble_eq_true rfl) (Nat.le_of_ble_eq_true rfl) dX12_most_244
                · skip
                  have h_60 := s_eq (rfl : r_43.toInt = _) (show (0 : Int32).toInt = 0 from rfl) c_49
                  refine lv_iconst (v := 0) hx hb dX12_most_221 (by decide) ?_
                  refine lv_goto (tgt := 244) hx hb dX12_most_222 (by decide) ?_
                  have hlv_61 : (0 : Int32).toInt = 0 := rfl
                  have hV_62 : moR i x.toInt y.toInt (0 : Int32).toInt := (Or.inr (Or.inr ⟨by omega, by omega, r_13.toInt, (by rw [show y.toInt + mnB i y.toInt = z_12.toInt by omega]; exact hx2_17), Or.inr ⟨by omega, Or.inr ⟨⟨by omega, by omega, by rw [show y.toInt + mnB i y.toInt + r_13.toInt = z_32.toInt by omega]; omega⟩, r_43.toInt, (by rw [show y.toInt + mnB i y.toInt + r_13.toInt + 1 = z_42.toInt by omega]; exact hx2_47), by omega⟩⟩⟩))
                  exact sj_zret hx hb hr hlocks rfl hS () ⟨⟨by decide, by decide⟩, hV_62⟩ hH (sj_Knil hK) (Nat.le_of_ble_eq_true rfl) (Nat.le_of_ble_eq_true rfl) dX12_most_244
              · skip
                have h_63 := s_ne (rfl : r_33.toInt = _) (show (46 : Int32).toInt = 46 from rfl) c_38
                refine lv_iconst (v := 0) hx hb dX12_most_200 (by decide) ?_
                have hlv_64 : (0 : Int32).toInt = 0 := rfl
                have hV_65 : moR i x.toInt y.toInt (0 : Int32).toInt := (Or.inr (Or.inr ⟨by omega, by omega, r_13.toInt, (by rw [show y.toInt + mnB i y.toInt = z_12.toInt by omega]; exact hx2_17), Or.inr ⟨by omega, Or.inl ⟨Or.inr (Or.inr (by rw [show y.toInt + mnB i y.toInt + r_13.toInt = z_32.toInt by omega]; omega)), by omega⟩⟩⟩))
                exact sj_zret hx hb hr hlocks rfl hS () ⟨⟨by decide, by decide⟩, hV_65⟩ hH (sj_Knil hK) (Nat.le_of_ble_eq_true rfl) (Nat.le_of_ble_eq_true rfl) dX12_most_201
        · skip
          have h_66 := s_eq (rfl : x.toInt = _) (show (105 : Int32).toInt = 105 from rfl) c_19
          refine lv_iload hx hb dX12_most_146 (lv_at hl 0 rfl) ?_
          refine lv_if_ne (tgt := 155) hx hb dX12_most_148 (by decide) (fun c_67 => ?_) (fun c_67 => ?_)
          · skip
            have h_68 := s_ne (rfl : r_13.toInt = _) (show (0 : Int32).toInt = 0 from rfl) c_67
            refine lv_iload_n hx hb dX12_most_155 rfl (lv_at hl 1 rfl) ?_
            refine lv_iload hx hb dX12_most_156 (lv_at hl 0 rfl) ?_
            refine lv_bipush (v := 9) hx hb dX12_most_158 (by decide) ?_
            refine lv_icmp_ge (tgt := 168) hx hb dX12_most_160 (by decide) (fun c_69 => ?_) (fun c_69 => ?_)
            · skip
              have h_70 := s_le (show (9 : Int32).toInt = 9 from rfl) (rfl : r_13.toInt = _) c_69
              refine lv_bipush (v := 9) hx hb dX12_most_168 (by decide) ?_
              refine lv_iadd hx hb dX12_most_170 ?_
              refine sj_i (y := 9) (by decide) ?_
              have hlv_71 : (9 : Int32).toInt = 9 := rfl
              have hV_72 : moR i x.toInt y.toInt (9 : Int32).toInt := (Or.inr (Or.inr ⟨by omega, by omega, r_13.toInt, (by rw [show y.toInt + mnB i y.toInt = z_12.toInt by omega]; exact hx2_17), Or.inl ⟨by omega, by omega⟩⟩))
              exact sj_zret hx hb hr hlocks rfl hS () ⟨⟨by decide, by decide⟩, hV_72⟩ hH (sj_Knil hK) (Nat.le_of_ble_eq_true rfl) (Nat.le_of_ble_eq_true rfl) dX12_most_171
            · skip
              have h_73 := s_nle (show (9 : Int32).toInt = 9 from rfl) (rfl : r_13.toInt = _) c_69
              refine lv_iload hx hb dX12_most_163 (lv_at hl 0 rfl) ?_
              refine lv_goto (tgt := 170) hx hb dX12_most_165 (by decide) ?_
              refine lv_iadd hx hb dX12_most_170 ?_
              obtain ⟨z_74, ez_74, hz_74⟩ := s_add (show (0 : Int32).toInt = 0 from rfl) (rfl : r_13.toInt = _) (by omega) (by omega)
              refine sj_i ez_74 ?_
              have hV_75 : moR i x.toInt y.toInt (z_74 : Int32).toInt := (Or.inr (Or.inr ⟨by omega, by omega, r_13.toInt, (by rw [show y.toInt + mnB i y.toInt = z_12.toInt by omega]; exact hx2_17), Or.inl ⟨by omega, by omega⟩⟩))
              exact sj_zret hx hb hr hlocks rfl hS () ⟨⟨by omega, by omega⟩, hV_75⟩ hH (sj_Knil hK) (Nat.le_of_ble_eq_true rfl) (Nat.le_of_ble_eq_true rfl) dX12_most_171
          · skip
            have h_76 := s_eq (rfl : r_13.toInt = _) (show (0 : Int32).toInt = 0 from rfl) c_67
            refine lv_iconst (v := 0) hx hb dX12_most_151 (by decide) ?_
            refine lv_goto (tgt := 171) hx hb dX12_most_152 (by decide) ?_
            have hlv_77 : (0 : Int32).toInt = 0 := rfl
            have hV_78 : moR i x.toInt y.toInt (0 : Int32).toInt := (Or.inr (Or.inr ⟨by omega, by omega, r_13.toInt, (by rw [show y.toInt + mnB i y.toInt = z_12.toInt by omega]; exact hx2_17), Or.inl ⟨by omega, by omega⟩⟩))
            exact sj_zret hx hb hr hlocks rfl hS () ⟨⟨by decide, by decide⟩, hV_78⟩ hH (sj_Knil hK) (Nat.le_of_ble_eq_true rfl) (Nat.le_of_ble_eq_true rfl) dX12_most_171
      · skip
        have h_79 := s_eq (rfl : x.toInt = _) (show (115 : Int32).toInt = 115 from rfl) c_10
        refine lv_aload_n hx hb dX12_most_65 rfl (lv_at hl 2 rfl) ?_
        refine lv_iload_n hx hb dX12_most_66 rfl (lv_at hl 4 rfl) ?_
        refine x_calli (va_runV (As := [.int y]) (rest := []) ⟨hx, hb, hml, hown, hts⟩ (m_in l D g ka ad i r L d y hO hR H.size (by first | omega | decide)) (cwV 1 hts gX12_most_X12_in rfl rfl rfl (by decide +kernel) ⟨(Nat.le_of_ble_eq_true rfl), (Nat.le_of_ble_eq_true rfl)⟩) (x_preV (q := (RX12, TX12, 86)) hH hK (q_obj (by decide) (rfl : kd 36 = 12) (by decide)) rfl gxb (gxw hE hS (x_F hH hS hA))) rfl rfl hl.1 rfl (lv_room (Nat.le_of_ble_eq_true rfl)) dX12_most_67 ⟨(Nat.le_of_ble_eq_true rfl), (Nat.le_of_ble_eq_true rfl)⟩) hH hS hA rfl rfl (fun r_80 _ H locs hw_81 hH hS => ?_)
        obtain ⟨hr_83, he_84⟩ := hw_81
        have hr_83 : (0 : Int) ≤ r_80.toInt ∧ r_80.toInt ≤ 65535 := hr_83
        refine lv_bipush (v := 34) hx hb dX12_most_70 (by decide) ?_
        refine lv_icmp_eq (tgt := 77) hx hb dX12_most_72 (by decide) (fun c_85 => ?_) (fun c_85 => ?_)
        · skip
          have h_86 := s_eq (rfl : r_80.toInt = _) (show (34 : Int32).toInt = 34 from rfl) c_85
          refine lv_iconst (v := 1) hx hb dX12_most_77 (by decide) ?_
          refine lv_istore (lv' := [(4, .int 1), (3, .int 0), (0, .ref (g 36)), (1, .int x), (2, .int y)]) hx hb dX12_most_78 hl (by decide) rfl (fun ls hl => ?_)
          -- loop at 80
          have lp_87 : ∀ (fuel_lp_87 : Nat) (f : Int32) (H : Heap) (locs : List Loc) (ls : Array Slot), (61 - f.toInt).toNat < fuel_lp_87 → (1 : Int) ≤ f.toInt ∧ f.toInt ≤ 61 → 1 ≤ f.toInt ∧ (f.toInt = 1 ∨ y.toInt + f.toInt ≤ (i 36 40).toInt) → soF (sP i y.toInt) (f.toInt - 1) → lv_has ls 6 [(4, .int f), (3, .int 0), (0, .ref (g 36)), (1, .int x), (2, .int y)] → sj_H D A (hwc g ka i r L d) H → va_S A s.heap H locs → W p l e (headSpec wsX12_most ({ frames := 2, cells := 0, slots := 0, locals := 43 })).room s m ([.ref (g 36), .int x, .int y] : List Value).toArray below meth c H locs 0 0 (MQ below (sj_Qi (S := Unit) D (fun v u => ((0 : Int) ≤ v.toInt ∧ v.toInt ≤ 130) ∧ (moR i x.toInt y.toInt v.toInt)) (fun _ => hwc g ka i r L d) (fun _ => []) A) ([.ref (g 36), .int x, .int y] : List Value).toArray s 0 0 A) (F0 m 80 ls []) := by
            intro fuel_lp_87
            induction fuel_lp_87 with
            | zero => intros; omega
            | succ fuel_lp_87 ih_lp_87 =>
              intro f H locs ls hm hr_f hi_lp_87_0 hi_lp_87_1 hl hH hS
              refine lv_iload_n hx hb dX12_most_80 rfl (lv_at hl 4 rfl) ?_
              refine lv_iload hx hb dX12_most_81 (lv_at hl 0 rfl) ?_
              refine lv_iadd hx hb dX12_most_83 ?_
              obtain ⟨z_88, ez_88, hz_88⟩ := s_add (rfl : y.toInt = _) (rfl : f.toInt = _) (by omega) (by omega)
              refine sj_i ez_88 ?_
              refine lv_aload_n hx hb dX12_most_84 rfl (lv_at hl 2 rfl) ?_
              have bx_89 : (0 : Int) ≤ (i 36 40).toInt ∧ (i 36 40).toInt ≤ 60 := hO 36 40
              refine h_geti (ci := 12) (C := RX12) (F := TX12) (N := 86) hx hb hts in12 hown hK hH (by decide) (rfl : kd 36 = 12) (by decide) rfl 40 (by decide) wd0 (fun _ h9 => h9) (by decide) rfl dX12_most_85 ?_
              refine lv_icmp_ge (tgt := 111) hx hb dX12_most_88 (by decide) (fun c_90 => ?_) (fun c_90 => ?_)
              · skip
                have h_91 := s_le (rfl : (i 36 40).toInt = _) (rfl : z_88.toInt = _) c_90
                refine lv_iload_n hx hb dX12_most_111 rfl (lv_at hl 4 rfl) ?_
                refine lv_iload hx hb dX12_most_112 (lv_at hl 0 rfl) ?_
                refine lv_iadd hx hb dX12_most_114 ?_
                obtain ⟨z_92, ez_92, hz_92⟩ := s_add (rfl : y.toInt = _) (rfl : f.toInt = _) (by omega) (by omega)
                refine sj_i ez_92 ?_
                refine lv_aload_n hx hb dX12_most_115 rfl (lv_at hl 2 rfl) ?_
                refine h_geti (ci := 12) (C := RX12) (F := TX12) (N := 86) hx hb hts in12 hown hK hH (by decide) (rfl : kd 36 = 12) (by decide) rfl 40 (by decide) wd0 (fun _ h9 => h9) (by decide) rfl dX12_most_116 ?_
                refine lv_icmp_ge (tgt := 129) hx hb dX12_most_119 (by decide) (fun c_93 => ?_) (fun c_93 => ?_)
                · skip
                  have h_94 := s_le (rfl : (i 36 40).toInt = _) (rfl : z_92.toInt = _) c_93
                  refine lv_iconst (v := 0) hx hb dX12_most_129 (by decide) ?_
                  have hlv_95 : (0 : Int32).toInt = 0 := rfl
                  have hV_96 : moR i x.toInt y.toInt (0 : Int32).toInt := (Or.inr (Or.inl ⟨by omega, Or.inr ⟨by omega, f.toInt - 1, ⟨by omega, hi_lp_87_1, fun q => by have q1 := q.1; have q2 := q.2; rw [show y.toInt + 1 + (f.toInt - 1) = f.toInt + y.toInt by omega] at q2; omega⟩, by omega⟩⟩))
                  exact sj_zret hx hb hr hlocks rfl hS () ⟨⟨by decide, by decide⟩, hV_96⟩ hH (sj_Knil hK) (Nat.le_of_ble_eq_true rfl) (Nat.le_of_ble_eq_true rfl) dX12_most_130
                · skip
                  have h_97 := s_nle (rfl : (i 36 40).toInt = _) (rfl : z_92.toInt = _) c_93
                  refine lv_iload hx hb dX12_most_122 (lv_at hl 0 rfl) ?_
                  refine lv_iconst (v := 1) hx hb dX12_most_124 (by decide) ?_
                  refine lv_iadd hx hb dX12_most_125 ?_
                  obtain ⟨z_98, ez_98, hz_98⟩ := s_add (rfl : f.toInt = _) (show (1 : Int32).toInt = 1 from rfl) (by omega) (by omega)
                  refine sj_i ez_98 ?_
                  refine lv_goto (tgt := 130) hx hb dX12_most_126 (by decide) ?_
                  have hV_99 : moR i x.toInt y.toInt (z_98 : Int32).toInt := (Or.inr (Or.inl ⟨by omega, Or.inr ⟨by omega, f.toInt - 1, ⟨by omega, hi_lp_87_1, fun q => by have q1 := q.1; have q2 := q.2; rw [show y.toInt + 1 + (f.toInt - 1) = f.toInt + y.toInt by omega] at q2; omega⟩, by omega⟩⟩))
                  exact sj_zret hx hb hr hlocks rfl hS () ⟨⟨by omega, by omega⟩, hV_99⟩ hH (sj_Knil hK) (Nat.le_of_ble_eq_true rfl) (Nat.le_of_ble_eq_true rfl) dX12_most_130
              · skip
                have h_100 := s_nle (rfl : (i 36 40).toInt = _) (rfl : z_88.toInt = _) c_90
                refine lv_aload_n hx hb dX12_most_91 rfl (lv_at hl 2 rfl) ?_
                refine h_getr (ci := 12) (C := RX12) (F := TX12) (N := 86) hx hb hts in12 hown hK hH (by decide) (rfl : kd 36 = 12) (by decide) rfl 39 (by decide) wd1 (fun _ h9 => h9) (by decide) rfl (t := 402) (hR 36 39 rfl) (by decide) dX12_most_92 ?_
                refine lv_iload_n hx hb dX12_most_95 rfl (lv_at hl 4 rfl) ?_
                refine lv_iload hx hb dX12_most_96 (lv_at hl 0 rfl) ?_
                refine lv_iadd hx hb dX12_most_98 ?_
                obtain ⟨z_101, ez_101, hz_101⟩ := s_add (rfl : y.toInt = _) (rfl : f.toInt = _) (by omega) (by omega)
                refine sj_i ez_101 ?_
                have bx_102 : (0 : Int) ≤ (i 402 (f.toInt + y.toInt).toNat).toInt ∧ (i 402 (f.toInt + y.toInt).toNat).toInt ≤ 65535 := hO 402 (f.toInt + y.toInt).toNat
                refine h_cald hx hb hK hH (by decide) (rfl : kd 402 = 14) (s_vin (N := 60) (rfl : z_101.toInt = _) (rfl : ln 402 = 60) (by omega) (by omega)) dX12_most_99 ?_
                have ek_103 : z_101.toNatClampNeg = (f.toInt + y.toInt).toNat := (s_cl (show z_101.toInt = f.toInt + y.toInt by omega))
                refine sj_i (y := (i 402 (f.toInt + y.toInt).toNat)) (by rw [ek_103]) ?_
                refine lv_bipush (v := 34) hx hb dX12_most_100 (by decide) ?_
                refine lv_icmp_eq (tgt := 111) hx hb dX12_most_102 (by decide) (fun c_104 => ?_) (fun c_104 => ?_)
                · skip
                  have h_105 := s_eq (rfl : (i 402 (f.toInt + y.toInt).toNat).toInt = _) (show (34 : Int32).toInt = 34 from rfl) c_104
                  refine lv_iload_n hx hb dX12_most_111 rfl (lv_at hl 4 rfl) ?_
                  refine lv_iload hx hb dX12_most_112 (lv_at hl 0 rfl) ?_
                  refine lv_iadd hx hb dX12_most_114 ?_
                  obtain ⟨z_106, ez_106, hz_106⟩ := s_add (rfl : y.toInt = _) (rfl : f.toInt = _) (by omega) (by omega)
                  refine sj_i ez_106 ?_
                  refine lv_aload_n hx hb dX12_most_115 rfl (lv_at hl 2 rfl) ?_
                  refine h_geti (ci := 12) (C := RX12) (F := TX12) (N := 86) hx hb hts in12 hown hK hH (by decide) (rfl : kd 36 = 12) (by decide) rfl 40 (by decide) wd0 (fun _ h9 => h9) (by decide) rfl dX12_most_116 ?_
                  refine lv_icmp_ge (tgt := 129) hx hb dX12_most_119 (by decide) (fun c_107 => ?_) (fun c_107 => ?_)
                  · skip
                    have h_108 := s_le (rfl : (i 36 40).toInt = _) (rfl : z_106.toInt = _) c_107
                    refine lv_iconst (v := 0) hx hb dX12_most_129 (by decide) ?_
                    have hlv_109 : (0 : Int32).toInt = 0 := rfl
                    have hV_110 : moR i x.toInt y.toInt (0 : Int32).toInt := (Or.inr (Or.inl ⟨by omega, Or.inr ⟨by omega, f.toInt - 1, ⟨by omega, hi_lp_87_1, fun q => by have q1 := q.1; have q2 := q.2; rw [show y.toInt + 1 + (f.toInt - 1) = f.toInt + y.toInt by omega] at q2; omega⟩, by omega⟩⟩))
                    exact sj_zret hx hb hr hlocks rfl hS () ⟨⟨by decide, by decide⟩, hV_110⟩ hH (sj_Knil hK) (Nat.le_of_ble_eq_true rfl) (Nat.le_of_ble_eq_true rfl) dX12_most_130
                  · skip
                    have h_111 := s_nle (rfl : (i 36 40).toInt = _) (rfl : z_106.toInt = _) c_107
                    refine lv_iload hx hb dX12_most_122 (lv_at hl 0 rfl) ?_
                    refine lv_iconst (v := 1) hx hb dX12_most_124 (by decide) ?_
                    refine lv_iadd hx hb dX12_most_125 ?_
                    obtain ⟨z_112, ez_112, hz_112⟩ := s_add (rfl : f.toInt = _) (show (1 : Int32).toInt = 1 from rfl) (by omega) (by omega)
                    refine sj_i ez_112 ?_
                    refine lv_goto (tgt := 130) hx hb dX12_most_126 (by decide) ?_
                    have hV_113 : moR i x.toInt y.toInt (z_112 : Int32).toInt := (Or.inr (Or.inl ⟨by omega, Or.inr ⟨by omega, f.toInt - 1, ⟨by omega, hi_lp_87_1, fun q => by have q1 := q.1; have q2 := q.2; rw [show y.toInt + 1 + (f.toInt - 1) = f.toInt + y.toInt by omega] at q2; omega⟩, by omega⟩⟩))
                    exact sj_zret hx hb hr hlocks rfl hS () ⟨⟨by omega, by omega⟩, hV_113⟩ hH (sj_Knil hK) (Nat.le_of_ble_eq_true rfl) (Nat.le_of_ble_eq_true rfl) dX12_most_130
                · skip
                  have h_114 := s_ne (rfl : (i 402 (f.toInt + y.toInt).toNat).toInt = _) (show (34 : Int32).toInt = 34 from rfl) c_104
                  obtain ⟨z_115, ez_115, hz_115⟩ := s_add (rfl : f.toInt = _) (show (1 : Int32).toInt = 1 from rfl) (by omega) (by omega)
                  refine lv_iinc (v := z_115) (lv' := [(4, .int z_115), (3, .int 0), (0, .ref (g 36)), (1, .int x), (2, .int y)]) hx hb dX12_most_105 hl (k := 0) rfl ez_115 (by decide) rfl (fun ls hl => ?_)
                  refine lv_goto (tgt := 80) hx hb dX12_most_108 (by decide) ?_
                  exact ih_lp_87 z_115 _ _ ls (by omega) (by omega) (by omega) (soF_s hi_lp_87_1 (by omega) (show sP i y.toInt (f.toInt - 1) from ⟨by omega, by rw [show y.toInt + 1 + (f.toInt - 1) = f.toInt + y.toInt by omega]; omega⟩)) (lv_sub hl [0, 1, 2, 3, 4] rfl) hH hS
          have hl_116 : (1 : Int32).toInt = 1 := rfl
          exact lp_87 _ 1 _ _ ls (Nat.lt_succ_self _) (by omega) (by omega) (soF_0 (by rfl)) (lv_sub hl [0, 1, 2, 3, 4] rfl) hH hS
        · skip
          have h_117 := s_ne (rfl : r_80.toInt = _) (show (34 : Int32).toInt = 34 from rfl) c_85
          refine lv_iconst (v := 0) hx hb dX12_most_75 (by decide) ?_
          have hlv_118 : (0 : Int32).toInt = 0 := rfl
          have hV_119 : moR i x.toInt y.toInt (0 : Int32).toInt := (Or.inr (Or.inl ⟨by omega, Or.inl ⟨by omega, by omega⟩⟩))
          exact sj_zret hx hb hr hlocks rfl hS () ⟨⟨by decide, by decide⟩, hV_119⟩ hH (sj_Knil hK) (Nat.le_of_ble_eq_true rfl) (Nat.le_of_ble_eq_true rfl) dX12_most_76
    · skip
      have h_120 := s_eq (rfl : x.toInt = _) (show (119 : Int32).toInt = 119 from rfl) c_8
      -- loop at 25
      have lp_121 : ∀ (fuel_lp_121 : Nat) (f : Int32) (H : Heap) (locs : List Loc) (ls : Array Slot), (61 - f.toInt).toNat < fuel_lp_121 → (0 : Int) ≤ f.toInt ∧ f.toInt ≤ 61 → 0 ≤ f.toInt ∧ (f.toInt = 0 ∨ y.toInt + f.toInt ≤ (i 36 40).toInt) → soF (wP i y.toInt) f.toInt → lv_has ls 6 [(4, .int f), (3, .int 0), (0, .ref (g 36)), (1, .int x), (2, .int y)] → sj_H D A (hwc g ka i r L d) H → va_S A s.heap H locs → W p l e (headSpec wsX12_most ({ frames := 2, cells := 0, slots := 0, locals := 43 })).room s m ([.ref (g 36), .int x, .int y] : List Value).toArray below meth c H locs 0 0 (MQ below (sj_Qi (S := Unit) D (fun v u => ((0 : Int) ≤ v.toInt ∧ v.toInt ≤ 130) ∧ (moR i x.toInt y.toInt v.toInt)) (fun _ => hwc g ka i r L d) (fun _ => []) A) ([.ref (g 36), .int x, .int y] : List Value).toArray s 0 0 A) (F0 m 25 ls []) := by
        intro fuel_lp_121
        induction fuel_lp_121 with
        | zero => intros; omega
        | succ fuel_lp_121 ih_lp_121 =>
          intro f H locs ls hm hr_f hi_lp_121_0 hi_lp_121_1 hl hH hS
          refine lv_iload_n hx hb dX12_most_25 rfl (lv_at hl 4 rfl) ?_
          refine lv_iload hx hb dX12_most_26 (lv_at hl 0 rfl) ?_
          refine lv_iadd hx hb dX12_most_28 ?_
          obtain ⟨z_122, ez_122, hz_122⟩ := s_add (rfl : y.toInt = _) (rfl : f.toInt = _) (by omega) (by omega)
          refine sj_i ez_122 ?_
          refine lv_aload_n hx hb dX12_most_29 rfl (lv_at hl 2 rfl) ?_
          have bx_123 : (0 : Int) ≤ (i 36 40).toInt ∧ (i 36 40).toInt ≤ 60 := hO 36 40
          refine h_geti (ci := 12) (C := RX12) (F := TX12) (N := 86) hx hb hts in12 hown hK hH (by decide) (rfl : kd 36 = 12) (by decide) rfl 40 (by decide) wd0 (fun _ h9 => h9) (by decide) rfl dX12_most_30 ?_
          refine lv_icmp_ge (tgt := 56) hx hb dX12_most_33 (by decide) (fun c_124 => ?_) (fun c_124 => ?_)
          · skip
            have h_125 := s_le (rfl : (i 36 40).toInt = _) (rfl : z_122.toInt = _) c_124
            refine lv_iload hx hb dX12_most_56 (lv_at hl 0 rfl) ?_
            have hV_126 : moR i x.toInt y.toInt (f : Int32).toInt := (Or.inl ⟨by omega, by omega, hi_lp_121_1, fun q => by have q1 := q.1; have q2 := q.2; rw [show y.toInt + f.toInt = f.toInt + y.toInt by omega] at q2; omega⟩)
            exact sj_zret hx hb hr hlocks rfl hS () ⟨⟨by omega, by omega⟩, hV_126⟩ hH (sj_Knil hK) (Nat.le_of_ble_eq_true rfl) (Nat.le_of_ble_eq_true rfl) dX12_most_58
          · skip
            have h_127 := s_nle (rfl : (i 36 40).toInt = _) (rfl : z_122.toInt = _) c_124
            refine lv_aload_n hx hb dX12_most_36 rfl (lv_at hl 2 rfl) ?_
            refine h_getr (ci := 12) (C := RX12) (F := TX12) (N := 86) hx hb hts in12 hown hK hH (by decide) (rfl : kd 36 = 12) (by decide) rfl 39 (by decide) wd1 (fun _ h9 => h9) (by decide) rfl (t := 402) (hR 36 39 rfl) (by decide) dX12_most_37 ?_
            refine lv_iload_n hx hb dX12_most_40 rfl (lv_at hl 4 rfl) ?_
            refine lv_iload hx hb dX12_most_41 (lv_at hl 0 rfl) ?_
            refine lv_iadd hx hb dX12_most_43 ?_
            obtain ⟨z_128, ez_128, hz_128⟩ := s_add (rfl : y.toInt = _) (rfl : f.toInt = _) (by omega) (by omega)
            refine sj_i ez_128 ?_
            have bx_129 : (0 : Int) ≤ (i 402 (f.toInt + y.toInt).toNat).toInt ∧ (i 402 (f.toInt + y.toInt).toNat).toInt ≤ 65535 := hO 402 (f.toInt + y.toInt).toNat
            refine h_cald hx hb hK hH (by decide) (rfl : kd 402 = 14) (s_vin (N := 60) (rfl : z_128.toInt = _) (rfl : ln 402 = 60) (by omega) (by omega)) dX12_most_44 ?_
            have ek_130 : z_128.toNatClampNeg = (f.toInt + y.toInt).toNat := (s_cl (show z_128.toInt = f.toInt + y.toInt by omega))
            refine sj_i (y := (i 402 (f.toInt + y.toInt).toNat)) (by rw [ek_130]) ?_
            refine lv_bipush (v := 32) hx hb dX12_most_45 (by decide) ?_
            refine lv_icmp_eq (tgt := 56) hx hb dX12_most_47 (by decide) (fun c_131 => ?_) (fun c_131 => ?_)
            · skip
              have h_132 := s_eq (rfl : (i 402 (f.toInt + y.toInt).toNat).toInt = _) (show (32 : Int32).toInt = 32 from rfl) c_131
              refine lv_iload hx hb dX12_most_56 (lv_at hl 0 rfl) ?_
              have hV_133 : moR i x.toInt y.toInt (f : Int32).toInt := (Or.inl ⟨by omega, by omega, hi_lp_121_1, fun q => by have q1 := q.1; have q2 := q.2; rw [show y.toInt + f.toInt = f.toInt + y.toInt by omega] at q2; omega⟩)
              exact sj_zret hx hb hr hlocks rfl hS () ⟨⟨by omega, by omega⟩, hV_133⟩ hH (sj_Knil hK) (Nat.le_of_ble_eq_true rfl) (Nat.le_of_ble_eq_true rfl) dX12_most_58
            · skip
              have h_134 := s_ne (rfl : (i 402 (f.toInt + y.toInt).toNat).toInt = _) (show (32 : Int32).toInt = 32 from rfl) c_131
              obtain ⟨z_135, ez_135, hz_135⟩ := s_add (rfl : f.toInt = _) (show (1 : Int32).toInt = 1 from rfl) (by omega) (by omega)
              refine lv_iinc (v := z_135) (lv' := [(4, .int z_135), (3, .int 0), (0, .ref (g 36)), (1, .int x), (2, .int y)]) hx hb dX12_most_50 hl (k := 0) rfl ez_135 (by decide) rfl (fun ls hl => ?_)
              refine lv_goto (tgt := 25) hx hb dX12_most_53 (by decide) ?_
              exact ih_lp_121 z_135 _ _ ls (by omega) (by omega) (by omega) (soF_s hi_lp_121_1 (by omega) (show wP i y.toInt f.toInt from ⟨by omega, by rw [show y.toInt + f.toInt = f.toInt + y.toInt by omega]; omega⟩)) (lv_sub hl [0, 1, 2, 3, 4] rfl) hH hS
      have hl_136 : (0 : Int32).toInt = 0 := rfl
      exact lp_121 _ 0 _ _ ls (Nat.lt_succ_self _) (by omega) (by omega) (soF_0 (by rfl)) (lv_sub hl [0, 1, 2, 3, 4] rfl) hH hS
  · skip
    have h_137 := s_eq (rfl : r_1.toInt = _) (show (45 : Int32).toInt = 45 from rfl) c_6
    refine lv_iconst (v := 1) hx hb dX12_most_10 (by decide) ?_
    refine lv_goto (tgt := 15) hx hb dX12_most_11 (by decide) ?_
    refine lv_istore_n (lv' := [(3, .int 1), (0, .ref (g 36)), (1, .int x), (2, .int y)]) hx hb dX12_most_15 rfl hl (by decide) rfl (fun ls hl => ?_)
    refine lv_iconst (v := 0) hx hb dX12_most_16 (by decide) ?_
    refine lv_istore (lv' := [(4, .int 0), (3, .int 1), (0, .ref (g 36)), (1, .int x), (2, .int y)]) hx hb dX12_most_17 hl (by decide) rfl (fun ls hl => ?_)
    refine lv_iload_n hx hb dX12_most_19 rfl (lv_at hl 3 rfl) ?_
    refine lv_bipush (v := 119) hx hb dX12_most_20 (by decide) ?_
    refine lv_icmp_ne (tgt := 59) hx hb dX12_most_22 (by decide) (fun c_138 => ?_) (fun c_138 => ?_)
    · skip
      have h_139 := s_ne (rfl : x.toInt = _) (show (119 : Int32).toInt = 119 from rfl) c_138
      refine lv_iload_n hx hb dX12_most_59 rfl (lv_at hl 3 rfl) ?_
      refine lv_bipush (v := 115) hx hb dX12_most_60 (by decide) ?_
      refine lv_icmp_ne (tgt := 131) hx hb dX12_most_62 (by decide) (fun c_140 => ?_) (fun c_140 => ?_)
      · skip
        have h_141 := s_ne (rfl : x.toInt = _) (show (115 : Int32).toInt = 115 from rfl) c_140
        refine lv_aload_n hx hb dX12_most_131 rfl (lv_at hl 2 rfl) ?_
        refine lv_iload_n hx hb dX12_most_132 rfl (lv_at hl 4 rfl) ?_
        refine lv_iload_n hx hb dX12_most_133 rfl (lv_at hl 1 rfl) ?_
        refine lv_iadd hx hb dX12_most_134 ?_
        obtain ⟨z_142, ez_142, hz_142⟩ := s_add (rfl : y.toInt = _) (show (1 : Int32).toInt = 1 from rfl) (by omega) (by omega)
        refine sj_i ez_142 ?_
        refine x_calli (va_runV (As := [.int z_142]) (rest := []) ⟨hx, hb, hml, hown, hts⟩ (m_digitsAt l D g ka ad i r L d z_142 hO hR H.size (by first | omega | decide) (by first | omega | decide)) (cwV 1 hts gX12_most_X12_digitsAt rfl rfl rfl (by decide +kernel) ⟨(Nat.le_of_ble_eq_true rfl), (Nat.le_of_ble_eq_true rfl)⟩) (x_preV (q := (RX12, TX12, 86)) hH hK (q_obj (by decide) (rfl : kd 36 = 12) (by decide)) rfl gxb (gxw hE hS (x_F hH hS hA))) rfl rfl hl.1 rfl (lv_room (Nat.le_of_ble_eq_true rfl)) dX12_most_135 ⟨(Nat.le_of_ble_eq_true rfl), (Nat.le_of_ble_eq_true rfl)⟩) hH hS hA rfl rfl (fun r_143 _ H locs hw_144 hH hS => ?_)
        obtain ⟨hr_146, hx2_147⟩ := hw_144
        have hr_146 : (0 : Int) ≤ r_143.toInt ∧ r_143.toInt ≤ 60 := hr_146
        have hd0_148 := hx2_147.1
        refine lv_istore (lv' := [(4, .int r_143), (3, .int 1), (0, .ref (g 36)), (1, .int x), (2, .int y)]) hx hb dX12_most_138 hl (by decide) rfl (fun ls hl => ?_)
        refine lv_iload_n hx hb dX12_most_140 rfl (lv_at hl 3 rfl) ?_
        refine lv_bipush (v := 105) hx hb dX12_most_141 (by decide) ?_
        refine lv_icmp_ne (tgt := 172) hx hb dX12_most_143 (by decide) (fun c_149 => ?_) (fun c_149 => ?_)
        · skip
          have h_150 := s_ne (rfl : x.toInt = _) (show (105 : Int32).toInt = 105 from rfl) c_149
          refine lv_iload hx hb dX12_most_172 (lv_at hl 0 rfl) ?_
          refine lv_iconst (v := 1) hx hb dX12_most_174 (by decide) ?_
          refine lv_icmp_lt (tgt := 200) hx hb dX12_most_175 (by decide) (fun c_151 => ?_) (fun c_151 => ?_)
          · skip
            have h_152 := s_lt (rfl : r_143.toInt = _) (show (1 : Int32).toInt = 1 from rfl) c_151
            refine lv_iconst (v := 0) hx hb dX12_most_200 (by decide) ?_
            have hlv_153 : (0 : Int32).toInt = 0 := rfl
            have hV_154 : moR i x.toInt y.toInt (0 : Int32).toInt := (Or.inr (Or.inr ⟨by omega, by omega, r_143.toInt, (by rw [show y.toInt + mnB i y.toInt = z_142.toInt by omega]; exact hx2_147), Or.inr ⟨by omega, Or.inl ⟨by omega, by omega⟩⟩⟩))
            exact sj_zret hx hb hr hlocks rfl hS () ⟨⟨by decide, by decide⟩, hV_154⟩ hH (sj_Knil hK) (Nat.le_of_ble_eq_true rfl) (Nat.le_of_ble_eq_true rfl) dX12_most_201
          · skip
            have h_155 := s_nlt (rfl : r_143.toInt = _) (show (1 : Int32).toInt = 1 from rfl) c_151
            refine lv_iload hx hb dX12_most_178 (lv_at hl 0 rfl) ?_
            refine lv_bipush (v := 6) hx hb dX12_most_180 (by decide) ?_
            refine lv_icmp_gt (tgt := 200) hx hb dX12_most_182 (by decide) (fun c_156 => ?_) (fun c_156 => ?_)
            · skip
              have h_157 := s_lt (show (6 : Int32).toInt = 6 from rfl) (rfl : r_143.toInt = _) c_156
              refine lv_iconst (v := 0) hx hb dX12_most_200 (by decide) ?_
              have hlv_158 : (0 : Int32).toInt = 0 := rfl
              have hV_159 : moR i x.toInt y.toInt (0 : Int32).toInt := (Or.inr (Or.inr ⟨by omega, by omega, r_143.toInt, (by rw [show y.toInt + mnB i y.toInt = z_142.toInt by omega]; exact hx2_147), Or.inr ⟨by omega, Or.inl ⟨by omega, by omega⟩⟩⟩))
              exact sj_zret hx hb hr hlocks rfl hS () ⟨⟨by decide, by decide⟩, hV_159⟩ hH (sj_Knil hK) (Nat.le_of_ble_eq_true rfl) (Nat.le_of_ble_eq_true rfl) dX12_most_201
            · skip
              have h_160 := s_nlt (show (6 : Int32).toInt = 6 from rfl) (rfl : r_143.toInt = _) c_156
              refine lv_aload_n hx hb dX12_most_185 rfl (lv_at hl 2 rfl) ?_
              refine lv_iload_n hx hb dX12_most_186 rfl (lv_at hl 4 rfl) ?_
              refine lv_iload_n hx hb dX12_most_187 rfl (lv_at hl 1 rfl) ?_
              refine lv_iadd hx hb dX12_most_188 ?_
              obtain ⟨z_161, ez_161, hz_161⟩ := s_add (rfl : y.toInt = _) (show (1 : Int32).toInt = 1 from rfl) (by omega) (by omega)
              refine sj_i ez_161 ?_
              refine lv_iload hx hb dX12_most_189 (lv_at hl 0 rfl) ?_
              refine lv_iadd hx hb dX12_most_191 ?_
              obtain ⟨z_162, ez_162, hz_162⟩ := s_add (rfl : z_161.toInt = _) (rfl : r_143.toInt = _) (by omega) (by omega)
              refine sj_i ez_162 ?_
              refine x_calli (va_runV (As := [.int z_162]) (rest := []) ⟨hx, hb, hml, hown, hts⟩ (m_in l D g ka ad i r L d z_162 hO hR H.size (by first | omega | decide)) (cwV 1 hts gX12_most_X12_in rfl rfl rfl (by decide +kernel) ⟨(Nat.le_of_ble_eq_true rfl), (Nat.le_of_ble_eq_true rfl)⟩) (x_preV (q := (RX12, TX12, 86)) hH hK (q_obj (by decide) (rfl : kd 36 = 12) (by decide)) rfl gxb (gxw hE hS (x_F hH hS hA))) rfl rfl hl.1 rfl (lv_room (Nat.le_of_ble_eq_true rfl)) dX12_most_192 ⟨(Nat.le_of_ble_eq_true rfl), (Nat.le_of_ble_eq_true rfl)⟩) hH hS hA rfl rfl (fun r_163 _ H locs hw_164 hH hS => ?_)
              obtain ⟨hr_166, he_167⟩ := hw_164
              have hr_166 : (0 : Int) ≤ r_163.toInt ∧ r_163.toInt ≤ 65535 := hr_166
              refine lv_bipush (v := 46) hx hb dX12_most_195 (by decide) ?_
              refine lv_icmp_eq (tgt := 202) hx hb dX12_most_197 (by decide) (fun c_168 => ?_) (fun c_168 => ?_)
              · skip
                have h_169 := s_eq (rfl : r_163.toInt = _) (show (46 : Int32).toInt = 46 from rfl) c_168
                refine lv_aload_n hx hb dX12_most_202 rfl (lv_at hl 2 rfl) ?_
                refine lv_iload_n hx hb dX12_most_203 rfl (lv_at hl 4 rfl) ?_
                refine lv_iload_n hx hb dX12_most_204 rfl (lv_at hl 1 rfl) ?_
                refine lv_iadd hx hb dX12_most_205 ?_
                obtain ⟨z_170, ez_170, hz_170⟩ := s_add (rfl : y.toInt = _) (show (1 : Int32).toInt = 1 from rfl) (by omega) (by omega)
                refine sj_i ez_170 ?_
                refine lv_iload hx hb dX12_most_206 (lv_at hl 0 rfl) ?_
                refine lv_iadd hx hb dX12_most_208 ?_
                obtain ⟨z_171, ez_171, hz_171⟩ := s_add (rfl : z_170.toInt = _) (rfl : r_143.toInt = _) (by omega) (by omega)
                refine sj_i ez_171 ?_
                refine lv_iconst (v := 1) hx hb dX12_most_209 (by decide) ?_
                refine lv_iadd hx hb dX12_most_210 ?_
                obtain ⟨z_172, ez_172, hz_172⟩ := s_add (rfl : z_171.toInt = _) (show (1 : Int32).toInt = 1 from rfl) (by omega) (by omega)
                refine sj_i ez_172 ?_
                refine x_calli (va_runV (As := [.int z_172]) (rest := []) ⟨hx, hb, hml, hown, hts⟩ (m_digitsAt l D g ka ad i r L d z_172 hO hR H.size (by first | omega | decide) (by first | omega | decide)) (cwV 1 hts gX12_most_X12_digitsAt rfl rfl rfl (by decide +kernel) ⟨(Nat.le_of_ble_eq_true rfl), (Nat.le_of_ble_eq_true rfl)⟩) (x_preV (q := (RX12, TX12, 86)) hH hK (q_obj (by decide) (rfl : kd 36 = 12) (by decide)) rfl gxb (gxw hE hS (x_F hH hS hA))) rfl rfl hl.1 rfl (lv_room (Nat.le_of_ble_eq_true rfl)) dX12_most_211 ⟨(Nat.le_of_ble_eq_true rfl), (Nat.le_of_ble_eq_true rfl)⟩) hH hS hA rfl rfl (fun r_173 _ H locs hw_174 hH hS => ?_)
                obtain ⟨hr_176, hx2_177⟩ := hw_174
                have hr_176 : (0 : Int) ≤ r_173.toInt ∧ r_173.toInt ≤ 60 := hr_176
                have hd0_178 := hx2_177.1
                refine lv_istore (lv' := [(5, .int r_173), (4, .int r_143), (3, .int 1), (0, .ref (g 36)), (1, .int x), (2, .int y)]) hx hb dX12_most_214 hl (by decide) rfl (fun ls hl => ?_)
                refine lv_iload hx hb dX12_most_216 (lv_at hl 0 rfl) ?_
                refine lv_if_ne (tgt := 225) hx hb dX12_most_218 (by decide) (fun c_179 => ?_) (fun c_179 => ?_)
                · skip
                  have h_180 := s_ne (rfl : r_173.toInt = _) (show (0 : Int32).toInt = 0 from rfl) c_179
                  refine lv_iload_n hx hb dX12_most_225 rfl (lv_at hl 2 rfl) ?_
                  refine lv_iload hx hb dX12_most_226 (lv_at hl 1 rfl) ?_
                  refine lv_iadd hx hb dX12_most_228 ?_
                  obtain ⟨z_181, ez_181, hz_181⟩ := s_add (show (1 : Int32).toInt = 1 from rfl) (rfl : r_143.toInt = _) (by omega) (by omega)
                  refine sj_i ez_181 ?_
                  refine lv_iconst (v := 1) hx hb dX12_most_229 (by decide) ?_
                  refine lv_iadd hx hb dX12_most_230 ?_
                  obtain ⟨z_182, ez_182, hz_182⟩ := s_add (rfl : z_181.toInt = _) (show (1 : Int32).toInt = 1 from rfl) (by omega) (by omega)
                  refine sj_i ez_182 ?_
                  refine lv_iload hx hb dX12_most_231 (lv_at hl 0 rfl) ?_
                  refine lv_iconst (v := 3) hx hb dX12_most_233 (by decide) ?_
                  refine lv_icmp_ge (tgt := 242) hx hb dX12_most_234 (by decide) (fun c_183 => ?_) (fun c_183 => ?_)
                  · skip
                    have h_184 := s_le (show (3 : Int32).toInt = 3 from rfl) (rfl : r_173.toInt = _) c_183
                    refine lv_iconst (v := 3) hx hb dX12_most_242 (by decide) ?_
                    refine lv_iadd hx hb dX12_most_243 ?_
                    obtain ⟨z_185, ez_185, hz_185⟩ := s_add (rfl : z_182.toInt = _) (show (3 : Int32).toInt = 3 from rfl) (by omega) (by omega)
                    refine sj_i ez_185 ?_
                    have hV_186 : moR i x.toInt y.toInt (z_185 : Int32).toInt := (Or.inr (Or.inr ⟨by omega, by omega, r_143.toInt, (by rw [show y.toInt + mnB i y.toInt = z_142.toInt by omega]; exact hx2_147), Or.inr ⟨by omega, Or.inr ⟨⟨by omega, by omega, by rw [show y.toInt + mnB i y.toInt + r_143.toInt = z_162.toInt by omega]; omega⟩, r_173.toInt, (by rw [show y.toInt + mnB i y.toInt + r_143.toInt + 1 = z_172.toInt by omega]; exact hx2_177), by omega⟩⟩⟩))
                    exact sj_zret hx hb hr hlocks rfl hS () ⟨⟨by omega, by omega⟩, hV_186⟩ hH (sj_Knil hK) (Nat.le_of_ble_eq_true rfl) (Nat.le_of_ble_eq_true rfl) dX12_most_244
                  · skip
                    have h_187 := s_nle (show (3 : Int32).toInt = 3 from rfl) (rfl : r_173.toInt = _) c_183
                    refine lv_iload hx hb dX12_most_237 (lv_at hl 0 rfl) ?_
                    refine lv_goto (tgt := 243) hx hb dX12_most_239 (by decide) ?_
                    refine lv_iadd hx hb dX12_most_243 ?_
                    obtain ⟨z_188, ez_188, hz_188⟩ := s_add (rfl : z_182.toInt = _) (rfl : r_173.toInt = _) (by omega) (by omega)
                    refine sj_i ez_188 ?_
                    have hV_189 : moR i x.toInt y.toInt (z_188 : Int32).toInt := (Or.inr (Or.inr ⟨by omega, by omega, r_143.toInt, (by rw [show y.toInt + mnB i y.toInt = z_142.toInt by omega]; exact hx2_147), Or.inr ⟨by omega, Or.inr ⟨⟨by omega, by omega, by rw [show y.toInt + mnB i y.toInt + r_143.toInt = z_162.toInt by omega]; omega⟩, r_173.toInt, (by rw [show y.toInt + mnB i y.toInt + r_143.toInt + 1 = z_172.toInt by omega]; exact hx2_177), by omega⟩⟩⟩))
                    exact sj_zret hx hb hr hlocks rfl hS () ⟨⟨by omega, by omega⟩, hV_189⟩ hH (sj_Knil hK) (Nat.le_of_ble_eq_true rfl) (Nat.le_of_ble_eq_true rfl) dX12_most_244
                · skip
                  have h_190 := s_eq (rfl : r_173.toInt = _) (show (0 : Int32).toInt = 0 from rfl) c_179
                  refine lv_iconst (v := 0) hx hb dX12_most_221 (by decide) ?_
                  refine lv_goto (tgt := 244) hx hb dX12_most_222 (by decide) ?_
                  have hlv_191 : (0 : Int32).toInt = 0 := rfl
                  have hV_192 : moR i x.toInt y.toInt (0 : Int32).toInt := (Or.inr (Or.inr ⟨by omega, by omega, r_143.toInt, (by rw [show y.toInt + mnB i y.toInt = z_142.toInt by omega]; exact hx2_147), Or.inr ⟨by omega, Or.inr ⟨⟨by omega, by omega, by rw [show y.toInt + mnB i y.toInt + r_143.toInt = z_162.toInt by omega]; omega⟩, r_173.toInt, (by rw [show y.toInt + mnB i y.toInt + r_143.toInt + 1 = z_172.toInt by omega]; exact hx2_177), by omega⟩⟩⟩))
                  exact sj_zret hx hb hr hlocks rfl hS () ⟨⟨by decide, by decide⟩, hV_192⟩ hH (sj_Knil hK) (Nat.le_of_ble_eq_true rfl) (Nat.le_of_ble_eq_true rfl) dX12_most_244
              · skip
                have h_193 := s_ne (rfl : r_163.toInt = _) (show (46 : Int32).toInt = 46 from rfl) c_168
                refine lv_iconst (v := 0) hx hb dX12_most_200 (by decide) ?_
                have hlv_194 : (0 : Int32).toInt = 0 := rfl
                have hV_195 : moR i x.toInt y.toInt (0 : Int32).toInt := (Or.inr (Or.inr ⟨by omega, by omega, r_143.toInt, (by rw [show y.toInt + mnB i y.toInt = z_142.toInt by omega]; exact hx2_147), Or.inr ⟨by omega, Or.inl ⟨Or.inr (Or.inr (by rw [show y.toInt + mnB i y.toInt + r_143.toInt = z_162.toInt by omega]; omega)), by omega⟩⟩⟩))
                exact sj_zret hx hb hr hlocks rfl hS () ⟨⟨by decide, by decide⟩, hV_195⟩ hH (sj_Knil hK) (Nat.le_of_ble_eq_true rfl) (Nat.le_of_ble_eq_true rfl) dX12_most_201
        · skip
          have h_196 := s_eq (rfl : x.toInt = _) (show (105 : Int32).toInt = 105 from rfl) c_149
          refine lv_iload hx hb dX12_most_146 (lv_at hl 0 rfl) ?_
          refine lv_if_ne (tgt := 155) hx hb dX12_most_148 (by decide) (fun c_197 => ?_) (fun c_197 => ?_)
          · skip
            have h_198 := s_ne (rfl : r_143.toInt = _) (show (0 : Int32).toInt = 0 from rfl) c_197
            refine lv_iload_n hx hb dX12_most_155 rfl (lv_at hl 1 rfl) ?_
            refine lv_iload hx hb dX12_most_156 (lv_at hl 0 rfl) ?_
            refine lv_bipush (v := 9) hx hb dX12_most_158 (by decide) ?_
            refine lv_icmp_ge (tgt := 168) hx hb dX12_most_160 (by decide) (fun c_199 => ?_) (fun c_199 => ?_)
            · skip
              have h_200 := s_le (show (9 : Int32).toInt = 9 from rfl) (rfl : r_143.toInt = _) c_199
              refine lv_bipush (v := 9) hx hb dX12_most_168 (by decide) ?_
              refine lv_iadd hx hb dX12_most_170 ?_
              refine sj_i (y := 10) (by decide) ?_
              have hlv_201 : (10 : Int32).toInt = 10 := rfl
              have hV_202 : moR i x.toInt y.toInt (10 : Int32).toInt := (Or.inr (Or.inr ⟨by omega, by omega, r_143.toInt, (by rw [show y.toInt + mnB i y.toInt = z_142.toInt by omega]; exact hx2_147), Or.inl ⟨by omega, by omega⟩⟩))
              exact sj_zret hx hb hr hlocks rfl hS () ⟨⟨by decide, by decide⟩, hV_202⟩ hH (sj_Knil hK) (Nat.le_of_ble_eq_true rfl) (Nat.le_of_ble_eq_true rfl) dX12_most_171
            · skip
              have h_203 := s_nle (show (9 : Int32).toInt = 9 from rfl) (rfl : r_143.toInt = _) c_199
              refine lv_iload hx hb dX12_most_163 (lv_at hl 0 rfl) ?_
              refine lv_goto (tgt := 170) hx hb dX12_most_165 (by decide) ?_
              refine lv_iadd hx hb dX12_most_170 ?_
              obtain ⟨z_204, ez_204, hz_204⟩ := s_add (show (1 : Int32).toInt = 1 from rfl) (rfl : r_143.toInt = _) (by omega) (by omega)
              refine sj_i ez_204 ?_
              have hV_205 : moR i x.toInt y.toInt (z_204 : Int32).toInt := (Or.inr (Or.inr ⟨by omega, by omega, r_143.toInt, (by rw [show y.toInt + mnB i y.toInt = z_142.toInt by omega]; exact hx2_147), Or.inl ⟨by omega, by omega⟩⟩))
              exact sj_zret hx hb hr hlocks rfl hS () ⟨⟨by omega, by omega⟩, hV_205⟩ hH (sj_Knil hK) (Nat.le_of_ble_eq_true rfl) (Nat.le_of_ble_eq_true rfl) dX12_most_171
          · skip
            have h_206 := s_eq (rfl : r_143.toInt = _) (show (0 : Int32).toInt = 0 from rfl) c_197
            refine lv_iconst (v := 0) hx hb dX12_most_151 (by decide) ?_
            refine lv_goto (tgt := 171) hx hb dX12_most_152 (by decide) ?_
            have hlv_207 : (0 : Int32).toInt = 0 := rfl
            have hV_208 : moR i x.toInt y.toInt (0 : Int32).toInt := (Or.inr (Or.inr ⟨by omega, by omega, r_143.toInt, (by rw [show y.toInt + mnB i y.toInt = z_142.toInt by omega]; exact hx2_147), Or.inl ⟨by omega, by omega⟩⟩))
            exact sj_zret hx hb hr hlocks rfl hS () ⟨⟨by decide, by decide⟩, hV_208⟩ hH (sj_Knil hK) (Nat.le_of_ble_eq_true rfl) (Nat.le_of_ble_eq_true rfl) dX12_most_171
      · skip
        have h_209 := s_eq (rfl : x.toInt = _) (show (115 : Int32).toInt = 115 from rfl) c_140
        refine lv_aload_n hx hb dX12_most_65 rfl (lv_at hl 2 rfl) ?_
        refine lv_iload_n hx hb dX12_most_66 rfl (lv_at hl 4 rfl) ?_
        refine x_calli (va_runV (As := [.int y]) (rest := []) ⟨hx, hb, hml, hown, hts⟩ (m_in l D g ka ad i r L d y hO hR H.size (by first | omega | decide)) (cwV 1 hts gX12_most_X12_in rfl rfl rfl (by decide +kernel) ⟨(Nat.le_of_ble_eq_true rfl), (Nat.le_of_ble_eq_true rfl)⟩) (x_preV (q := (RX12, TX12, 86)) hH hK (q_obj (by decide) (rfl : kd 36 = 12) (by decide)) rfl gxb (gxw hE hS (x_F hH hS hA))) rfl rfl hl.1 rfl (lv_room (Nat.le_of_ble_eq_true rfl)) dX12_most_67 ⟨(Nat.le_of_ble_eq_true rfl), (Nat.le_of_ble_eq_true rfl)⟩) hH hS hA rfl rfl (fun r_210 _ H locs hw_211 hH hS => ?_)
        obtain ⟨hr_213, he_214⟩ := hw_211
        have hr_213 : (0 : Int) ≤ r_210.toInt ∧ r_210.toInt ≤ 65535 := hr_213
        refine lv_bipush (v := 34) hx hb dX12_most_70 (by decide) ?_
        refine lv_icmp_eq (tgt := 77) hx hb dX12_most_72 (by decide) (fun c_215 => ?_) (fun c_215 => ?_)
        · skip
          have h_216 := s_eq (rfl : r_210.toInt = _) (show (34 : Int32).toInt = 34 from rfl) c_215
          refine lv_iconst (v := 1) hx hb dX12_most_77 (by decide) ?_
          refine lv_istore (lv' := [(4, .int 1), (3, .int 1), (0, .ref (g 36)), (1, .int x), (2, .int y)]) hx hb dX12_most_78 hl (by decide) rfl (fun ls hl => ?_)
          -- loop at 80
          have lp_217 : ∀ (fuel_lp_217 : Nat) (f : Int32) (H : Heap) (locs : List Loc) (ls : Array Slot), (61 - f.toInt).toNat < fuel_lp_217 → (1 : Int) ≤ f.toInt ∧ f.toInt ≤ 61 → 1 ≤ f.toInt ∧ (f.toInt = 1 ∨ y.toInt + f.toInt ≤ (i 36 40).toInt) → soF (sP i y.toInt) (f.toInt - 1) → lv_has ls 6 [(4, .int f), (3, .int 1), (0, .ref (g 36)), (1, .int x), (2, .int y)] → sj_H D A (hwc g ka i r L d) H → va_S A s.heap H locs → W p l e (headSpec wsX12_most ({ frames := 2, cells := 0, slots := 0, locals := 43 })).room s m ([.ref (g 36), .int x, .int y] : List Value).toArray below meth c H locs 0 0 (MQ below (sj_Qi (S := Unit) D (fun v u => ((0 : Int) ≤ v.toInt ∧ v.toInt ≤ 130) ∧ (moR i x.toInt y.toInt v.toInt)) (fun _ => hwc g ka i r L d) (fun _ => []) A) ([.ref (g 36), .int x, .int y] : List Value).toArray s 0 0 A) (F0 m 80 ls []) := by
            intro fuel_lp_217
            induction fuel_lp_217 with
            | zero => intros; omega
            | succ fuel_lp_217 ih_lp_217 =>
              intro f H locs ls hm hr_f hi_lp_217_0 hi_lp_217_1 hl hH hS
              refine lv_iload_n hx hb dX12_most_80 rfl (lv_at hl 4 rfl) ?_
              refine lv_iload hx hb dX12_most_81 (lv_at hl 0 rfl) ?_
              refine lv_iadd hx hb dX12_most_83 ?_
              obtain ⟨z_218, ez_218, hz_218⟩ := s_add (rfl : y.toInt = _) (rfl : f.toInt = _) (by omega) (by omega)
              refine sj_i ez_218 ?_
              refine lv_aload_n hx hb dX12_most_84 rfl (lv_at hl 2 rfl) ?_
              have bx_219 : (0 : Int) ≤ (i 36 40).toInt ∧ (i 36 40).toInt ≤ 60 := hO 36 40
              refine h_geti (ci := 12) (C := RX12) (F := TX12) (N := 86) hx hb hts in12 hown hK hH (by decide) (rfl : kd 36 = 12) (by decide) rfl 40 (by decide) wd0 (fun _ h9 => h9) (by decide) rfl dX12_most_85 ?_
              refine lv_icmp_ge (tgt := 111) hx hb dX12_most_88 (by decide) (fun c_220 => ?_) (fun c_220 => ?_)
              · skip
                have h_221 := s_le (rfl : (i 36 40).toInt = _) (rfl : z_218.toInt = _) c_220
                refine lv_iload_n hx hb dX12_most_111 rfl (lv_at hl 4 rfl) ?_
                refine lv_iload hx hb dX12_most_112 (lv_at hl 0 rfl) ?_
                refine lv_iadd hx hb dX12_most_114 ?_
                obtain ⟨z_222, ez_222, hz_222⟩ := s_add (rfl : y.toInt = _) (rfl : f.toInt = _) (by omega) (by omega)
                refine sj_i ez_222 ?_
                refine lv_aload_n hx hb dX12_most_115 rfl (lv_at hl 2 rfl) ?_
                refine h_geti (ci := 12) (C := RX12) (F := TX12) (N := 86) hx hb hts in12 hown hK hH (by decide) (rfl : kd 36 = 12) (by decide) rfl 40 (by decide) wd0 (fun _ h9 => h9) (by decide) rfl dX12_most_116 ?_
                refine lv_icmp_ge (tgt := 129) hx hb dX12_most_119 (by decide) (fun c_223 => ?_) (fun c_223 => ?_)
                · skip
                  have h_224 := s_le (rfl : (i 36 40).toInt = _) (rfl : z_222.toInt = _) c_223
                  refine lv_iconst (v := 0) hx hb dX12_most_129 (by decide) ?_
                  have hlv_225 : (0 : Int32).toInt = 0 := rfl
                  have hV_226 : moR i x.toInt y.toInt (0 : Int32).toInt := (Or.inr (Or.inl ⟨by omega, Or.inr ⟨by omega, f.toInt - 1, ⟨by omega, hi_lp_217_1, fun q => by have q1 := q.1; have q2 := q.2; rw [show y.toInt + 1 + (f.toInt - 1) = f.toInt + y.toInt by omega] at q2; omega⟩, by omega⟩⟩))
                  exact sj_zret hx hb hr hlocks rfl hS () ⟨⟨by decide, by decide⟩, hV_226⟩ hH (sj_Knil hK) (Nat.le_of_ble_eq_true rfl) (Nat.le_of_ble_eq_true rfl) dX12_most_130
                · skip
                  have h_227 := s_nle (rfl : (i 36 40).toInt = _) (rfl : z_222.toInt = _) c_223
                  refine lv_iload hx hb dX12_most_122 (lv_at hl 0 rfl) ?_
                  refine lv_iconst (v := 1) hx hb dX12_most_124 (by decide) ?_
                  refine lv_iadd hx hb dX12_most_125 ?_
                  obtain ⟨z_228, ez_228, hz_228⟩ := s_add (rfl : f.toInt = _) (show (1 : Int32).toInt = 1 from rfl) (by omega) (by omega)
                  refine sj_i ez_228 ?_
                  refine lv_goto (tgt := 130) hx hb dX12_most_126 (by decide) ?_
                  have hV_229 : moR i x.toInt y.toInt (z_228 : Int32).toInt := (Or.inr (Or.inl ⟨by omega, Or.inr ⟨by omega, f.toInt - 1, ⟨by omega, hi_lp_217_1, fun q => by have q1 := q.1; have q2 := q.2; rw [show y.toInt + 1 + (f.toInt - 1) = f.toInt + y.toInt by omega] at q2; omega⟩, by omega⟩⟩))
                  exact sj_zret hx hb hr hlocks rfl hS () ⟨⟨by omega, by omega⟩, hV_229⟩ hH (sj_Knil hK) (Nat.le_of_ble_eq_true rfl) (Nat.le_of_ble_eq_true rfl) dX12_most_130
              · skip
                have h_230 := s_nle (rfl : (i 36 40).toInt = _) (rfl : z_218.toInt = _) c_220
                refine lv_aload_n hx hb dX12_most_91 rfl (lv_at hl 2 rfl) ?_
                refine h_getr (ci := 12) (C := RX12) (F := TX12) (N := 86) hx hb hts in12 hown hK hH (by decide) (rfl : kd 36 = 12) (by decide) rfl 39 (by decide) wd1 (fun _ h9 => h9) (by decide) rfl (t := 402) (hR 36 39 rfl) (by decide) dX12_most_92 ?_
                refine lv_iload_n hx hb dX12_most_95 rfl (lv_at hl 4 rfl) ?_
                refine lv_iload hx hb dX12_most_96 (lv_at hl 0 rfl) ?_
                refine lv_iadd hx hb dX12_most_98 ?_
                obtain ⟨z_231, ez_231, hz_231⟩ := s_add (rfl : y.toInt = _) (rfl : f.toInt = _) (by omega) (by omega)
                refine sj_i ez_231 ?_
                have bx_232 : (0 : Int) ≤ (i 402 (f.toInt + y.toInt).toNat).toInt ∧ (i 402 (f.toInt + y.toInt).toNat).toInt ≤ 65535 := hO 402 (f.toInt + y.toInt).toNat
                refine h_cald hx hb hK hH (by decide) (rfl : kd 402 = 14) (s_vin (N := 60) (rfl : z_231.toInt = _) (rfl : ln 402 = 60) (by omega) (by omega)) dX12_most_99 ?_
                have ek_233 : z_231.toNatClampNeg = (f.toInt + y.toInt).toNat := (s_cl (show z_231.toInt = f.toInt + y.toInt by omega))
                refine sj_i (y := (i 402 (f.toInt + y.toInt).toNat)) (by rw [ek_233]) ?_
                refine lv_bipush (v := 34) hx hb dX12_most_100 (by decide) ?_
                refine lv_icmp_eq (tgt := 111) hx hb dX12_most_102 (by decide) (fun c_234 => ?_) (fun c_234 => ?_)
                · skip
                  have h_235 := s_eq (rfl : (i 402 (f.toInt + y.toInt).toNat).toInt = _) (show (34 : Int32).toInt = 34 from rfl) c_234
                  refine lv_iload_n hx hb dX12_most_111 rfl (lv_at hl 4 rfl) ?_
                  refine lv_iload hx hb dX12_most_112 (lv_at hl 0 rfl) ?_
                  refine lv_iadd hx hb dX12_most_114 ?_
                  obtain ⟨z_236, ez_236, hz_236⟩ := s_add (rfl : y.toInt = _) (rfl : f.toInt = _) (by omega) (by omega)
                  refine sj_i ez_236 ?_
                  refine lv_aload_n hx hb dX12_most_115 rfl (lv_at hl 2 rfl) ?_
                  refine h_geti (ci := 12) (C := RX12) (F := TX12) (N := 86) hx hb hts in12 hown hK hH (by decide) (rfl : kd 36 = 12) (by decide) rfl 40 (by decide) wd0 (fun _ h9 => h9) (by decide) rfl dX12_most_116 ?_
                  refine lv_icmp_ge (tgt := 129) hx hb dX12_most_119 (by decide) (fun c_237 => ?_) (fun c_237 => ?_)
                  · skip
                    have h_238 := s_le (rfl : (i 36 40).toInt = _) (rfl : z_236.toInt = _) c_237
                    refine lv_iconst (v := 0) hx hb dX12_most_129 (by decide) ?_
                    have hlv_239 : (0 : Int32).toInt = 0 := rfl
                    have hV_240 : moR i x.toInt y.toInt (0 : Int32).toInt := (Or.inr (Or.inl ⟨by omega, Or.inr ⟨by omega, f.toInt - 1, ⟨by omega, hi_lp_217_1, fun q => by have q1 := q.1; have q2 := q.2; rw [show y.toInt + 1 + (f.toInt - 1) = f.toInt + y.toInt by omega] at q2; omega⟩, by omega⟩⟩))
                    exact sj_zret hx hb hr hlocks rfl hS () ⟨⟨by decide, by decide⟩, hV_240⟩ hH (sj_Knil hK) (Nat.le_of_ble_eq_true rfl) (Nat.le_of_ble_eq_true rfl) dX12_most_130
                  · skip
                    have h_241 := s_nle (rfl : (i 36 40).toInt = _) (rfl : z_236.toInt = _) c_237
                    refine lv_iload hx hb dX12_most_122 (lv_at hl 0 rfl) ?_
                    refine lv_iconst (v := 1) hx hb dX12_most_124 (by decide) ?_
                    refine lv_iadd hx hb dX12_most_125 ?_
                    obtain ⟨z_242, ez_242, hz_242⟩ := s_add (rfl : f.toInt = _) (show (1 : Int32).toInt = 1 from rfl) (by omega) (by omega)
                    refine sj_i ez_242 ?_
                    refine lv_goto (tgt := 130) hx hb dX12_most_126 (by decide) ?_
                    have hV_243 : moR i x.toInt y.toInt (z_242 : Int32).toInt := (Or.inr (Or.inl ⟨by omega, Or.inr ⟨by omega, f.toInt - 1, ⟨by omega, hi_lp_217_1, fun q => by have q1 := q.1; have q2 := q.2; rw [show y.toInt + 1 + (f.toInt - 1) = f.toInt + y.toInt by omega] at q2; omega⟩, by omega⟩⟩))
                    exact sj_zret hx hb hr hlocks rfl hS () ⟨⟨by omega, by omega⟩, hV_243⟩ hH (sj_Knil hK) (Nat.le_of_ble_eq_true rfl) (Nat.le_of_ble_eq_true rfl) dX12_most_130
                · skip
                  have h_244 := s_ne (rfl : (i 402 (f.toInt + y.toInt).toNat).toInt = _) (show (34 : Int32).toInt = 34 from rfl) c_234
                  obtain ⟨z_245, ez_245, hz_245⟩ := s_add (rfl : f.toInt = _) (show (1 : Int32).toInt = 1 from rfl) (by omega) (by omega)
                  refine lv_iinc (v := z_245) (lv' := [(4, .int z_245), (3, .int 1), (0, .ref (g 36)), (1, .int x), (2, .int y)]) hx hb dX12_most_105 hl (k := 0) rfl ez_245 (by decide) rfl (fun ls hl => ?_)
                  refine lv_goto (tgt := 80) hx hb dX12_most_108 (by decide) ?_
                  exact ih_lp_217 z_245 _ _ ls (by omega) (by omega) (by omega) (soF_s hi_lp_217_1 (by omega) (show sP i y.toInt (f.toInt - 1) from ⟨by omega, by rw [show y.toInt + 1 + (f.toInt - 1) = f.toInt + y.toInt by omega]; omega⟩)) (lv_sub hl [0, 1, 2, 3, 4] rfl) hH hS
          have hl_246 : (1 : Int32).toInt = 1 := rfl
          exact lp_217 _ 1 _ _ ls (Nat.lt_succ_self _) (by omega) (by omega) (soF_0 (by rfl)) (lv_sub hl [0, 1, 2, 3, 4] rfl) hH hS
        · skip
          have h_247 := s_ne (rfl : r_210.toInt = _) (show (34 : Int32).toInt = 34 from rfl) c_215
          refine lv_iconst (v := 0) hx hb dX12_most_75 (by decide) ?_
          have hlv_248 : (0 : Int32).toInt = 0 := rfl
          have hV_249 : moR i x.toInt y.toInt (0 : Int32).toInt := (Or.inr (Or.inl ⟨by omega, Or.inl ⟨by omega, by omega⟩⟩))
          exact sj_zret hx hb hr hlocks rfl hS () ⟨⟨by decide, by decide⟩, hV_249⟩ hH (sj_Knil hK) (Nat.le_of_ble_eq_true rfl) (Nat.le_of_ble_eq_true rfl) dX12_most_76
    · skip
      have h_250 := s_eq (rfl : x.toInt = _) (show (119 : Int32).toInt = 119 from rfl) c_138
      -- loop at 25
      have lp_251 : ∀ (fuel_lp_251 : Nat) (f : Int32) (H : Heap) (locs : List Loc) (ls : Array Slot), (61 - f.toInt).toNat < fuel_lp_251 → (0 : Int) ≤ f.toInt ∧ f.toInt ≤ 61 → 0 ≤ f.toInt ∧ (f.toInt = 0 ∨ y.toInt + f.toInt ≤ (i 36 40).toInt) → soF (wP i y.toInt) f.toInt → lv_has ls 6 [(4, .int f), (3, .int 1), (0, .ref (g 36)), (1, .int x), (2, .int y)] → sj_H D A (hwc g ka i r L d) H → va_S A s.heap H locs → W p l e (headSpec wsX12_most ({ frames := 2, cells := 0, slots := 0, locals := 43 })).room s m ([.ref (g 36), .int x, .int y] : List Value).toArray below meth c H locs 0 0 (MQ below (sj_Qi (S := Unit) D (fun v u => ((0 : Int) ≤ v.toInt ∧ v.toInt ≤ 130) ∧ (moR i x.toInt y.toInt v.toInt)) (fun _ => hwc g ka i r L d) (fun _ => []) A) ([.ref (g 36), .int x, .int y] : List Value).toArray s 0 0 A) (F0 m 25 ls []) := by
        intro fuel_lp_251
        induction fuel_lp_251 with
        | zero => intros; omega
        | succ fuel_lp_251 ih_lp_251 =>
          intro f H locs ls hm hr_f hi_lp_251_0 hi_lp_251_1 hl hH hS
          refine lv_iload_n hx hb dX12_most_25 rfl (lv_at hl 4 rfl) ?_
          refine lv_iload hx hb dX12_most_26 (lv_at hl 0 rfl) ?_
          refine lv_iadd hx hb dX12_most_28 ?_
          obtain ⟨z_252, ez_252, hz_252⟩ := s_add (rfl : y.toInt = _) (rfl : f.toInt = _) (by omega) (by omega)
          refine sj_i ez_252 ?_
          refine lv_aload_n hx hb dX12_most_29 rfl (lv_at hl 2 rfl) ?_
          have bx_253 : (0 : Int) ≤ (i 36 40).toInt ∧ (i 36 40).toInt ≤ 60 := hO 36 40
          refine h_geti (ci := 12) (C := RX12) (F := TX12) (N := 86) hx hb hts in12 hown hK hH (by decide) (rfl : kd 36 = 12) (by decide) rfl 40 (by decide) wd0 (fun _ h9 => h9) (by decide) rfl dX12_most_30 ?_
          refine lv_icmp_ge (tgt := 56) hx hb dX12_most_33 (by decide) (fun c_254 => ?_) (fun c_254 => ?_)
          · skip
            have h_255 := s_le (rfl : (i 36 40).toInt = _) (rfl : z_252.toInt = _) c_254
            refine lv_iload hx hb dX12_most_56 (lv_at hl 0 rfl) ?_
            have hV_256 : moR i x.toInt y.toInt (f : Int32).toInt := (Or.inl ⟨by omega, by omega, hi_lp_251_1, fun q => by have q1 := q.1; have q2 := q.2; rw [show y.toInt + f.toInt = f.toInt + y.toInt by omega] at q2; omega⟩)
            exact sj_zret hx hb hr hlocks rfl hS () ⟨⟨by omega, by omega⟩, hV_256⟩ hH (sj_Knil hK) (Nat.le_of_ble_eq_true rfl) (Nat.le_of_ble_eq_true rfl) dX12_most_58
          · skip
            have h_257 := s_nle (rfl : (i 36 40).toInt = _) (rfl : z_252.toInt = _) c_254
            refine lv_aload_n hx hb dX12_most_36 rfl (lv_at hl 2 rfl) ?_
            refine h_getr (ci := 12) (C := RX12) (F := TX12) (N := 86) hx hb hts in12 hown hK hH (by decide) (rfl : kd 36 = 12) (by decide) rfl 39 (by decide) wd1 (fun _ h9 => h9) (by decide) rfl (t := 402) (hR 36 39 rfl) (by decide) dX12_most_37 ?_
            refine lv_iload_n hx hb dX12_most_40 rfl (lv_at hl 4 rfl) ?_
            refine lv_iload hx hb dX12_most_41 (lv_at hl 0 rfl) ?_
            refine lv_iadd hx hb dX12_most_43 ?_
            obtain ⟨z_258, ez_258, hz_258⟩ := s_add (rfl : y.toInt = _) (rfl : f.toInt = _) (by omega) (by omega)
            refine sj_i ez_258 ?_
            have bx_259 : (0 : Int) ≤ (i 402 (f.toInt + y.toInt).toNat).toInt ∧ (i 402 (f.toInt + y.toInt).toNat).toInt ≤ 65535 := hO 402 (f.toInt + y.toInt).toNat
            refine h_cald hx hb hK hH (by decide) (rfl : kd 402 = 14) (s_vin (N := 60) (rfl : z_258.toInt = _) (rfl : ln 402 = 60) (by omega) (by omega)) dX12_most_44 ?_
            have ek_260 : z_258.toNatClampNeg = (f.toInt + y.toInt).toNat := (s_cl (show z_258.toInt = f.toInt + y.toInt by omega))
            refine sj_i (y := (i 402 (f.toInt + y.toInt).toNat)) (by rw [ek_260]) ?_
            refine lv_bipush (v := 32) hx hb dX12_most_45 (by decide) ?_
            refine lv_icmp_eq (tgt := 56) hx hb dX12_most_47 (by decide) (fun c_261 => ?_) (fun c_261 => ?_)
            · skip
              have h_262 := s_eq (rfl : (i 402 (f.toInt + y.toInt).toNat).toInt = _) (show (32 : Int32).toInt = 32 from rfl) c_261
              refine lv_iload hx hb dX12_most_56 (lv_at hl 0 rfl) ?_
              have hV_263 : moR i x.toInt y.toInt (f : Int32).toInt := (Or.inl ⟨by omega, by omega, hi_lp_251_1, fun q => by have q1 := q.1; have q2 := q.2; rw [show y.toInt + f.toInt = f.toInt + y.toInt by omega] at q2; omega⟩)
              exact sj_zret hx hb hr hlocks rfl hS () ⟨⟨by omega, by omega⟩, hV_263⟩ hH (sj_Knil hK) (Nat.le_of_ble_eq_true rfl) (Nat.le_of_ble_eq_true rfl) dX12_most_58
            · skip
              have h_264 := s_ne (rfl : (i 402 (f.toInt + y.toInt).toNat).toInt = _) (show (32 : Int32).toInt = 32 from rfl) c_261
              obtain ⟨z_265, ez_265, hz_265⟩ := s_add (rfl : f.toInt = _) (show (1 : Int32).toInt = 1 from rfl) (by omega) (by omega)
              refine lv_iinc (v := z_265) (lv' := [(4, .int z_265), (3, .int 1), (0, .ref (g 36)), (1, .int x), (2, .int y)]) hx hb dX12_most_50 hl (k := 0) rfl ez_265 (by decide) rfl (fun ls hl => ?_)
              refine lv_goto (tgt := 25) hx hb dX12_most_53 (by decide) ?_
              exact ih_lp_251 z_265 _ _ ls (by omega) (by omega) (by omega) (soF_s hi_lp_251_1 (by omega) (show wP i y.toInt f.toInt from ⟨by omega, by rw [show y.toInt + f.toInt = f.toInt + y.toInt by omega]; omega⟩)) (lv_sub hl [0, 1, 2, 3, 4] rfl) hH hS
      have hl_266 : (0 : Int32).toInt = 0 := rfl
      exact lp_251 _ 0 _ _ ls (Nat.lt_succ_self _) (by omega) (by omega) (soF_0 (by rfl)) (lv_sub hl [0, 1, 2, 3, 4] rfl) hH hS
set_option maxHeartbeats 2000000 in
set_option maxRecDepth 100000 in
theorem m_least (l : Launch) (D : va_G) (g : Nat → Nat) (ka : Nat → ClassId) (ad : Nat → Nat) (i : Nat → Nat → Int32) (r : Nat → Nat → Nat) (L : Nat → Nat → Int64) (d : Nat → Nat → UInt64) (x : Int32) (y : Int32) (z : Int32) (hO : OkI i) (hR : RS r) (sz : Nat) (hx0 : 0 ≤ x.toInt) (hx1 : x.toInt ≤ 65535) (hy0 : 0 ≤ y.toInt) (hy1 : y.toInt ≤ 61) (hz0 : 0 ≤ z.toInt) (hz1 : z.toInt ≤ 130) : Met l yX12_least wsX12_least ({ frames := 2, cells := 0, slots := 0, locals := 43 }) (va_Pc [.ref (g 36), .int x, .int y, .int z] (sj_B D (hwc g ka i r L d) (hT ka) sz (gx ad (va_A (hwc g ka i r L d) sz)))) (sj_Qi (S := Unit) D (fun v u => ((0 : Int) ≤ v.toInt ∧ v.toInt ≤ 200) ∧ (leR i x.toInt y.toInt z.toInt v.toInt)) (fun _ => hwc g ka i r L d) (fun _ => []) (va_A (hwc g ka i r L d) sz)) 0 0 (va_A (hwc g ka i r L d) sz) := by
  refine x_met (Ex := gx ad) (cc := cX12_least) (maxL := 5) (ret := (some .int)) (by decide) rfl (Nat.le_of_ble_eq_true rfl) ?_
  intro p e s m below meth c A ls hx hb hr hml hts hown hlocks hA hS hH hK hE hl
  have hown : s.vm.findClass RX12 = some m.cls := hown
  have hl : lv_has ls 5 [(0, .ref (g 36)), (1, .int x), (2, .int y), (3, .int z)] := hl
  have hK : va_K D vwCl (hT ka) s := hK
  have hb40 : (0 : Int) ≤ (i 36 40).toInt ∧ (i 36 40).toInt ≤ 60 := hO 36 40
  have hmn := mnB_or i y.toInt
  refine lv_aload_n hx hb dX12_least_0 rfl (lv_at hl 0 rfl) ?_
  refine lv_iload_n hx hb dX12_least_1 rfl (lv_at hl 2 rfl) ?_
  refine x_calli (va_runV (As := [.int y]) (rest := []) ⟨hx, hb, hml, hown, hts⟩ (m_in l D g ka ad i r L d y hO hR s.heap.size (by first | omega | decide)) (cwV 1 hts gX12_least_X12_in rfl rfl rfl (by decide +kernel) ⟨(Nat.le_of_ble_eq_true rfl), (Nat.le_of_ble_eq_true rfl)⟩) (x_preV (q := (RX12, TX12, 86)) hH hK (q_obj (by decide) (rfl : kd 36 = 12) (by decide)) rfl gxb (gxw hE hS (x_F hH hS hA))) rfl rfl hl.1 rfl (lv_room (Nat.le_of_ble_eq_true rfl)) dX12_least_2 ⟨(Nat.le_of_ble_eq_true rfl), (Nat.le_of_ble_eq_true rfl)⟩) hH hS hA rfl rfl (fun r_1 _ H locs hw_2 hH hS => ?_)
  obtain ⟨hr_4, he_5⟩ := hw_2
  have hr_4 : (0 : Int) ≤ r_1.toInt ∧ r_1.toInt ≤ 65535 := hr_4
  refine lv_bipush (v := 45) hx hb dX12_least_5 (by decide) ?_
  refine lv_icmp_ne (tgt := 14) hx hb dX12_least_7 (by decide) (fun c_6 => ?_) (fun c_6 => ?_)
  · skip
    have h_7 := s_ne (rfl : r_1.toInt = _) (show (45 : Int32).toInt = 45 from rfl) c_6
    refine lv_iconst (v := 0) hx hb dX12_least_14 (by decide) ?_
    refine lv_istore (lv' := [(4, .int 0), (0, .ref (g 36)), (1, .int x), (2, .int y), (3, .int z)]) hx hb dX12_least_15 hl (by decide) rfl (fun ls hl => ?_)
    refine lv_iload_n hx hb dX12_least_17 rfl (lv_at hl 2 rfl) ?_
    refine lv_bipush (v := 115) hx hb dX12_least_18 (by decide) ?_
    refine lv_icmp_ne (tgt := 25) hx hb dX12_least_20 (by decide) (fun c_8 => ?_) (fun c_8 => ?_)
    · skip
      have h_9 := s_ne (rfl : x.toInt = _) (show (115 : Int32).toInt = 115 from rfl) c_8
      refine lv_iload_n hx hb dX12_least_25 rfl (lv_at hl 2 rfl) ?_
      refine lv_bipush (v := 119) hx hb dX12_least_26 (by decide) ?_
      refine lv_icmp_ne (tgt := 35) hx hb dX12_least_28 (by decide) (fun c_10 => ?_) (fun c_10 => ?_)
      · skip
        have h_11 := s_ne (rfl : x.toInt = _) (show (119 : Int32).toInt = 119 from rfl) c_10
        refine lv_iload_n hx hb dX12_least_35 rfl (lv_at hl 2 rfl) ?_
        refine lv_bipush (v := 105) hx hb dX12_least_36 (by decide) ?_
        refine lv_icmp_ne (tgt := 48) hx hb dX12_least_38 (by decide) (fun c_12 => ?_) (fun c_12 => ?_)
        · skip
          have h_13 := s_ne (rfl : x.toInt = _) (show (105 : Int32).toInt = 105 from rfl) c_12
          refine lv_iload hx hb dX12_least_48 (lv_at hl 0 rfl) ?_
          refine lv_aload_n hx hb dX12_least_50 rfl (lv_at hl 1 rfl) ?_
          refine lv_iload_n hx hb dX12_least_51 rfl (lv_at hl 3 rfl) ?_
          refine lv_iload hx hb dX12_least_52 (lv_at hl 0 rfl) ?_
          refine lv_iadd hx hb dX12_least_54 ?_
          obtain ⟨z_14, ez_14, hz_14⟩ := s_add (rfl : y.toInt = _) (show (0 : Int32).toInt = 0 from rfl) (by omega) (by omega)
          refine sj_i ez_14 ?_
          refine x_calli (va_runV (As := [.int z_14]) (rest := [.int 0]) ⟨hx, hb, hml, hown, hts⟩ (m_digitsAt l D g ka ad i r L d z_14 hO hR H.size (by first | omega | decide) (by first | omega | decide)) (cwV 1 hts gX12_least_X12_digitsAt rfl rfl rfl (by decide +kernel) ⟨(Nat.le_of_ble_eq_true rfl), (Nat.le_of_ble_eq_true rfl)⟩) (x_preV (q := (RX12, TX12, 86)) hH hK (q_obj (by decide) (rfl : kd 36 = 12) (by decide)) rfl gxb (gxw hE hS (x_F hH hS hA))) rfl rfl hl.1 rfl (lv_room (Nat.le_of_ble_eq_true rfl)) dX12_least_55 ⟨(Nat.le_of_ble_eq_true rfl), (Nat.le_of_ble_eq_true rfl)⟩) hH hS hA rfl rfl (fun r_15 _ H locs hw_16 hH hS => ?_)
          obtain ⟨hr_18, hx2_19⟩ := hw_16
          have hr_18 : (0 : Int) ≤ r_15.toInt ∧ r_15.toInt ≤ 60 := hr_18
          have hd0_20 := hx2_19.1
          refine lv_iadd hx hb dX12_least_58 ?_
          obtain ⟨z_21, ez_21, hz_21⟩ := s_add (show (0 : Int32).toInt = 0 from rfl) (rfl : r_15.toInt = _) (by omega) (by omega)
          refine sj_i ez_21 ?_
          refine lv_iconst (v := 2) hx hb dX12_least_59 (by decide) ?_
          refine lv_iadd hx hb dX12_least_60 ?_
          obtain ⟨z_22, ez_22, hz_22⟩ := s_add (rfl : z_21.toInt = _) (show (2 : Int32).toInt = 2 from rfl) (by omega) (by omega)
          refine sj_i ez_22 ?_
          have hV_23 : leR i x.toInt y.toInt z.toInt (z_22 : Int32).toInt := (by have hmn9 := hmn; exact (Or.inr (Or.inr (Or.inr ⟨by omega, by omega, by omega, r_15.toInt, (by rw [show y.toInt + mnB i y.toInt = z_14.toInt by omega]; exact hx2_19), by omega⟩))))
          exact sj_zret hx hb hr hlocks rfl hS () ⟨⟨by omega, by omega⟩, hV_23⟩ hH (sj_Knil hK) (Nat.le_of_ble_eq_true rfl) (Nat.le_of_ble_eq_true rfl) dX12_least_61
        · skip
          have h_24 := s_eq (rfl : x.toInt = _) (show (105 : Int32).toInt = 105 from rfl) c_12
          refine lv_iload hx hb dX12_least_41 (lv_at hl 0 rfl) ?_
          refine lv_iconst (v := 1) hx hb dX12_least_43 (by decide) ?_
          refine lv_iadd hx hb dX12_least_44 ?_
          refine sj_i (y := 1) (by decide) ?_
          refine lv_goto (tgt := 61) hx hb dX12_least_45 (by decide) ?_
          have hlv_25 : (1 : Int32).toInt = 1 := rfl
          have hV_26 : leR i x.toInt y.toInt z.toInt (1 : Int32).toInt := (by have hmn9 := hmn; first | exact Or.inl ⟨by omega, by omega⟩ | exact Or.inr (Or.inl ⟨by omega, by omega⟩) | exact Or.inr (Or.inr (Or.inl ⟨by omega, by omega⟩)))
          exact sj_zret hx hb hr hlocks rfl hS () ⟨⟨by decide, by decide⟩, hV_26⟩ hH (sj_Knil hK) (Nat.le_of_ble_eq_true rfl) (Nat.le_of_ble_eq_true rfl) dX12_least_61
      · skip
        have h_27 := s_eq (rfl : x.toInt = _) (show (119 : Int32).toInt = 119 from rfl) c_10
        refine lv_iconst (v := 1) hx hb dX12_least_31 (by decide) ?_
        refine lv_goto (tgt := 61) hx hb dX12_least_32 (by decide) ?_
        have hlv_28 : (1 : Int32).toInt = 1 := rfl
        have hV_29 : leR i x.toInt y.toInt z.toInt (1 : Int32).toInt := (by have hmn9 := hmn; first | exact Or.inl ⟨by omega, by omega⟩ | exact Or.inr (Or.inl ⟨by omega, by omega⟩) | exact Or.inr (Or.inr (Or.inl ⟨by omega, by omega⟩)))
        exact sj_zret hx hb hr hlocks rfl hS () ⟨⟨by decide, by decide⟩, hV_29⟩ hH (sj_Knil hK) (Nat.le_of_ble_eq_true rfl) (Nat.le_of_ble_eq_true rfl) dX12_least_61
    · skip
      have h_30 := s_eq (rfl : x.toInt = _) (show (115 : Int32).toInt = 115 from rfl) c_8
      refine lv_iload_n hx hb dX12_least_23 rfl (lv_at hl 4 rfl) ?_
      have hV_31 : leR i x.toInt y.toInt z.toInt (z : Int32).toInt := (by have hmn9 := hmn; first | exact Or.inl ⟨by omega, by omega⟩ | exact Or.inr (Or.inl ⟨by omega, by omega⟩) | exact Or.inr (Or.inr (Or.inl ⟨by omega, by omega⟩)))
      exact sj_zret hx hb hr hlocks rfl hS () ⟨⟨by omega, by omega⟩, hV_31⟩ hH (sj_Knil hK) (Nat.le_of_ble_eq_true rfl) (Nat.le_of_ble_eq_true rfl) dX12_least_24
  · skip
    have h_32 := s_eq (rfl : r_1.toInt = _) (show (45 : Int32).toInt = 45 from rfl) c_6
    refine lv_iconst (v := 1) hx hb dX12_least_10 (by decide) ?_
    refine lv_goto (tgt := 15) hx hb dX12_least_11 (by decide) ?_
    refine lv_istore (lv' := [(4, .int 1), (0, .ref (g 36)), (1, .int x), (2, .int y), (3, .int z)]) hx hb dX12_least_15 hl (by decide) rfl (fun ls hl => ?_)
    refine lv_iload_n hx hb dX12_least_17 rfl (lv_at hl 2 rfl) ?_
    refine lv_bipush (v := 115) hx hb dX12_least_18 (by decide) ?_
    refine lv_icmp_ne (tgt := 25) hx hb dX12_least_20 (by decide) (fun c_33 => ?_) (fun c_33 => ?_)
    · skip
      have h_34 := s_ne (rfl : x.toInt = _) (show (115 : Int32).toInt = 115 from rfl) c_33
      refine lv_iload_n hx hb dX12_least_25 rfl (lv_at hl 2 rfl) ?_
      refine lv_bipush (v := 119) hx hb dX12_least_26 (by decide) ?_
      refine lv_icmp_ne (tgt := 35) hx hb dX12_least_28 (by decide) (fun c_35 => ?_) (fun c_35 => ?_)
      · skip
        have h_36 := s_ne (rfl : x.toInt = _) (show (119 : Int32).toInt = 119 from rfl) c_35
        refine lv_iload_n hx hb dX12_least_35 rfl (lv_at hl 2 rfl) ?_
        refine lv_bipush (v := 105) hx hb dX12_least_36 (by decide) ?_
        refine lv_icmp_ne (tgt := 48) hx hb dX12_least_38 (by decide) (fun c_37 => ?_) (fun c_37 => ?_)
        · skip
          have h_38 := s_ne (rfl : x.toInt = _) (show (105 : Int32).toInt = 105 from rfl) c_37
          refine lv_iload hx hb dX12_least_48 (lv_at hl 0 rfl) ?_
          refine lv_aload_n hx hb dX12_least_50 rfl (lv_at hl 1 rfl) ?_
          refine lv_iload_n hx hb dX12_least_51 rfl (lv_at hl 3 rfl) ?_
          refine lv_iload hx hb dX12_least_52 (lv_at hl 0 rfl) ?_
          refine lv_iadd hx hb dX12_least_54 ?_
          obtain ⟨z_39, ez_39, hz_39⟩ := s_add (rfl : y.toInt = _) (show (1 : Int32).toInt = 1 from rfl) (by omega) (by omega)
          refine sj_i ez_39 ?_
          refine x_calli (va_runV (As := [.int z_39]) (rest := [.int 1]) ⟨hx, hb, hml, hown, hts⟩ (m_digitsAt l D g ka ad i r L d z_39 hO hR H.size (by first | omega | decide) (by first | omega | decide)) (cwV 1 hts gX12_least_X12_digitsAt rfl rfl rfl (by decide +kernel) ⟨(Nat.le_of_ble_eq_true rfl), (Nat.le_of_ble_eq_true rfl)⟩) (x_preV (q := (RX12, TX12, 86)) hH hK (q_obj (by decide) (rfl : kd 36 = 12) (by decide)) rfl gxb (gxw hE hS (x_F hH hS hA))) rfl rfl hl.1 rfl (lv_room (Nat.le_of_ble_eq_true rfl)) dX12_least_55 ⟨(Nat.le_of_ble_eq_true rfl), (Nat.le_of_ble_eq_true rfl)⟩) hH hS hA rfl rfl (fun r_40 _ H locs hw_41 hH hS => ?_)
          obtain ⟨hr_43, hx2_44⟩ := hw_41
          have hr_43 : (0 : Int) ≤ r_40.toInt ∧ r_40.toInt ≤ 60 := hr_43
          have hd0_45 := hx2_44.1
          refine lv_iadd hx hb dX12_least_58 ?_
          obtain ⟨z_46, ez_46, hz_46⟩ := s_add (show (1 : Int32).toInt = 1 from rfl) (rfl : r_40.toInt = _) (by omega) (by omega)
          refine sj_i ez_46 ?_
          refine lv_iconst (v := 2) hx hb dX12_least_59 (by decide) ?_
          refine lv_iadd hx hb dX12_least_60 ?_
          obtain ⟨z_47, ez_47, hz_47⟩ := s_add (rfl : z_46.toInt = _) (show (2 : Int32).toInt = 2 from rfl) (by omega) (by omega)
          refine sj_i ez_47 ?_
          have hV_48 : leR i x.toInt y.toInt z.toInt (z_47 : Int32).toInt := (by have hmn9 := hmn; exact (Or.inr (Or.inr (Or.inr ⟨by omega, by omega, by omega, r_40.toInt, (by rw [show y.toInt + mnB i y.toInt = z_39.toInt by omega]; exact hx2_44), by omega⟩))))
          exact sj_zret hx hb hr hlocks rfl hS () ⟨⟨by omega, by omega⟩, hV_48⟩ hH (sj_Knil hK) (Nat.le_of_ble_eq_true rfl) (Nat.le_of_ble_eq_true rfl) dX12_least_61
        · skip
          have h_49 := s_eq (rfl : x.toInt = _) (show (105 : Int32).toInt = 105 from rfl) c_37
          refine lv_iload hx hb dX12_least_41 (lv_at hl 0 rfl) ?_
          refine lv_iconst (v := 1) hx hb dX12_least_43 (by decide) ?_
          refine lv_iadd hx hb dX12_least_44 ?_
          refine sj_i (y := 2) (by decide) ?_
          refine lv_goto (tgt := 61) hx hb dX12_least_45 (by decide) ?_
          have hlv_50 : (2 : Int32).toInt = 2 := rfl
          have hV_51 : leR i x.toInt y.toInt z.toInt (2 : Int32).toInt := (by have hmn9 := hmn; first | exact Or.inl ⟨by omega, by omega⟩ | exact Or.inr (Or.inl ⟨by omega, by omega⟩) | exact Or.inr (Or.inr (Or.inl ⟨by omega, by omega⟩)))
          exact sj_zret hx hb hr hlocks rfl hS () ⟨⟨by decide, by decide⟩, hV_51⟩ hH (sj_Knil hK) (Nat.le_of_ble_eq_true rfl) (Nat.le_of_ble_eq_true rfl) dX12_least_61
      · skip
        have h_52 := s_eq (rfl : x.toInt = _) (show (119 : Int32).toInt = 119 from rfl) c_35
        refine lv_iconst (v := 1) hx hb dX12_least_31 (by decide) ?_
        refine lv_goto (tgt := 61) hx hb dX12_least_32 (by decide) ?_
        have hlv_53 : (1 : Int32).toInt = 1 := rfl
        have hV_54 : leR i x.toInt y.toInt z.toInt (1 : Int32).toInt := (by have hmn9 := hmn; first | exact Or.inl ⟨by omega, by omega⟩ | exact Or.inr (Or.inl ⟨by omega, by omega⟩) | exact Or.inr (Or.inr (Or.inl ⟨by omega, by omega⟩)))
        exact sj_zret hx hb hr hlocks rfl hS () ⟨⟨by decide, by decide⟩, hV_54⟩ hH (sj_Knil hK) (Nat.le_of_ble_eq_true rfl) (Nat.le_of_ble_eq_true rfl) dX12_least_61
    · skip
      have h_55 := s_eq (rfl : x.toInt = _) (show (115 : Int32).toInt = 115 from rfl) c_33
      refine lv_iload_n hx hb dX12_least_23 rfl (lv_at hl 4 rfl) ?_
      have hV_56 : leR i x.toInt y.toInt z.toInt (z : Int32).toInt := (by have hmn9 := hmn; first | exact Or.inl ⟨by omega, by omega⟩ | exact Or.inr (Or.inl ⟨by omega, by omega⟩) | exact Or.inr (Or.inr (Or.inl ⟨by omega, by omega⟩)))
      exact sj_zret hx hb hr hlocks rfl hS () ⟨⟨by omega, by omega⟩, hV_56⟩ hH (sj_Knil hK) (Nat.le_of_ble_eq_true rfl) (Nat.le_of_ble_eq_true rfl) dX12_least_24
set_option maxHeartbeats 2000000 in
set_option maxRecDepth 100000 in
theorem m_stands (l : Launch) (D : va_G) (g : Nat → Nat) (ka : Nat → ClassId) (ad : Nat → Nat) (i : Nat → Nat → Int32) (r : Nat → Nat → Nat) (L : Nat → Nat → Int64) (d : Nat → Nat → UInt64) (x : Int32) (y : Int32) (hO : OkI i) (hR : RS r) (sz : Nat) (hx0 : 0 ≤ x.toInt) (hxt : x.toInt < (i 36 49).toInt) (hex : exI i) (hy0 : 0 ≤ y.toInt) (hy1 : y.toInt ≤ 61) : Met l yX12_stands wsX12_stands ({ frames := 0, cells := 0, slots := 0, locals := 0 }) (va_Pc [.ref (g 36), .int x, .int y] (sj_B D (hwc g ka i r L d) (hT ka) sz (gx ad (va_A (hwc g ka i r L d) sz)))) (sj_Qi (S := Unit) D (fun v u => ((0 : Int) ≤ v.toInt ∧ v.toInt ≤ 1) ∧ ((v.toInt = 1 ∧ sdB i x.toInt y.toInt) ∨ (v.toInt = 0 ∧ ¬ sdB i x.toInt y.toInt))) (fun _ => hwc g ka i r L d) (fun _ => []) (va_A (hwc g ka i r L d) sz)) 0 0 (va_A (hwc g ka i r L d) sz) := by
  refine x_met (Ex := gx ad) (cc := cX12_stands) (maxL := 5) (ret := (some .boolean)) (by decide) rfl (Nat.le_of_ble_eq_true rfl) ?_
  intro p e s m below meth c A ls hx hb hr hml hts hown hlocks hA hS hH hK hE hl
  have hown : s.vm.findClass RX12 = some m.cls := hown
  have in12 : ∀ w ∈ wsX120, w ∈ wsX12_stands := (fun _ h => (List.mem_cons_of_mem _ (List.mem_append_right _ h)))
  have wd0 := hts (.fieldLink RX12 266 "StoryDeskModel" "textSize" "[I") (List.mem_cons_of_mem _ (List.mem_append_left _ lm0))
  have wd1 := hts (.fieldLink RX12 224 "StoryDeskModel" "filled" "I") (List.mem_cons_of_mem _ (List.mem_append_left _ lm1))
  have wd2 := hts (.fieldLink RX12 227 "StoryDeskModel" "buffer" "[C") (List.mem_cons_of_mem _ (List.mem_append_left _ lm2))
  have wd3 := hts (.fieldLink RX12 275 "StoryDeskModel" "pool" "[C") (List.mem_cons_of_mem _ (List.mem_append_left _ lm3))
  have wd4 := hts (.fieldLink RX12 257 "StoryDeskModel" "textAt" "[I") (List.mem_cons_of_mem _ (List.mem_append_left _ lm4))
  have hl : lv_has ls 5 [(0, .ref (g 36)), (1, .int x), (2, .int y)] := hl
  have hK : va_K D vwCl (hT ka) s := hK
  have hb40 : (0 : Int) ≤ (i 36 40).toInt ∧ (i 36 40).toInt ≤ 60 := hO 36 40
  have ht9 := hex.2 x.toInt.toNat (by omega)
  have ht1 := ht9.1
  have ht2 := ht9.2.1
  have ht3 := ht9.2.2
  have hb52 : (0 : Int) ≤ (i 36 52).toInt ∧ (i 36 52).toInt ≤ 64 := hO 36 52
  have hb49 : (0 : Int) ≤ (i 36 49).toInt ∧ (i 36 49).toInt ≤ 64 := hO 36 49
  refine lv_iload_n hx hb dX12_stands_0 rfl (lv_at hl 2 rfl) ?_
  refine lv_aload_n hx hb dX12_stands_1 rfl (lv_at hl 0 rfl) ?_
  refine h_getr (ci := 12) (C := RX12) (F := TX12) (N := 86) hx hb hts in12 hown hK hH (by decide) (rfl : kd 36 = 12) (by decide) rfl 51 (by decide) wd0 (fun _ h9 => h9) (by decide) rfl (t := 410) (hR 36 51 rfl) (by decide) dX12_stands_2 ?_
  refine lv_iload_n hx hb dX12_stands_5 rfl (lv_at hl 1 rfl) ?_
  refine h_iald hx hb hK hH (by decide) (rfl : kd 410 = 13) (s_vin (N := 64) (rfl : x.toInt = _) (rfl : ln 410 = 64) (by omega) (by omega)) dX12_stands_6 ?_
  have ek_1 : x.toNatClampNeg = (x.toInt).toNat := (s_cl (show x.toInt = x.toInt by omega))
  refine sj_i (y := (i 410 (x.toInt).toNat)) (by rw [ek_1]) ?_
  refine lv_iadd hx hb dX12_stands_7 ?_
  obtain ⟨z_2, ez_2, hz_2⟩ := s_add (rfl : y.toInt = _) (rfl : (i 410 (x.toInt).toNat).toInt = _) (by omega) (by omega)
  refine sj_i ez_2 ?_
  refine lv_aload_n hx hb dX12_stands_8 rfl (lv_at hl 0 rfl) ?_
  have bx_3 : (0 : Int) ≤ (i 36 40).toInt ∧ (i 36 40).toInt ≤ 60 := hO 36 40
  refine h_geti (ci := 12) (C := RX12) (F := TX12) (N := 86) hx hb hts in12 hown hK hH (by decide) (rfl : kd 36 = 12) (by decide) rfl 40 (by decide) wd1 (fun _ h9 => h9) (by decide) rfl dX12_stands_9 ?_
  refine lv_icmp_gt (tgt := 19) hx hb dX12_stands_12 (by decide) (fun c_4 => ?_) (fun c_4 => ?_)
  · skip
    have h_5 := s_lt (rfl : (i 36 40).toInt = _) (rfl : z_2.toInt = _) c_4
    refine lv_iconst (v := 0) hx hb dX12_stands_19 (by decide) ?_
    refine lv_istore_n (lv' := [(3, .int 0), (0, .ref (g 36)), (1, .int x), (2, .int y)]) hx hb dX12_stands_20 rfl hl (by decide) rfl (fun ls hl => ?_)
    refine lv_iconst (v := 0) hx hb dX12_stands_21 (by decide) ?_
    refine lv_istore (lv' := [(4, .int 0), (3, .int 0), (0, .ref (g 36)), (1, .int x), (2, .int y)]) hx hb dX12_stands_22 hl (by decide) rfl (fun ls hl => ?_)
    -- loop at 24
    have lp_6 : ∀ (fuel_lp_6 : Nat) (t : Int32) (u : Int32) (H : Heap) (locs : List Loc) (ls : Array Slot), (64 - u.toInt).toNat < fuel_lp_6 → (0 : Int) ≤ t.toInt ∧ t.toInt ≤ 1 → (0 : Int) ≤ u.toInt ∧ u.toInt ≤ 64 → u.toInt ≤ (i 410 x.toInt.toNat).toInt → sdI i x.toInt y.toInt u.toInt t.toInt → lv_has ls 5 [(4, .int u), (3, .int t), (0, .ref (g 36)), (1, .int x), (2, .int y)] → sj_H D A (hwc g ka i r L d) H → va_S A s.heap H locs → W p l e (headSpec wsX12_stands ({ frames := 0, cells := 0, slots := 0, locals := 0 })).room s m ([.ref (g 36), .int x, .int y] : List Value).toArray below meth c H locs 0 0 (MQ below (sj_Qi (S := Unit) D (fun v u => ((0 : Int) ≤ v.toInt ∧ v.toInt ≤ 1) ∧ ((v.toInt = 1 ∧ sdB i x.toInt y.toInt) ∨ (v.toInt = 0 ∧ ¬ sdB i x.toInt y.toInt))) (fun _ => hwc g ka i r L d) (fun _ => []) A) ([.ref (g 36), .int x, .int y] : List Value).toArray s 0 0 A) (F0 m 24 ls []) := by
      intro fuel_lp_6
      induction fuel_lp_6 with
      | zero => intros; omega
      | succ fuel_lp_6 ih_lp_6 =>
        intro t u H locs ls hm hr_t hr_u hi_lp_6_0 hi_lp_6_1 hl hH hS
        refine lv_iload hx hb dX12_stands_24 (lv_at hl 0 rfl) ?_
        refine lv_aload_n hx hb dX12_stands_26 rfl (lv_at hl 2 rfl) ?_
        refine h_getr (ci := 12) (C := RX12) (F := TX12) (N := 86) hx hb hts in12 hown hK hH (by decide) (rfl : kd 36 = 12) (by decide) rfl 51 (by decide) wd0 (fun _ h9 => h9) (by decide) rfl (t := 410) (hR 36 51 rfl) (by decide) dX12_stands_27 ?_
        refine lv_iload_n hx hb dX12_stands_30 rfl (lv_at hl 3 rfl) ?_
        refine h_iald hx hb hK hH (by decide) (rfl : kd 410 = 13) (s_vin (N := 64) (rfl : x.toInt = _) (rfl : ln 410 = 64) (by omega) (by omega)) dX12_stands_31 ?_
        have ek_7 : x.toNatClampNeg = (x.toInt).toNat := (s_cl (show x.toInt = x.toInt by omega))
        refine sj_i (y := (i 410 (x.toInt).toNat)) (by rw [ek_7]) ?_
        refine lv_icmp_ge (tgt := 77) hx hb dX12_stands_32 (by decide) (fun c_8 => ?_) (fun c_8 => ?_)
        · skip
          have h_9 := s_le (rfl : (i 410 (x.toInt).toNat).toInt = _) (rfl : u.toInt = _) c_8
          refine lv_iload_n hx hb dX12_stands_77 rfl (lv_at hl 1 rfl) ?_
          exact sj_zret hx hb hr hlocks (s_nz ⟨by omega, by omega⟩) hS () ⟨⟨by omega, by omega⟩, (sd_end hi_lp_6_1 (by omega))⟩ hH (sj_Knil hK) (Nat.le_of_ble_eq_true rfl) (Nat.le_of_ble_eq_true rfl) dX12_stands_78
        · skip
          have h_10 := s_nle (rfl : (i 410 (x.toInt).toNat).toInt = _) (rfl : u.toInt = _) c_8
          refine lv_iload_n hx hb dX12_stands_35 rfl (lv_at hl 1 rfl) ?_
          refine lv_if_eq (tgt := 77) hx hb dX12_stands_36 (by decide) (fun c_11 => ?_) (fun c_11 => ?_)
          · skip
            have h_12 := s_eq (rfl : t.toInt = _) (show (0 : Int32).toInt = 0 from rfl) c_11
            refine lv_iload_n hx hb dX12_stands_77 rfl (lv_at hl 1 rfl) ?_
            exact sj_zret hx hb hr hlocks (s_nz ⟨by omega, by omega⟩) hS () ⟨⟨by omega, by omega⟩, (sd_end hi_lp_6_1 (by omega))⟩ hH (sj_Knil hK) (Nat.le_of_ble_eq_true rfl) (Nat.le_of_ble_eq_true rfl) dX12_stands_78
          · skip
            have h_13 := s_ne (rfl : t.toInt = _) (show (0 : Int32).toInt = 0 from rfl) c_11
            have hJ := hi_lp_6_1.resolve_right (fun q => by have := q.1; omega)
            have hJ1 := hJ.2.1
            refine lv_aload_n hx hb dX12_stands_39 rfl (lv_at hl 2 rfl) ?_
            refine h_getr (ci := 12) (C := RX12) (F := TX12) (N := 86) hx hb hts in12 hown hK hH (by decide) (rfl : kd 36 = 12) (by decide) rfl 39 (by decide) wd2 (fun _ h9 => h9) (by decide) rfl (t := 402) (hR 36 39 rfl) (by decide) dX12_stands_40 ?_
            refine lv_iload_n hx hb dX12_stands_43 rfl (lv_at hl 4 rfl) ?_
            refine lv_iload hx hb dX12_stands_44 (lv_at hl 0 rfl) ?_
            refine lv_iadd hx hb dX12_stands_46 ?_
            obtain ⟨z_14, ez_14, hz_14⟩ := s_add (rfl : y.toInt = _) (rfl : u.toInt = _) (by omega) (by omega)
            refine sj_i ez_14 ?_
            have bx_15 : (0 : Int) ≤ (i 402 (u.toInt + y.toInt).toNat).toInt ∧ (i 402 (u.toInt + y.toInt).toNat).toInt ≤ 65535 := hO 402 (u.toInt + y.toInt).toNat
            refine h_cald hx hb hK hH (by decide) (rfl : kd 402 = 14) (s_vin (N := 60) (rfl : z_14.toInt = _) (rfl : ln 402 = 60) (by omega) (by omega)) dX12_stands_47 ?_
            have ek_16 : z_14.toNatClampNeg = (u.toInt + y.toInt).toNat := (s_cl (show z_14.toInt = u.toInt + y.toInt by omega))
            refine sj_i (y := (i 402 (u.toInt + y.toInt).toNat)) (by rw [ek_16]) ?_
            refine lv_aload_n hx hb dX12_stands_48 rfl (lv_at hl 2 rfl) ?_
            refine h_getr (ci := 12) (C := RX12) (F := TX12) (N := 86) hx hb hts in12 hown hK hH (by decide) (rfl : kd 36 = 12) (by decide) rfl 53 (by decide) wd3 (fun _ h9 => h9) (by decide) rfl (t := 411) (hR 36 53 rfl) (by decide) dX12_stands_49 ?_
            refine lv_aload_n hx hb dX12_stands_52 rfl (lv_at hl 2 rfl) ?_
            refine h_getr (ci := 12) (C := RX12) (F := TX12) (N := 86) hx hb hts in12 hown hK hH (by decide) (rfl : kd 36 = 12) (by decide) rfl 50 (by decide) wd4 (fun _ h9 => h9) (by decide) rfl (t := 409) (hR 36 50 rfl) (by decide) dX12_stands_53 ?_
            refine lv_iload_n hx hb dX12_stands_56 rfl (lv_at hl 3 rfl) ?_
            refine h_iald hx hb hK hH (by decide) (rfl : kd 409 = 13) (s_vin (N := 64) (rfl : x.toInt = _) (rfl : ln 409 = 64) (by omega) (by omega)) dX12_stands_57 ?_
            have ek_17 : x.toNatClampNeg = (x.toInt).toNat := (s_cl (show x.toInt = x.toInt by omega))
            refine sj_i (y := (i 409 (x.toInt).toNat)) (by rw [ek_17]) ?_
            refine lv_iload hx hb dX12_stands_58 (lv_at hl 0 rfl) ?_
            refine lv_iadd hx hb dX12_stands_60 ?_
            obtain ⟨z_18, ez_18, hz_18⟩ := s_add (rfl : (i 409 (x.toInt).toNat).toInt = _) (rfl : u.toInt = _) (by omega) (by omega)
            refine sj_i ez_18 ?_
            have bx_19 : (0 : Int) ≤ (i 411 ((i 409 (x.toInt).toNat).toInt + u.toInt).toNat).toInt ∧ (i 411 ((i 409 (x.toInt).toNat).toInt + u.toInt).toNat).toInt ≤ 65535 := hO 411 ((i 409 (x.toInt).toNat).toInt + u.toInt).toNat
            refine h_cald hx hb hK hH (by decide) (rfl : kd 411 = 14) (s_vin (N := 64) (rfl : z_18.toInt = _) (rfl : ln 411 = 64) (by omega) (by omega)) dX12_stands_61 ?_
            have ek_20 : z_18.toNatClampNeg = ((i 409 (x.toInt).toNat).toInt + u.toInt).toNat := (s_cl (show z_18.toInt = (i 409 (x.toInt).toNat).toInt + u.toInt by omega))
            refine sj_i (y := (i 411 ((i 409 (x.toInt).toNat).toInt + u.toInt).toNat)) (by rw [ek_20]) ?_
            refine lv_icmp_ne (tgt := 69) hx hb dX12_stands_62 (by decide) (fun c_21 => ?_) (fun c_21 => ?_)
            · skip
              have h_22 := s_ne (rfl : (i 402 (u.toInt + y.toInt).toNat).toInt = _) (rfl : (i 411 ((i 409 (x.toInt).toNat).toInt + u.toInt).toNat).toInt = _) c_21
              refine lv_iconst (v := 0) hx hb dX12_stands_69 (by decide) ?_
              refine lv_istore_n (lv' := [(3, .int 0), (4, .int u), (0, .ref (g 36)), (1, .int x), (2, .int y)]) hx hb dX12_stands_70 rfl hl (by decide) rfl (fun ls hl => ?_)
              obtain ⟨z_23, ez_23, hz_23⟩ := s_add (rfl : u.toInt = _) (show (1 : Int32).toInt = 1 from rfl) (by omega) (by omega)
              refine lv_iinc (v := z_23) (lv' := [(4, .int z_23), (3, .int 0), (0, .ref (g 36)), (1, .int x), (2, .int y)]) hx hb dX12_stands_71 hl (k := 1) rfl ez_23 (by decide) rfl (fun ls hl => ?_)
              refine lv_goto (tgt := 24) hx hb dX12_stands_74 (by decide) ?_
              have hl_24 : (0 : Int32).toInt = 0 := rfl
              exact ih_lp_6 0 z_23 _ _ ls (by omega) (by omega) (by omega) (by omega) (Or.inr ⟨by rfl, fun q => by
                        have q1 := q.2 u.toInt.toNat (by omega)
                        rw [show (y.toInt + ((u.toInt.toNat : Nat) : Int)).toNat = (u.toInt + y.toInt).toNat by omega, show ((i 409 x.toInt.toNat).toInt + ((u.toInt.toNat : Nat) : Int)).toNat = ((i 409 (x.toInt).toNat).toInt + u.toInt).toNat by omega] at q1
                        omega⟩) (lv_sub hl [0, 1, 2, 3, 4] rfl) hH hS
            · skip
              have h_25 := s_eq (rfl : (i 402 (u.toInt + y.toInt).toNat).toInt = _) (rfl : (i 411 ((i 409 (x.toInt).toNat).toInt + u.toInt).toNat).toInt = _) c_21
              refine lv_iconst (v := 1) hx hb dX12_stands_65 (by decide) ?_
              refine lv_goto (tgt := 70) hx hb dX12_stands_66 (by decide) ?_
              refine lv_istore_n (lv' := [(3, .int 1), (4, .int u), (0, .ref (g 36)), (1, .int x), (2, .int y)]) hx hb dX12_stands_70 rfl hl (by decide) rfl (fun ls hl => ?_)
              obtain ⟨z_26, ez_26, hz_26⟩ := s_add (rfl : u.toInt = _) (show (1 : Int32).toInt = 1 from rfl) (by omega) (by omega)
              refine lv_iinc (v := z_26) (lv' := [(4, .int z_26), (3, .int 1), (0, .ref (g 36)), (1, .int x), (2, .int y)]) hx hb dX12_stands_71 hl (k := 1) rfl ez_26 (by decide) rfl (fun ls hl => ?_)
              refine lv_goto (tgt := 24) hx hb dX12_stands_74 (by decide) ?_
              have hl_27 : (1 : Int32).toInt = 1 := rfl
              exact ih_lp_6 1 z_26 _ _ ls (by omega) (by omega) (by omega) (by omega) (Or.inl ⟨by rfl, (hi_lp_6_1.resolve_right (fun q => by have := q.1; omega)).2.1, fun j hj => by
                        by_cases q : (j : Int) < u.toInt
                        · exact (hi_lp_6_1.resolve_right (fun q => by have := q.1; omega)).2.2 j q
                        · rw [show (y.toInt + (j : Int)).toNat = (u.toInt + y.toInt).toNat by omega, show ((i 409 x.toInt.toNat).toInt + (j : Int)).toNat = ((i 409 (x.toInt).toNat).toInt + u.toInt).toNat by omega]; omega⟩) (lv_sub hl [0, 1, 2, 3, 4] rfl) hH hS
    have hl_28 : (0 : Int32).toInt = 0 := rfl
    have hl_29 : (0 : Int32).toInt = 0 := rfl
    exact lp_6 _ 0 0 _ _ ls (Nat.lt_succ_self _) (by omega) (by omega) (by omega) (Or.inr ⟨by rfl, fun q => by have q1 := q.1; omega⟩) (lv_sub hl [0, 1, 2, 3, 4] rfl) hH hS
  · skip
    have h_30 := s_nlt (rfl : (i 36 40).toInt = _) (rfl : z_2.toInt = _) c_4
    refine lv_iconst (v := 1) hx hb dX12_stands_15 (by decide) ?_
    refine lv_goto (tgt := 20) hx hb dX12_stands_16 (by decide) ?_
    refine lv_istore_n (lv' := [(3, .int 1), (0, .ref (g 36)), (1, .int x), (2, .int y)]) hx hb dX12_stands_20 rfl hl (by decide) rfl (fun ls hl => ?_)
    refine lv_iconst (v := 0) hx hb dX12_stands_21 (by decide) ?_
    refine lv_istore (lv' := [(4, .int 0), (3, .int 1), (0, .ref (g 36)), (1, .int x), (2, .int y)]) hx hb dX12_stands_22 hl (by decide) rfl (fun ls hl => ?_)
    -- loop at 24
    have lp_31 : ∀ (fuel_lp_31 : Nat) (t : Int32) (u : Int32) (H : Heap) (locs : List Loc) (ls : Array Slot), (64 - u.toInt).toNat < fuel_lp_31 → (0 : Int) ≤ t.toInt ∧ t.toInt ≤ 1 → (0 : Int) ≤ u.toInt ∧ u.toInt ≤ 64 → u.toInt ≤ (i 410 x.toInt.toNat).toInt → sdI i x.toInt y.toInt u.toInt t.toInt → lv_has ls 5 [(4, .int u), (3, .int t), (0, .ref (g 36)), (1, .int x), (2, .int y)] → sj_H D A (hwc g ka i r L d) H → va_S A s.heap H locs → W p l e (headSpec wsX12_stands ({ frames := 0, cells := 0, slots := 0, locals := 0 })).room s m ([.ref (g 36), .int x, .int y] : List Value).toArray below meth c H locs 0 0 (MQ below (sj_Qi (S := Unit) D (fun v u => ((0 : Int) ≤ v.toInt ∧ v.toInt ≤ 1) ∧ ((v.toInt = 1 ∧ sdB i x.toInt y.toInt) ∨ (v.toInt = 0 ∧ ¬ sdB i x.toInt y.toInt))) (fun _ => hwc g ka i r L d) (fun _ => []) A) ([.ref (g 36), .int x, .int y] : List Value).toArray s 0 0 A) (F0 m 24 ls []) := by
      intro fuel_lp_31
      induction fuel_lp_31 with
      | zero => intros; omega
      | succ fuel_lp_31 ih_lp_31 =>
        intro t u H locs ls hm hr_t hr_u hi_lp_31_0 hi_lp_31_1 hl hH hS
        refine lv_iload hx hb dX12_stands_24 (lv_at hl 0 rfl) ?_
        refine lv_aload_n hx hb dX12_stands_26 rfl (lv_at hl 2 rfl) ?_
        refine h_getr (ci := 12) (C := RX12) (F := TX12) (N := 86) hx hb hts in12 hown hK hH (by decide) (rfl : kd 36 = 12) (by decide) rfl 51 (by decide) wd0 (fun _ h9 => h9) (by decide) rfl (t := 410) (hR 36 51 rfl) (by decide) dX12_stands_27 ?_
        refine lv_iload_n hx hb dX12_stands_30 rfl (lv_at hl 3 rfl) ?_
        refine h_iald hx hb hK hH (by decide) (rfl : kd 410 = 13) (s_vin (N := 64) (rfl : x.toInt = _) (rfl : ln 410 = 64) (by omega) (by omega)) dX12_stands_31 ?_
        have ek_32 : x.toNatClampNeg = (x.toInt).toNat := (s_cl (show x.toInt = x.toInt by omega))
        refine sj_i (y := (i 410 (x.toInt).toNat)) (by rw [ek_32]) ?_
        refine lv_icmp_ge (tgt := 77) hx hb dX12_stands_32 (by decide) (fun c_33 => ?_) (fun c_33 => ?_)
        · skip
          have h_34 := s_le (rfl : (i 410 (x.toInt).toNat).toInt = _) (rfl : u.toInt = _) c_33
          refine lv_iload_n hx hb dX12_stands_77 rfl (lv_at hl 1 rfl) ?_
          exact sj_zret hx hb hr hlocks (s_nz ⟨by omega, by omega⟩) hS () ⟨⟨by omega, by omega⟩, (sd_end hi_lp_31_1 (by omega))⟩ hH (sj_Knil hK) (Nat.le_of_ble_eq_true rfl) (Nat.le_of_ble_eq_true rfl) dX12_stands_78
        · skip
          have h_35 := s_nle (rfl : (i 410 (x.toInt).toNat).toInt = _) (rfl : u.toInt = _) c_33
          refine lv_iload_n hx hb dX12_stands_35 rfl (lv_at hl 1 rfl) ?_
          refine lv_if_eq (tgt := 77) hx hb dX12_stands_36 (by decide) (fun c_36 => ?_) (fun c_36 => ?_)
          · skip
            have h_37 := s_eq (rfl : t.toInt = _) (show (0 : Int32).toInt = 0 from rfl) c_36
            refine lv_iload_n hx hb dX12_stands_77 rfl (lv_at hl 1 rfl) ?_
            exact sj_zret hx hb hr hlocks (s_nz ⟨by omega, by omega⟩) hS () ⟨⟨by omega, by omega⟩, (sd_end hi_lp_31_1 (by omega))⟩ hH (sj_Knil hK) (Nat.le_of_ble_eq_true rfl) (Nat.le_of_ble_eq_true rfl) dX12_stands_78
          · skip
            have h_38 := s_ne (rfl : t.toInt = _) (show (0 : Int32).toInt = 0 from rfl) c_36
            have hJ := hi_lp_31_1.resolve_right (fun q => by have := q.1; omega)
            have hJ1 := hJ.2.1
            refine lv_aload_n hx hb dX12_stands_39 rfl (lv_at hl 2 rfl) ?_
            refine h_getr (ci := 12) (C := RX12) (F := TX12) (N := 86) hx hb hts in12 hown hK hH (by decide) (rfl : kd 36 = 12) (by decide) rfl 39 (by decide) wd2 (fun _ h9 => h9) (by decide) rfl (t := 402) (hR 36 39 rfl) (by decide) dX12_stands_40 ?_
            refine lv_iload_n hx hb dX12_stands_43 rfl (lv_at hl 4 rfl) ?_
            refine lv_iload hx hb dX12_stands_44 (lv_at hl 0 rfl) ?_
            refine lv_iadd hx hb dX12_stands_46 ?_
            obtain ⟨z_39, ez_39, hz_39⟩ := s_add (rfl : y.toInt = _) (rfl : u.toInt = _) (by omega) (by omega)
            refine sj_i ez_39 ?_
            have bx_40 : (0 : Int) ≤ (i 402 (u.toInt + y.toInt).toNat).toInt ∧ (i 402 (u.toInt + y.toInt).toNat).toInt ≤ 65535 := hO 402 (u.toInt + y.toInt).toNat
            refine h_cald hx hb hK hH (by decide) (rfl : kd 402 = 14) (s_vin (N := 60) (rfl : z_39.toInt = _) (rfl : ln 402 = 60) (by omega) (by omega)) dX12_stands_47 ?_
            have ek_41 : z_39.toNatClampNeg = (u.toInt + y.toInt).toNat := (s_cl (show z_39.toInt = u.toInt + y.toInt by omega))
            refine sj_i (y := (i 402 (u.toInt + y.toInt).toNat)) (by rw [ek_41]) ?_
            refine lv_aload_n hx hb dX12_stands_48 rfl (lv_at hl 2 rfl) ?_
            refine h_getr (ci := 12) (C := RX12) (F := TX12) (N := 86) hx hb hts in12 hown hK hH (by decide) (rfl : kd 36 = 12) (by decide) rfl 53 (by decide) wd3 (fun _ h9 => h9) (by decide) rfl (t := 411) (hR 36 53 rfl) (by decide) dX12_stands_49 ?_
            refine lv_aload_n hx hb dX12_stands_52 rfl (lv_at hl 2 rfl) ?_
            refine h_getr (ci := 12) (C := RX12) (F := TX12) (N := 86) hx hb hts in12 hown hK hH (by decide) (rfl : kd 36 = 12) (by decide) rfl 50 (by decide) wd4 (fun _ h9 => h9) (by decide) rfl (t := 409) (hR 36 50 rfl) (by decide) dX12_stands_53 ?_
            refine lv_iload_n hx hb dX12_stands_56 rfl (lv_at hl 3 rfl) ?_
            refine h_iald hx hb hK hH (by decide) (rfl : kd 409 = 13) (s_vin (N := 64) (rfl : x.toInt = _) (rfl : ln 409 = 64) (by omega) (by omega)) dX12_stands_57 ?_
            have ek_42 : x.toNatClampNeg = (x.toInt).toNat := (s_cl (show x.toInt = x.toInt by omega))
            refine sj_i (y := (i 409 (x.toInt).toNat)) (by rw [ek_42]) ?_
            refine lv_iload hx hb dX12_stands_58 (lv_at hl 0 rfl) ?_
            refine lv_iadd hx hb dX12_stands_60 ?_
            obtain ⟨z_43, ez_43, hz_43⟩ := s_add (rfl : (i 409 (x.toInt).toNat).toInt = _) (rfl : u.toInt = _) (by omega) (by omega)
            refine sj_i ez_43 ?_
            have bx_44 : (0 : Int) ≤ (i 411 ((i 409 (x.toInt).toNat).toInt + u.toInt).toNat).toInt ∧ (i 411 ((i 409 (x.toInt).toNat).toInt + u.toInt).toNat).toInt ≤ 65535 := hO 411 ((i 409 (x.toInt).toNat).toInt + u.toInt).toNat
            refine h_cald hx hb hK hH (by decide) (rfl : kd 411 = 14) (s_vin (N := 64) (rfl : z_43.toInt = _) (rfl : ln 411 = 64) (by omega) (by omega)) dX12_stands_61 ?_
            have ek_45 : z_43.toNatClampNeg = ((i 409 (x.toInt).toNat).toInt + u.toInt).toNat := (s_cl (show z_43.toInt = (i 409 (x.toInt).toNat).toInt + u.toInt by omega))
            refine sj_i (y := (i 411 ((i 409 (x.toInt).toNat).toInt + u.toInt).toNat)) (by rw [ek_45]) ?_
            refine lv_icmp_ne (tgt := 69) hx hb dX12_stands_62 (by decide) (fun c_46 => ?_) (fun c_46 => ?_)
            · skip
              have h_47 := s_ne (rfl : (i 402 (u.toInt + y.toInt).toNat).toInt = _) (rfl : (i 411 ((i 409 (x.toInt).toNat).toInt + u.toInt).toNat).toInt = _) c_46
              refine lv_iconst (v := 0) hx hb dX12_stands_69 (by decide) ?_
              refine lv_istore_n (lv' := [(3, .int 0), (4, .int u), (0, .ref (g 36)), (1, .int x), (2, .int y)]) hx hb dX12_stands_70 rfl hl (by decide) rfl (fun ls hl => ?_)
              obtain ⟨z_48, ez_48, hz_48⟩ := s_add (rfl : u.toInt = _) (show (1 : Int32).toInt = 1 from rfl) (by omega) (by omega)
              refine lv_iinc (v := z_48) (lv' := [(4, .int z_48), (3, .int 0), (0, .ref (g 36)), (1, .int x), (2, .int y)]) hx hb dX12_stands_71 hl (k := 1) rfl ez_48 (by decide) rfl (fun ls hl => ?_)
              refine lv_goto (tgt := 24) hx hb dX12_stands_74 (by decide) ?_
              have hl_49 : (0 : Int32).toInt = 0 := rfl
              exact ih_lp_31 0 z_48 _ _ ls (by omega) (by omega) (by omega) (by omega) (Or.inr ⟨by rfl, fun q => by
                        have q1 := q.2 u.toInt.toNat (by omega)
                        rw [show (y.toInt + ((u.toInt.toNat : Nat) : Int)).toNat = (u.toInt + y.toInt).toNat by omega, show ((i 409 x.toInt.toNat).toInt + ((u.toInt.toNat : Nat) : Int)).toNat = ((i 409 (x.toInt).toNat).toInt + u.toInt).toNat by omega] at q1
                        omega⟩) (lv_sub hl [0, 1, 2, 3, 4] rfl) hH hS
            · skip
              have h_50 := s_eq (rfl : (i 402 (u.toInt + y.toInt).toNat).toInt = _) (rfl : (i 411 ((i 409 (x.toInt).toNat).toInt + u.toInt).toNat).toInt = _) c_46
              refine lv_iconst (v := 1) hx hb dX12_stands_65 (by decide) ?_
              refine lv_goto (tgt := 70) hx hb dX12_stands_66 (by decide) ?_
              refine lv_istore_n (lv' := [(3, .int 1), (4, .int u), (0, .ref (g 36)), (1, .int x), (2, .int y)]) hx hb dX12_stands_70 rfl hl (by decide) rfl (fun ls hl => ?_)
              obtain ⟨z_51, ez_51, hz_51⟩ := s_add (rfl : u.toInt = _) (show (1 : Int32).toInt = 1 from rfl) (by omega) (by omega)
              refine lv_iinc (v := z_51) (lv' := [(4, .int z_51), (3, .int 1), (0, .ref (g 36)), (1, .int x), (2, .int y)]) hx hb dX12_stands_71 hl (k := 1) rfl ez_51 (by decide) rfl (fun ls hl => ?_)
              refine lv_goto (tgt := 24) hx hb dX12_stands_74 (by decide) ?_
              have hl_52 : (1 : Int32).toInt = 1 := rfl
              exact ih_lp_31 1 z_51 _ _ ls (by omega) (by omega) (by omega) (by omega) (Or.inl ⟨by rfl, (hi_lp_31_1.resolve_right (fun q => by have := q.1; omega)).2.1, fun j hj => by
                        by_cases q : (j : Int) < u.toInt
                        · exact (hi_lp_31_1.resolve_right (fun q => by have := q.1; omega)).2.2 j q
                        · rw [show (y.toInt + (j : Int)).toNat = (u.toInt + y.toInt).toNat by omega, show ((i 409 x.toInt.toNat).toInt + (j : Int)).toNat = ((i 409 (x.toInt).toNat).toInt + u.toInt).toNat by omega]; omega⟩) (lv_sub hl [0, 1, 2, 3, 4] rfl) hH hS
    have hl_53 : (1 : Int32).toInt = 1 := rfl
    have hl_54 : (0 : Int32).toInt = 0 := rfl
    exact lp_31 _ 1 0 _ _ ls (Nat.lt_succ_self _) (by omega) (by omega) (by omega) (Or.inl ⟨by rfl, by omega, fun j hj => by exfalso; have : (0 : Int32).toInt = 0 := rfl; omega⟩) (lv_sub hl [0, 1, 2, 3, 4] rfl) hH hS
