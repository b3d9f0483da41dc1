def tgP (fo : Int) (Q : Prop) : Prop := fo = 1 → Q
def anyS (l : Launch) (D : va_G) (g : Nat → Nat) (ka : Nat → ClassId) (ad : Nat → Nat) (m0 : Nat) : Prop := ∀ (i : Nat → Nat → Int32) (r : Nat → Nat → Nat) (L : Nat → Nat → Int64) (d : Nat → Nat → UInt64) (j : Nat) (ff : Nat → Int32) (n : Nat) (a : Nat) (lv : Nat) (x : Int32) (y : Int32) (hO : OkI i) (hR : RS r) (sz : Nat) (hj : j < 11) (hff : i (357 + 2 * j + 1) = ff) (hn : (i (357 + 2 * j) 1).toInt = (n : Int)) (hn40 : n ≤ 40) (ha : (i (357 + 2 * j) 2).toInt = (a : Int)) (han : a ≤ n) (hdp : (i (357 + 2 * j) 3).toInt = 1 → y.toInt ≤ (a : Int)) (hm : y.toInt + (lv : Int) = 40) (hy : 0 ≤ y.toInt) (hNB : ∀ k : Nat, k < n → (ff k).toInt ≠ 32) (heq : lv = m0), Met l yX9_anyOf wsX9_anyOf ({ frames := 3 * lv + 2, cells := 0, slots := 0, locals := 120 * lv + 80 }) (va_Pc [.ref (g (357 + 2 * j)), .int x, .int y] (sj_B D (hwc g ka i r L d) (hT ka) sz (gx ad (va_A (hwc g ka i r L d) sz)))) (sj_Qi (S := (Nat → Nat → Int32)) D (fun v u => OkI u ∧ (∀ a, ¬ (a = 357 + 2 * j) → u a = i a) ∧ ((0 : Int) ≤ v.toInt ∧ v.toInt ≤ 1) ∧ ((u (357 + 2 * j) 1).toInt = (i (357 + 2 * j) 1).toInt ∧ (i (357 + 2 * j) 2).toInt ≤ (u (357 + 2 * j) 2).toInt ∧ (u (357 + 2 * j) 2).toInt ≤ (n : Int) + 41 - y.toInt ∧ ((i (357 + 2 * j) 3).toInt = 0 → (u (357 + 2 * j) 3).toInt = 0)) ∧ (tgP (i (357 + 2 * j) 3).toInt ((∃ b : Nat, (u (357 + 2 * j) 3).toInt = 1 ∧ (u (357 + 2 * j) 2).toInt = (b : Int) ∧ a < b ∧ b ≤ n ∧ tgR (tb x) 2 ff n a b (decide (v.toInt = 1)) ∧ (n ≤ b ∨ ((ff b).toInt ≠ 38 ∧ (ff b).toInt ≠ 124))) ∨ ((u (357 + 2 * j) 3).toInt = 0 ∧ tgX (tb x) 2 ff n a)))) (fun u => hwc g ka u r L d) (fun _ => []) (va_A (hwc g ka i r L d) sz)) 0 0 (va_A (hwc g ka i r L d) sz)
theorem dX9_one_0 : decode cX9_one 0 = .ok (.iconst 1, 1) := by decide +kernel
theorem dX9_one_1 : decode cX9_one 1 = .ok (.istore_n 3, 1) := by decide +kernel
theorem dX9_one_2 : decode cX9_one 2 = .ok (.aload_n 0, 1) := by decide +kernel
theorem dX9_one_3 : decode cX9_one 3 = .ok (.getfield 33, 3) := by decide +kernel
theorem dX9_one_6 : decode cX9_one 6 = .ok (.aload_n 0, 1) := by decide +kernel
theorem dX9_one_7 : decode cX9_one 7 = .ok (.getfield 13, 3) := by decide +kernel
theorem dX9_one_10 : decode cX9_one 10 = .ok (.if_icmp .ge 40, 3) := by decide +kernel
theorem dX9_one_50 : decode cX9_one 50 = .ok (.aload_n 0, 1) := by decide +kernel
theorem dX9_one_51 : decode cX9_one 51 = .ok (.getfield 33, 3) := by decide +kernel
theorem dX9_one_54 : decode cX9_one 54 = .ok (.aload_n 0, 1) := by decide +kernel
theorem dX9_one_55 : decode cX9_one 55 = .ok (.getfield 13, 3) := by decide +kernel
theorem dX9_one_58 : decode cX9_one 58 = .ok (.if_icmp .ge 9, 3) := by decide +kernel
theorem dX9_one_67 : decode cX9_one 67 = .ok (.aload_n 0, 1) := by decide +kernel
theorem dX9_one_68 : decode cX9_one 68 = .ok (.iconst 0, 1) := by decide +kernel
theorem dX9_one_69 : decode cX9_one 69 = .ok (.putfield 29, 3) := by decide +kernel
theorem dX9_one_72 : decode cX9_one 72 = .ok (.iconst 0, 1) := by decide +kernel
theorem dX9_one_73 : decode cX9_one 73 = .ok (.ireturn, 1) := by decide +kernel
theorem dX9_one_61 : decode cX9_one 61 = .ok (.iload_n 2, 1) := by decide +kernel
theorem dX9_one_62 : decode cX9_one 62 = .ok (.bipush 40, 2) := by decide +kernel
theorem dX9_one_64 : decode cX9_one 64 = .ok (.if_icmp .lt 10, 3) := by decide +kernel
theorem dX9_one_74 : decode cX9_one 74 = .ok (.aload_n 0, 1) := by decide +kernel
theorem dX9_one_75 : decode cX9_one 75 = .ok (.getfield 9, 3) := by decide +kernel
theorem dX9_one_78 : decode cX9_one 78 = .ok (.aload_n 0, 1) := by decide +kernel
theorem dX9_one_79 : decode cX9_one 79 = .ok (.getfield 33, 3) := by decide +kernel
theorem dX9_one_82 : decode cX9_one 82 = .ok (.caload, 1) := by decide +kernel
theorem dX9_one_83 : decode cX9_one 83 = .ok (.istore 4, 2) := by decide +kernel
theorem dX9_one_85 : decode cX9_one 85 = .ok (.aload_n 0, 1) := by decide +kernel
theorem dX9_one_86 : decode cX9_one 86 = .ok (.dup, 1) := by decide +kernel
theorem dX9_one_87 : decode cX9_one 87 = .ok (.getfield 33, 3) := by decide +kernel
theorem dX9_one_90 : decode cX9_one 90 = .ok (.iconst 1, 1) := by decide +kernel
theorem dX9_one_91 : decode cX9_one 91 = .ok (.iadd, 1) := by decide +kernel
theorem dX9_one_92 : decode cX9_one 92 = .ok (.putfield 33, 3) := by decide +kernel
theorem dX9_one_95 : decode cX9_one 95 = .ok (.iload 4, 2) := by decide +kernel
theorem dX9_one_97 : decode cX9_one 97 = .ok (.bipush 40, 2) := by decide +kernel
theorem dX9_one_99 : decode cX9_one 99 = .ok (.if_icmp .ne 76, 3) := by decide +kernel
theorem dX9_one_175 : decode cX9_one 175 = .ok (.aload_n 0, 1) := by decide +kernel
theorem dX9_one_176 : decode cX9_one 176 = .ok (.aload_n 0, 1) := by decide +kernel
theorem dX9_one_177 : decode cX9_one 177 = .ok (.getfield 29, 3) := by decide +kernel
theorem dX9_one_180 : decode cX9_one 180 = .ok (.ifCond .eq 21, 3) := by decide +kernel
theorem dX9_one_201 : decode cX9_one 201 = .ok (.iconst 0, 1) := by decide +kernel
theorem dX9_one_202 : decode cX9_one 202 = .ok (.putfield 29, 3) := by decide +kernel
theorem dX9_one_205 : decode cX9_one 205 = .ok (.aload_n 0, 1) := by decide +kernel
theorem dX9_one_206 : decode cX9_one 206 = .ok (.getfield 29, 3) := by decide +kernel
theorem dX9_one_209 : decode cX9_one 209 = .ok (.ifCond .eq 20, 3) := by decide +kernel
theorem dX9_one_229 : decode cX9_one 229 = .ok (.iconst 0, 1) := by decide +kernel
theorem dX9_one_230 : decode cX9_one 230 = .ok (.istore 5, 2) := by decide +kernel
theorem dX9_one_232 : decode cX9_one 232 = .ok (.iload 5, 2) := by decide +kernel
theorem dX9_one_234 : decode cX9_one 234 = .ok (.iload_n 3, 1) := by decide +kernel
theorem dX9_one_235 : decode cX9_one 235 = .ok (.if_icmp .ne 7, 3) := by decide +kernel
theorem dX9_one_242 : decode cX9_one 242 = .ok (.iconst 0, 1) := by decide +kernel
theorem dX9_one_243 : decode cX9_one 243 = .ok (.ireturn, 1) := by decide +kernel
theorem dX9_one_238 : decode cX9_one 238 = .ok (.iconst 1, 1) := by decide +kernel
theorem dX9_one_239 : decode cX9_one 239 = .ok (.goto 4, 3) := by decide +kernel
theorem dX9_one_183 : decode cX9_one 183 = .ok (.iload 4, 2) := by decide +kernel
theorem dX9_one_185 : decode cX9_one 185 = .ok (.bipush 97, 2) := by decide +kernel
theorem dX9_one_187 : decode cX9_one 187 = .ok (.if_icmp .lt 14, 3) := by decide +kernel
theorem dX9_one_190 : decode cX9_one 190 = .ok (.iload 4, 2) := by decide +kernel
theorem dX9_one_192 : decode cX9_one 192 = .ok (.bipush 112, 2) := by decide +kernel
theorem dX9_one_194 : decode cX9_one 194 = .ok (.if_icmp .gt 7, 3) := by decide +kernel
theorem dX9_one_197 : decode cX9_one 197 = .ok (.iconst 1, 1) := by decide +kernel
theorem dX9_one_198 : decode cX9_one 198 = .ok (.goto 4, 3) := by decide +kernel
theorem dX9_one_212 : decode cX9_one 212 = .ok (.iload_n 1, 1) := by decide +kernel
theorem dX9_one_213 : decode cX9_one 213 = .ok (.iload 4, 2) := by decide +kernel
theorem dX9_one_215 : decode cX9_one 215 = .ok (.bipush 97, 2) := by decide +kernel
theorem dX9_one_217 : decode cX9_one 217 = .ok (.isub, 1) := by decide +kernel
theorem dX9_one_218 : decode cX9_one 218 = .ok (.ishr, 1) := by decide +kernel
theorem dX9_one_219 : decode cX9_one 219 = .ok (.iconst 1, 1) := by decide +kernel
theorem dX9_one_220 : decode cX9_one 220 = .ok (.iand, 1) := by decide +kernel
theorem dX9_one_221 : decode cX9_one 221 = .ok (.iconst 1, 1) := by decide +kernel
theorem dX9_one_222 : decode cX9_one 222 = .ok (.if_icmp .ne 7, 3) := by decide +kernel
theorem dX9_one_225 : decode cX9_one 225 = .ok (.iconst 1, 1) := by decide +kernel
theorem dX9_one_226 : decode cX9_one 226 = .ok (.goto 4, 3) := by decide +kernel
theorem dX9_one_102 : decode cX9_one 102 = .ok (.aload_n 0, 1) := by decide +kernel
theorem dX9_one_103 : decode cX9_one 103 = .ok (.iload_n 1, 1) := by decide +kernel
theorem dX9_one_104 : decode cX9_one 104 = .ok (.iload_n 2, 1) := by decide +kernel
theorem dX9_one_105 : decode cX9_one 105 = .ok (.iconst 1, 1) := by decide +kernel
theorem dX9_one_106 : decode cX9_one 106 = .ok (.iadd, 1) := by decide +kernel
theorem dX9_one_107 : decode cX9_one 107 = .ok (.invokevirtual 36, 3) := by decide +kernel
theorem dX9_one_110 : decode cX9_one 110 = .ok (.istore 5, 2) := by decide +kernel
theorem dX9_one_112 : decode cX9_one 112 = .ok (.aload_n 0, 1) := by decide +kernel
theorem dX9_one_113 : decode cX9_one 113 = .ok (.aload_n 0, 1) := by decide +kernel
theorem dX9_one_114 : decode cX9_one 114 = .ok (.getfield 29, 3) := by decide +kernel
theorem dX9_one_117 : decode cX9_one 117 = .ok (.ifCond .eq 32, 3) := by decide +kernel
theorem dX9_one_149 : decode cX9_one 149 = .ok (.iconst 0, 1) := by decide +kernel
theorem dX9_one_150 : decode cX9_one 150 = .ok (.putfield 29, 3) := by decide +kernel
theorem dX9_one_153 : decode cX9_one 153 = .ok (.aload_n 0, 1) := by decide +kernel
theorem dX9_one_154 : decode cX9_one 154 = .ok (.dup, 1) := by decide +kernel
theorem dX9_one_155 : decode cX9_one 155 = .ok (.getfield 33, 3) := by decide +kernel
theorem dX9_one_158 : decode cX9_one 158 = .ok (.iconst 1, 1) := by decide +kernel
theorem dX9_one_159 : decode cX9_one 159 = .ok (.iadd, 1) := by decide +kernel
theorem dX9_one_160 : decode cX9_one 160 = .ok (.putfield 33, 3) := by decide +kernel
theorem dX9_one_163 : decode cX9_one 163 = .ok (.iload 5, 2) := by decide +kernel
theorem dX9_one_165 : decode cX9_one 165 = .ok (.iload_n 3, 1) := by decide +kernel
theorem dX9_one_166 : decode cX9_one 166 = .ok (.if_icmp .ne 7, 3) := by decide +kernel
theorem dX9_one_173 : decode cX9_one 173 = .ok (.iconst 0, 1) := by decide +kernel
theorem dX9_one_174 : decode cX9_one 174 = .ok (.ireturn, 1) := by decide +kernel
theorem dX9_one_169 : decode cX9_one 169 = .ok (.iconst 1, 1) := by decide +kernel
theorem dX9_one_170 : decode cX9_one 170 = .ok (.goto 4, 3) := by decide +kernel
theorem dX9_one_120 : decode cX9_one 120 = .ok (.aload_n 0, 1) := by decide +kernel
theorem dX9_one_121 : decode cX9_one 121 = .ok (.getfield 33, 3) := by decide +kernel
theorem dX9_one_124 : decode cX9_one 124 = .ok (.aload_n 0, 1) := by decide +kernel
theorem dX9_one_125 : decode cX9_one 125 = .ok (.getfield 13, 3) := by decide +kernel
theorem dX9_one_128 : decode cX9_one 128 = .ok (.if_icmp .ge 21, 3) := by decide +kernel
theorem dX9_one_131 : decode cX9_one 131 = .ok (.aload_n 0, 1) := by decide +kernel
theorem dX9_one_132 : decode cX9_one 132 = .ok (.getfield 9, 3) := by decide +kernel
theorem dX9_one_135 : decode cX9_one 135 = .ok (.aload_n 0, 1) := by decide +kernel
theorem dX9_one_136 : decode cX9_one 136 = .ok (.getfield 33, 3) := by decide +kernel
theorem dX9_one_139 : decode cX9_one 139 = .ok (.caload, 1) := by decide +kernel
theorem dX9_one_140 : decode cX9_one 140 = .ok (.bipush 41, 2) := by decide +kernel
theorem dX9_one_142 : decode cX9_one 142 = .ok (.if_icmp .ne 7, 3) := by decide +kernel
theorem dX9_one_145 : decode cX9_one 145 = .ok (.iconst 1, 1) := by decide +kernel
theorem dX9_one_146 : decode cX9_one 146 = .ok (.goto 4, 3) := by decide +kernel
theorem dX9_one_13 : decode cX9_one 13 = .ok (.aload_n 0, 1) := by decide +kernel
theorem dX9_one_14 : decode cX9_one 14 = .ok (.getfield 9, 3) := by decide +kernel
theorem dX9_one_17 : decode cX9_one 17 = .ok (.aload_n 0, 1) := by decide +kernel
theorem dX9_one_18 : decode cX9_one 18 = .ok (.getfield 33, 3) := by decide +kernel
theorem dX9_one_21 : decode cX9_one 21 = .ok (.caload, 1) := by decide +kernel
theorem dX9_one_22 : decode cX9_one 22 = .ok (.bipush 33, 2) := by decide +kernel
theorem dX9_one_24 : decode cX9_one 24 = .ok (.if_icmp .ne 26, 3) := by decide +kernel
theorem dX9_one_27 : decode cX9_one 27 = .ok (.aload_n 0, 1) := by decide +kernel
theorem dX9_one_28 : decode cX9_one 28 = .ok (.dup, 1) := by decide +kernel
theorem dX9_one_29 : decode cX9_one 29 = .ok (.getfield 33, 3) := by decide +kernel
theorem dX9_one_32 : decode cX9_one 32 = .ok (.iconst 1, 1) := by decide +kernel
theorem dX9_one_33 : decode cX9_one 33 = .ok (.iadd, 1) := by decide +kernel
theorem dX9_one_34 : decode cX9_one 34 = .ok (.putfield 33, 3) := by decide +kernel
theorem dX9_one_37 : decode cX9_one 37 = .ok (.iload_n 3, 1) := by decide +kernel
theorem dX9_one_38 : decode cX9_one 38 = .ok (.ifCond .ne 7, 3) := by decide +kernel
theorem dX9_one_45 : decode cX9_one 45 = .ok (.iconst 0, 1) := by decide +kernel
theorem dX9_one_46 : decode cX9_one 46 = .ok (.istore_n 3, 1) := by decide +kernel
theorem dX9_one_47 : decode cX9_one 47 = .ok (.goto (-45), 3) := by decide +kernel
theorem dX9_one_41 : decode cX9_one 41 = .ok (.iconst 1, 1) := by decide +kernel
theorem dX9_one_42 : decode cX9_one 42 = .ok (.goto 4, 3) := by decide +kernel
theorem dX9_allOf_0 : decode cX9_allOf 0 = .ok (.aload_n 0, 1) := by decide +kernel
theorem dX9_allOf_1 : decode cX9_allOf 1 = .ok (.iload_n 1, 1) := by decide +kernel
theorem dX9_allOf_2 : decode cX9_allOf 2 = .ok (.iload_n 2, 1) := by decide +kernel
theorem dX9_allOf_3 : decode cX9_allOf 3 = .ok (.invokevirtual 43, 3) := by decide +kernel
theorem dX9_allOf_6 : decode cX9_allOf 6 = .ok (.istore_n 3, 1) := by decide +kernel
theorem dX9_allOf_7 : decode cX9_allOf 7 = .ok (.aload_n 0, 1) := by decide +kernel
theorem dX9_allOf_8 : decode cX9_allOf 8 = .ok (.getfield 33, 3) := by decide +kernel
theorem dX9_allOf_11 : decode cX9_allOf 11 = .ok (.aload_n 0, 1) := by decide +kernel
theorem dX9_allOf_12 : decode cX9_allOf 12 = .ok (.getfield 13, 3) := by decide +kernel
theorem dX9_allOf_15 : decode cX9_allOf 15 = .ok (.if_icmp .ge 53, 3) := by decide +kernel
theorem dX9_allOf_68 : decode cX9_allOf 68 = .ok (.iload_n 3, 1) := by decide +kernel
theorem dX9_allOf_69 : decode cX9_allOf 69 = .ok (.ireturn, 1) := by decide +kernel
theorem dX9_allOf_18 : decode cX9_allOf 18 = .ok (.aload_n 0, 1) := by decide +kernel
theorem dX9_allOf_19 : decode cX9_allOf 19 = .ok (.getfield 9, 3) := by decide +kernel
theorem dX9_allOf_22 : decode cX9_allOf 22 = .ok (.aload_n 0, 1) := by decide +kernel
theorem dX9_allOf_23 : decode cX9_allOf 23 = .ok (.getfield 33, 3) := by decide +kernel
theorem dX9_allOf_26 : decode cX9_allOf 26 = .ok (.caload, 1) := by decide +kernel
theorem dX9_allOf_27 : decode cX9_allOf 27 = .ok (.bipush 38, 2) := by decide +kernel
theorem dX9_allOf_29 : decode cX9_allOf 29 = .ok (.if_icmp .ne 39, 3) := by decide +kernel
theorem dX9_allOf_32 : decode cX9_allOf 32 = .ok (.aload_n 0, 1) := by decide +kernel
theorem dX9_allOf_33 : decode cX9_allOf 33 = .ok (.dup, 1) := by decide +kernel
theorem dX9_allOf_34 : decode cX9_allOf 34 = .ok (.getfield 33, 3) := by decide +kernel
theorem dX9_allOf_37 : decode cX9_allOf 37 = .ok (.iconst 1, 1) := by decide +kernel
theorem dX9_allOf_38 : decode cX9_allOf 38 = .ok (.iadd, 1) := by decide +kernel
theorem dX9_allOf_39 : decode cX9_allOf 39 = .ok (.putfield 33, 3) := by decide +kernel
theorem dX9_allOf_42 : decode cX9_allOf 42 = .ok (.aload_n 0, 1) := by decide +kernel
theorem dX9_allOf_43 : decode cX9_allOf 43 = .ok (.iload_n 1, 1) := by decide +kernel
theorem dX9_allOf_44 : decode cX9_allOf 44 = .ok (.iload_n 2, 1) := by decide +kernel
theorem dX9_allOf_45 : decode cX9_allOf 45 = .ok (.invokevirtual 43, 3) := by decide +kernel
theorem dX9_allOf_48 : decode cX9_allOf 48 = .ok (.istore 4, 2) := by decide +kernel
theorem dX9_allOf_50 : decode cX9_allOf 50 = .ok (.iload_n 3, 1) := by decide +kernel
theorem dX9_allOf_51 : decode cX9_allOf 51 = .ok (.ifCond .eq 12, 3) := by decide +kernel
theorem dX9_allOf_63 : decode cX9_allOf 63 = .ok (.iconst 0, 1) := by decide +kernel
theorem dX9_allOf_64 : decode cX9_allOf 64 = .ok (.istore_n 3, 1) := by decide +kernel
theorem dX9_allOf_65 : decode cX9_allOf 65 = .ok (.goto (-58), 3) := by decide +kernel
theorem dX9_allOf_54 : decode cX9_allOf 54 = .ok (.iload 4, 2) := by decide +kernel
theorem dX9_allOf_56 : decode cX9_allOf 56 = .ok (.ifCond .eq 7, 3) := by decide +kernel
theorem dX9_allOf_59 : decode cX9_allOf 59 = .ok (.iconst 1, 1) := by decide +kernel
theorem dX9_allOf_60 : decode cX9_allOf 60 = .ok (.goto 4, 3) := by decide +kernel
theorem dX9_anyOf_0 : decode cX9_anyOf 0 = .ok (.aload_n 0, 1) := by decide +kernel
theorem dX9_anyOf_1 : decode cX9_anyOf 1 = .ok (.iload_n 1, 1) := by decide +kernel
theorem dX9_anyOf_2 : decode cX9_anyOf 2 = .ok (.iload_n 2, 1) := by decide +kernel
theorem dX9_anyOf_3 : decode cX9_anyOf 3 = .ok (.invokevirtual 40, 3) := by decide +kernel
theorem dX9_anyOf_6 : decode cX9_anyOf 6 = .ok (.istore_n 3, 1) := by decide +kernel
theorem dX9_anyOf_7 : decode cX9_anyOf 7 = .ok (.aload_n 0, 1) := by decide +kernel
theorem dX9_anyOf_8 : decode cX9_anyOf 8 = .ok (.getfield 33, 3) := by decide +kernel
theorem dX9_anyOf_11 : decode cX9_anyOf 11 = .ok (.aload_n 0, 1) := by decide +kernel
theorem dX9_anyOf_12 : decode cX9_anyOf 12 = .ok (.getfield 13, 3) := by decide +kernel
theorem dX9_anyOf_15 : decode cX9_anyOf 15 = .ok (.if_icmp .ge 53, 3) := by decide +kernel
theorem dX9_anyOf_68 : decode cX9_anyOf 68 = .ok (.iload_n 3, 1) := by decide +kernel
theorem dX9_anyOf_69 : decode cX9_anyOf 69 = .ok (.ireturn, 1) := by decide +kernel
theorem dX9_anyOf_18 : decode cX9_anyOf 18 = .ok (.aload_n 0, 1) := by decide +kernel
theorem dX9_anyOf_19 : decode cX9_anyOf 19 = .ok (.getfield 9, 3) := by decide +kernel
theorem dX9_anyOf_22 : decode cX9_anyOf 22 = .ok (.aload_n 0, 1) := by decide +kernel
theorem dX9_anyOf_23 : decode cX9_anyOf 23 = .ok (.getfield 33, 3) := by decide +kernel
theorem dX9_anyOf_26 : decode cX9_anyOf 26 = .ok (.caload, 1) := by decide +kernel
theorem dX9_anyOf_27 : decode cX9_anyOf 27 = .ok (.bipush 124, 2) := by decide +kernel
theorem dX9_anyOf_29 : decode cX9_anyOf 29 = .ok (.if_icmp .ne 39, 3) := by decide +kernel
theorem dX9_anyOf_32 : decode cX9_anyOf 32 = .ok (.aload_n 0, 1) := by decide +kernel
theorem dX9_anyOf_33 : decode cX9_anyOf 33 = .ok (.dup, 1) := by decide +kernel
theorem dX9_anyOf_34 : decode cX9_anyOf 34 = .ok (.getfield 33, 3) := by decide +kernel
theorem dX9_anyOf_37 : decode cX9_anyOf 37 = .ok (.iconst 1, 1) := by decide +kernel
theorem dX9_anyOf_38 : decode cX9_anyOf 38 = .ok (.iadd, 1) := by decide +kernel
theorem dX9_anyOf_39 : decode cX9_anyOf 39 = .ok (.putfield 33, 3) := by decide +kernel
theorem dX9_anyOf_42 : decode cX9_anyOf 42 = .ok (.aload_n 0, 1) := by decide +kernel
theorem dX9_anyOf_43 : decode cX9_anyOf 43 = .ok (.iload_n 1, 1) := by decide +kernel
theorem dX9_anyOf_44 : decode cX9_anyOf 44 = .ok (.iload_n 2, 1) := by decide +kernel
theorem dX9_anyOf_45 : decode cX9_anyOf 45 = .ok (.invokevirtual 40, 3) := by decide +kernel
theorem dX9_anyOf_48 : decode cX9_anyOf 48 = .ok (.istore 4, 2) := by decide +kernel
theorem dX9_anyOf_50 : decode cX9_anyOf 50 = .ok (.iload_n 3, 1) := by decide +kernel
theorem dX9_anyOf_51 : decode cX9_anyOf 51 = .ok (.ifCond .ne 8, 3) := by decide +kernel
theorem dX9_anyOf_59 : decode cX9_anyOf 59 = .ok (.iconst 1, 1) := by decide +kernel
theorem dX9_anyOf_60 : decode cX9_anyOf 60 = .ok (.goto 4, 3) := by decide +kernel
theorem dX9_anyOf_64 : decode cX9_anyOf 64 = .ok (.istore_n 3, 1) := by decide +kernel
theorem dX9_anyOf_65 : decode cX9_anyOf 65 = .ok (.goto (-58), 3) := by decide +kernel
theorem dX9_anyOf_54 : decode cX9_anyOf 54 = .ok (.iload 4, 2) := by decide +kernel
theorem dX9_anyOf_56 : decode cX9_anyOf 56 = .ok (.ifCond .eq 7, 3) := by decide +kernel
theorem dX9_anyOf_63 : decode cX9_anyOf 63 = .ok (.iconst 0, 1) := by decide +kernel
theorem gw_X9_anyOf : wsX9_anyOf.all goodWord = true := by decide +kernel
theorem gX9_one_X9_anyOf : GoodIn wsX9_one (wsV RX9 36 RX9 yX9_anyOf wsX9_anyOf) := goodIn_app (goodIn_sub (List.forall_mem_cons.mpr ⟨(List.mem_cons_of_mem _ (List.mem_append_left _ lm4)), List.forall_mem_cons.mpr ⟨(List.mem_cons_of_mem _ (List.mem_append_left _ lm5)), List.forall_mem_cons.mpr ⟨(List.mem_cons_of_mem _ (List.mem_append_left _ lm6)), List.forall_mem_cons.mpr ⟨(List.mem_cons_of_mem _ (List.mem_append_left _ lm7)), (fun _ h => absurd h List.not_mem_nil)⟩⟩⟩⟩) (by decide +kernel)) (goodIn_sub (by unfold wsX9_anyOf; exact List.forall_mem_cons.mpr ⟨(List.mem_cons_of_mem _ (List.mem_append_left _ lm12)), List.forall_mem_append.mpr ⟨List.forall_mem_cons.mpr ⟨(List.mem_cons_of_mem _ (List.mem_append_left _ lm0)), List.forall_mem_cons.mpr ⟨(List.mem_cons_of_mem _ (List.mem_append_left _ lm1)), List.forall_mem_cons.mpr ⟨(List.mem_cons_of_mem _ (List.mem_append_left _ lm2)), List.forall_mem_cons.mpr ⟨(List.mem_cons_of_mem _ (List.mem_append_left _ lm13)), List.forall_mem_cons.mpr ⟨(List.mem_cons_of_mem _ (List.mem_append_left _ lm14)), List.forall_mem_cons.mpr ⟨(List.mem_cons_of_mem _ (List.mem_append_left _ lm15)), List.forall_mem_cons.mpr ⟨(List.mem_cons_of_mem _ (List.mem_append_left _ lm7)), List.forall_mem_cons.mpr ⟨(List.mem_cons_of_mem _ (List.mem_append_left _ lm8)), List.forall_mem_cons.mpr ⟨(List.mem_cons_of_mem _ (List.mem_append_left _ lm9)), List.forall_mem_cons.mpr ⟨(List.mem_cons_of_mem _ (List.mem_append_left _ lm10)), List.forall_mem_cons.mpr ⟨(List.mem_cons_of_mem _ (List.mem_append_left _ lm11)), List.forall_mem_cons.mpr ⟨List.mem_cons_self, List.forall_mem_cons.mpr ⟨(List.mem_cons_of_mem _ (List.mem_append_left _ lm3)), List.forall_mem_cons.mpr ⟨(List.mem_cons_of_mem _ (List.mem_append_left _ lm4)), List.forall_mem_cons.mpr ⟨(List.mem_cons_of_mem _ (List.mem_append_left _ lm5)), List.forall_mem_cons.mpr ⟨(List.mem_cons_of_mem _ (List.mem_append_left _ lm6)), (fun _ h => absurd h List.not_mem_nil)⟩⟩⟩⟩⟩⟩⟩⟩⟩⟩⟩⟩⟩⟩⟩⟩, (fun _ h => (List.mem_cons_of_mem _ (List.mem_append_right _ h)))⟩⟩) gw_X9_anyOf)
theorem gw_X9_one : wsX9_one.all goodWord = true := by decide +kernel
theorem gX9_allOf_X9_one : GoodIn wsX9_allOf (wsV RX9 43 RX9 yX9_one wsX9_one) := goodIn_app (goodIn_sub (List.forall_mem_cons.mpr ⟨(List.mem_cons_of_mem _ (List.mem_append_left _ lm3)), List.forall_mem_cons.mpr ⟨(List.mem_cons_of_mem _ (List.mem_append_left _ lm4)), List.forall_mem_cons.mpr ⟨(List.mem_cons_of_mem _ (List.mem_append_left _ lm5)), List.forall_mem_cons.mpr ⟨(List.mem_cons_of_mem _ (List.mem_append_left _ lm6)), (fun _ h => absurd h List.not_mem_nil)⟩⟩⟩⟩) (by decide +kernel)) (goodIn_sub (by unfold wsX9_one; exact List.forall_mem_cons.mpr ⟨(List.mem_cons_of_mem _ (List.mem_append_left _ lm11)), List.forall_mem_append.mpr ⟨List.forall_mem_cons.mpr ⟨(List.mem_cons_of_mem _ (List.mem_append_left _ lm0)), List.forall_mem_cons.mpr ⟨(List.mem_cons_of_mem _ (List.mem_append_left _ lm1)), List.forall_mem_cons.mpr ⟨(List.mem_cons_of_mem _ (List.mem_append_left _ lm2)), List.forall_mem_cons.mpr ⟨(List.mem_cons_of_mem _ (List.mem_append_left _ lm12)), List.forall_mem_cons.mpr ⟨(List.mem_cons_of_mem _ (List.mem_append_left _ lm13)), List.forall_mem_cons.mpr ⟨(List.mem_cons_of_mem _ (List.mem_append_left _ lm14)), List.forall_mem_cons.mpr ⟨(List.mem_cons_of_mem _ (List.mem_append_left _ lm15)), List.forall_mem_cons.mpr ⟨(List.mem_cons_of_mem _ (List.mem_append_left _ lm6)), List.forall_mem_cons.mpr ⟨List.mem_cons_self, List.forall_mem_cons.mpr ⟨(List.mem_cons_of_mem _ (List.mem_append_left _ lm3)), List.forall_mem_cons.mpr ⟨(List.mem_cons_of_mem _ (List.mem_append_left _ lm4)), List.forall_mem_cons.mpr ⟨(List.mem_cons_of_mem _ (List.mem_append_left _ lm5)), List.forall_mem_cons.mpr ⟨(List.mem_cons_of_mem _ (List.mem_append_left _ lm7)), List.forall_mem_cons.mpr ⟨(List.mem_cons_of_mem _ (List.mem_append_left _ lm8)), List.forall_mem_cons.mpr ⟨(List.mem_cons_of_mem _ (List.mem_append_left _ lm9)), List.forall_mem_cons.mpr ⟨(List.mem_cons_of_mem _ (List.mem_append_left _ lm10)), (fun _ h => absurd h List.not_mem_nil)⟩⟩⟩⟩⟩⟩⟩⟩⟩⟩⟩⟩⟩⟩⟩⟩, (fun _ h => (List.mem_cons_of_mem _ (List.mem_append_right _ h)))⟩⟩) gw_X9_one)
theorem gw_X9_allOf : wsX9_allOf.all goodWord = true := by decide +kernel
theorem gX9_anyOf_X9_allOf : GoodIn wsX9_anyOf (wsV RX9 40 RX9 yX9_allOf wsX9_allOf) := goodIn_app (goodIn_sub (List.forall_mem_cons.mpr ⟨(List.mem_cons_of_mem _ (List.mem_append_left _ lm3)), List.forall_mem_cons.mpr ⟨(List.mem_cons_of_mem _ (List.mem_append_left _ lm4)), List.forall_mem_cons.mpr ⟨(List.mem_cons_of_mem _ (List.mem_append_left _ lm5)), List.forall_mem_cons.mpr ⟨(List.mem_cons_of_mem _ (List.mem_append_left _ lm6)), (fun _ h => absurd h List.not_mem_nil)⟩⟩⟩⟩) (by decide +kernel)) (goodIn_sub (by unfold wsX9_allOf; exact List.forall_mem_cons.mpr ⟨(List.mem_cons_of_mem _ (List.mem_append_left _ lm7)), List.forall_mem_append.mpr ⟨List.forall_mem_cons.mpr ⟨(List.mem_cons_of_mem _ (List.mem_append_left _ lm0)), List.forall_mem_cons.mpr ⟨(List.mem_cons_of_mem _ (List.mem_append_left _ lm1)), List.forall_mem_cons.mpr ⟨(List.mem_cons_of_mem _ (List.mem_append_left _ lm2)), List.forall_mem_cons.mpr ⟨(List.mem_cons_of_mem _ (List.mem_append_left _ lm8)), List.forall_mem_cons.mpr ⟨(List.mem_cons_of_mem _ (List.mem_append_left _ lm9)), List.forall_mem_cons.mpr ⟨(List.mem_cons_of_mem _ (List.mem_append_left _ lm10)), List.forall_mem_cons.mpr ⟨(List.mem_cons_of_mem _ (List.mem_append_left _ lm6)), List.forall_mem_cons.mpr ⟨List.mem_cons_self, List.forall_mem_cons.mpr ⟨(List.mem_cons_of_mem _ (List.mem_append_left _ lm3)), List.forall_mem_cons.mpr ⟨(List.mem_cons_of_mem _ (List.mem_append_left _ lm4)), List.forall_mem_cons.mpr ⟨(List.mem_cons_of_mem _ (List.mem_append_left _ lm5)), List.forall_mem_cons.mpr ⟨(List.mem_cons_of_mem _ (List.mem_append_left _ lm11)), List.forall_mem_cons.mpr ⟨(List.mem_cons_of_mem _ (List.mem_append_left _ lm12)), List.forall_mem_cons.mpr ⟨(List.mem_cons_of_mem _ (List.mem_append_left _ lm13)), List.forall_mem_cons.mpr ⟨(List.mem_cons_of_mem _ (List.mem_append_left _ lm14)), List.forall_mem_cons.mpr ⟨(List.mem_cons_of_mem _ (List.mem_append_left _ lm15)), (fun _ h => absurd h List.not_mem_nil)⟩⟩⟩⟩⟩⟩⟩⟩⟩⟩⟩⟩⟩⟩⟩⟩, (fun _ h => (List.mem_cons_of_mem _ (List.mem_append_right _ h)))⟩⟩) gw_X9_allOf)
set_option maxHeartbeats 2000000 in
set_option maxRecDepth 100000 in
theorem k_tone (l : Launch) (D : va_G) (g : Nat → Nat) (ka : Nat → ClassId) (ad : Nat → Nat) (i : Nat → Nat → Int32) (r : Nat → Nat → Nat) (L : Nat → Nat → Int64) (d : Nat → Nat → UInt64) (j : Nat) (ff : Nat → Int32) (n : Nat) (a : Nat) (lv : Nat) (x : Int32) (y : Int32) (hO : OkI i) (hR : RS r) (sz : Nat) (hj : j < 11) (hff : i (357 + 2 * j + 1) = ff) (hn : (i (357 + 2 * j) 1).toInt = (n : Int)) (hn40 : n ≤ 40) (ha : (i (357 + 2 * j) 2).toInt = (a : Int)) (han : a ≤ n) (hdp : (i (357 + 2 * j) 3).toInt = 1 → y.toInt ≤ (a : Int)) (hm : y.toInt + (lv : Int) = 40) (hy : 0 ≤ y.toInt) (hNB : ∀ k : Nat, k < n → (ff k).toInt ≠ 32) (hrec : ∀ m9, lv = m9 + 1 → anyS l D g ka ad m9) : Met l yX9_one wsX9_one ({ frames := 3 * lv, cells := 0, slots := 0, locals := 120 * lv }) (va_Pc [.ref (g (357 + 2 * j)), .int x, .int y] (sj_B D (hwc g ka i r L d) (hT ka) sz (gx ad (va_A (hwc g ka i r L d) sz)))) (sj_Qi (S := (Nat → Nat → Int32)) D (fun v u => OkI u ∧ (∀ a, ¬ (a = 357 + 2 * j) → u a = i a) ∧ ((0 : Int) ≤ v.toInt ∧ v.toInt ≤ 1) ∧ ((u (357 + 2 * j) 1).toInt = (i (357 + 2 * j) 1).toInt ∧ (i (357 + 2 * j) 2).toInt ≤ (u (357 + 2 * j) 2).toInt ∧ (u (357 + 2 * j) 2).toInt ≤ (n : Int) + 41 - y.toInt ∧ ((i (357 + 2 * j) 3).toInt = 0 → (u (357 + 2 * j) 3).toInt = 0)) ∧ (tgP (i (357 + 2 * j) 3).toInt ((∃ b : Nat, (u (357 + 2 * j) 3).toInt = 1 ∧ (u (357 + 2 * j) 2).toInt = (b : Int) ∧ a < b ∧ b ≤ n ∧ tgR (tb x) 0 ff n a b (decide (v.toInt = 1))) ∨ ((u (357 + 2 * j) 3).toInt = 0 ∧ tgX (tb x) 0 ff n a)))) (fun u => hwc g ka u r L d) (fun _ => []) (va_A (hwc g ka i r L d) sz)) 0 0 (va_A (hwc g ka i r L d) sz) := by
  refine x_met (Ex := gx ad) (cc := cX9_one) (maxL := 6) (ret := (some .boolean)) (by decide) rfl (Nat.le_of_ble_eq_true rfl) ?_
  intro p e s m below meth c A ls hx hb hr hml hts hown hlocks hA hS hH hK hE hl
  have hown : s.vm.findClass RX9 = some m.cls := hown
  have in9 : ∀ w ∈ wsX90, w ∈ wsX9_one := (fun _ h => (List.mem_cons_of_mem _ (List.mem_append_right _ h)))
  have wd0 := hts (.fieldLink RX9 33 "StoryDesk$TagExpression" "at" "I") (List.mem_cons_of_mem _ (List.mem_append_left _ lm0))
  have wd1 := hts (.fieldLink RX9 13 "StoryDesk$TagExpression" "count" "I") (List.mem_cons_of_mem _ (List.mem_append_left _ lm1))
  have wd2 := hts (.fieldLink RX9 29 "StoryDesk$TagExpression" "formed" "Z") (List.mem_cons_of_mem _ (List.mem_append_left _ lm3))
  have wd3 := hts (.fieldLink RX9 9 "StoryDesk$TagExpression" "signs" "[C") (List.mem_cons_of_mem _ (List.mem_append_left _ lm2))
  have hl : lv_has ls 6 [(0, .ref (g (357 + 2 * j))), (1, .int x), (2, .int y)] := hl
  have hK : va_K D vwCl (hT ka) s := hK
  have hg_1 := s_rng x
  have hbF : (0 : Int) ≤ (i (357 + 2 * j) 3).toInt ∧ (i (357 + 2 * j) 3).toInt ≤ 1 := by have h9 := hO (357 + 2 * j) 3; rw [bx_tag hj 3] at h9; exact h9
  refine lv_iconst (v := 1) hx hb dX9_one_0 (by decide) ?_
  refine lv_istore_n (lv' := [(3, .int 1), (0, .ref (g (357 + 2 * j))), (1, .int x), (2, .int y)]) hx hb dX9_one_1 rfl hl (by decide) rfl (fun ls hl => ?_)
  -- loop at 2
  have lp_2 : ∀ (fuel_lp_2 : Nat) (u : Int32) (j1 : Nat → Nat → Int32) (H : Heap) (locs : List Loc) (ls : Array Slot), ((n : Int) - (j1 (357 + 2 * j) 2).toInt).toNat < fuel_lp_2 → (0 : Int) ≤ u.toInt ∧ u.toInt ≤ 1 → (j1 (357 + 2 * j) 1).toInt = (i (357 + 2 * j) 1).toInt → (j1 (357 + 2 * j) 3).toInt = (i (357 + 2 * j) 3).toInt → (a : Int) ≤ (j1 (357 + 2 * j) 2).toInt ∧ (j1 (357 + 2 * j) 2).toInt ≤ (n : Int) → (∃ k : Nat, ((k % 2 = 0 ∧ u.toInt = 1) ∨ (k % 2 = 1 ∧ u.toInt = 0)) ∧ tgB (tb x) ff n a (j1 (357 + 2 * j) 2).toInt.toNat k) → OkI j1 → (∀ a, ¬ (a = 357 + 2 * j) → j1 a = i a) → lv_has ls 6 [(3, .int u), (0, .ref (g (357 + 2 * j))), (1, .int x), (2, .int y)] → sj_H D A (hwc g ka j1 r L d) H → va_S A s.heap H locs → W p l e (headSpec wsX9_one ({ frames := 3 * lv, cells := 0, slots := 0, locals := 120 * lv })).room s m ([.ref (g (357 + 2 * j)), .int x, .int y] : List Value).toArray below meth c H locs 0 0 (MQ below (sj_Qi (S := (Nat → Nat → Int32)) D (fun v u => OkI u ∧ (∀ a, ¬ (a = 357 + 2 * j) → u a = i a) ∧ ((0 : Int) ≤ v.toInt ∧ v.toInt ≤ 1) ∧ ((u (357 + 2 * j) 1).toInt = (i (357 + 2 * j) 1).toInt ∧ (i (357 + 2 * j) 2).toInt ≤ (u (357 + 2 * j) 2).toInt ∧ (u (357 + 2 * j) 2).toInt ≤ (n : Int) + 41 - y.toInt ∧ ((i (357 + 2 * j) 3).toInt = 0 → (u (357 + 2 * j) 3).toInt = 0)) ∧ (tgP (i (357 + 2 * j) 3).toInt ((∃ b : Nat, (u (357 + 2 * j) 3).toInt = 1 ∧ (u (357 + 2 * j) 2).toInt = (b : Int) ∧ a < b ∧ b ≤ n ∧ tgR (tb x) 0 ff n a b (decide (v.toInt = 1))) ∨ ((u (357 + 2 * j) 3).toInt = 0 ∧ tgX (tb x) 0 ff n a)))) (fun u => hwc g ka u r L d) (fun _ => []) A) ([.ref (g (357 + 2 * j)), .int x, .int y] : List Value).toArray s 0 0 A) (F0 m 2 ls []) := by
    intro fuel_lp_2
    induction fuel_lp_2 with
    | zero => intros; omega
    | succ fuel_lp_2 ih_lp_2 =>
      intro u j1 H locs ls hm hr_u hi_lp_2_0 hi_lp_2_1 hi_lp_2_2 hi_lp_2_3 hO_j1 hfr_j1 hl hH hS
      obtain ⟨k9, hk9, hB9⟩ := hi_lp_2_3
      refine lv_aload_n hx hb dX9_one_2 rfl (lv_at hl 1 rfl) ?_
      have bx_3 : (0 : Int) ≤ (j1 (357 + 2 * j) 2).toInt ∧ (j1 (357 + 2 * j) 2).toInt ≤ 127 := by have h9 := hO_j1 (357 + 2 * j) 2; rw [bx_tag hj 2] at h9; exact h9
      refine h_geti (ci := 9) (C := RX9) (F := TX9) (N := 4) hx hb hts in9 hown hK hH (lt_nK (by omega)) (kd_tag hj) (by decide) rfl 2 (by decide) wd0 (fun _ h9 => h9) (by decide) rfl dX9_one_3 ?_
      refine lv_aload_n hx hb dX9_one_6 rfl (lv_at hl 1 rfl) ?_
      have bx_4 : (0 : Int) ≤ (j1 (357 + 2 * j) 1).toInt ∧ (j1 (357 + 2 * j) 1).toInt ≤ 40 := by have h9 := hO_j1 (357 + 2 * j) 1; rw [bx_tag hj 1] at h9; exact h9
      refine h_geti (ci := 9) (C := RX9) (F := TX9) (N := 4) hx hb hts in9 hown hK hH (lt_nK (by omega)) (kd_tag hj) (by decide) rfl 1 (by decide) wd1 (fun _ h9 => h9) (by decide) rfl dX9_one_7 ?_
      refine lv_icmp_ge (tgt := 50) hx hb dX9_one_10 (by decide) (fun c_5 => ?_) (fun c_5 => ?_)
      · skip
        have h_6 := s_le (rfl : (j1 (357 + 2 * j) 1).toInt = _) (rfl : (j1 (357 + 2 * j) 2).toInt = _) c_5
        refine lv_aload_n hx hb dX9_one_50 rfl (lv_at hl 1 rfl) ?_
        refine h_geti (ci := 9) (C := RX9) (F := TX9) (N := 4) hx hb hts in9 hown hK hH (lt_nK (by omega)) (kd_tag hj) (by decide) rfl 2 (by decide) wd0 (fun _ h9 => h9) (by decide) rfl dX9_one_51 ?_
        refine lv_aload_n hx hb dX9_one_54 rfl (lv_at hl 1 rfl) ?_
        refine h_geti (ci := 9) (C := RX9) (F := TX9) (N := 4) hx hb hts in9 hown hK hH (lt_nK (by omega)) (kd_tag hj) (by decide) rfl 1 (by decide) wd1 (fun _ h9 => h9) (by decide) rfl dX9_one_55 ?_
        refine lv_icmp_ge (tgt := 67) hx hb dX9_one_58 (by decide) (fun c_7 => ?_) (fun c_7 => ?_)
        · skip
          have h_8 := s_le (rfl : (j1 (357 + 2 * j) 1).toInt = _) (rfl : (j1 (357 + 2 * j) 2).toInt = _) c_7
          refine lv_aload_n hx hb dX9_one_67 rfl (lv_at hl 1 rfl) ?_
          refine lv_iconst (v := 0) hx hb dX9_one_68 (by decide) ?_
          have hO_9 := okp hO_j1 (n := (357 + 2 * j)) (k := 3) (v := 0) (by rw [bx_tag hj 3]; exact (show (0 : Int) ≤ (0 : Int32).toInt ∧ (0 : Int32).toInt ≤ 1 from ⟨by decide, by decide⟩))
          refine h_puti (ty := .boolean) (ci := 9) (C := RX9) (F := TX9) (N := 4) hx hb hts in9 tyX9 tyX9_ok nmX9 hown hK hH hS (lt_nK (by omega)) (kd_tag hj) (by decide) rfl 3 (by decide) wd2 (fun _ h9 => h9) rfl (by decide +kernel) (by decide +kernel) (by decide +kernel) (by decide) rfl dX9_one_69 (fun H locs hH hS => ?_)
          refine lv_iconst (v := 0) hx hb dX9_one_72 (by decide) ?_
          have hlv_10 : (0 : Int32).toInt = 0 := rfl
          have hz1 : (1 : Int32).toInt = 1 := rfl
          have hz0 : (0 : Int32).toInt = 0 := rfl
          have hw_11 : ((up2 j1 (357 + 2 * j) 3 0) (357 + 2 * j) 1).toInt = ((j1 (357 + 2 * j) 1) : Int32).toInt := congrArg Int32.toInt ((up2_k _ _ (by decide)))
          have hw_12 : ((up2 j1 (357 + 2 * j) 3 0) (357 + 2 * j) 2).toInt = ((j1 (357 + 2 * j) 2) : Int32).toInt := congrArg Int32.toInt ((up2_k _ _ (by decide)))
          have hw_13 : ((up2 j1 (357 + 2 * j) 3 0) (357 + 2 * j) 3).toInt = (0 : Int32).toInt := congrArg Int32.toInt ((up2_at _ _ _ _))
          have hz1 : (1 : Int32).toInt = 1 := rfl
          have hz0 : (0 : Int32).toInt = 0 := rfl
          have hw_14 : ((up2 j1 (357 + 2 * j) 3 0) (357 + 2 * j) 1).toInt = ((j1 (357 + 2 * j) 1) : Int32).toInt := congrArg Int32.toInt ((up2_k _ _ (by decide)))
          have hw_15 : ((up2 j1 (357 + 2 * j) 3 0) (357 + 2 * j) 2).toInt = ((j1 (357 + 2 * j) 2) : Int32).toInt := congrArg Int32.toInt ((up2_k _ _ (by decide)))
          have hw_16 : ((up2 j1 (357 + 2 * j) 3 0) (357 + 2 * j) 3).toInt = (0 : Int32).toInt := congrArg Int32.toInt ((up2_at _ _ _ _))
          exact sj_zret hx hb hr hlocks (by decide +kernel) hS (up2 j1 (357 + 2 * j) 3 0) ⟨hO_9, (fun a ha => ((up2_n _ _ (by omega)).trans (hfr_j1 a (by omega)))), ⟨by decide, by decide⟩, (by refine ⟨?_, ?_, ?_, ?_⟩ <;> omega), (fun hF => by first | exact Or.inr ⟨by omega, one_end hB9 (by omega)⟩ | (exfalso; have := hdp hF; omega))⟩ hH (sj_Knil hK) (Nat.le_of_ble_eq_true rfl) (Nat.le_of_ble_eq_true rfl) dX9_one_73
        · skip
          have h_17 := s_nle (rfl : (j1 (357 + 2 * j) 1).toInt = _) (rfl : (j1 (357 + 2 * j) 2).toInt = _) c_7
          refine lv_iload_n hx hb dX9_one_61 rfl (lv_at hl 3 rfl) ?_
          refine lv_bipush (v := 40) hx hb dX9_one_62 (by decide) ?_
          refine lv_icmp_lt (tgt := 74) hx hb dX9_one_64 (by decide) (fun c_18 => ?_) (fun c_18 => ?_)
          · skip
            have h_19 := s_lt (rfl : y.toInt = _) (show (40 : Int32).toInt = 40 from rfl) c_18
            refine lv_aload_n hx hb dX9_one_74 rfl (lv_at hl 1 rfl) ?_
            refine h_getr (ci := 9) (C := RX9) (F := TX9) (N := 4) hx hb hts in9 hown hK hH (lt_nK (by omega)) (kd_tag hj) (by decide) rfl 0 (by decide) wd3 (fun _ h9 => h9) (by decide) rfl (t := (357 + 2 * j + 1)) ((hR _ _ (by unfold dyn; simp <;> omega)).trans (sr_tag (by omega))) (lt_nK (by omega)) dX9_one_75 ?_
            refine lv_aload_n hx hb dX9_one_78 rfl (lv_at hl 1 rfl) ?_
            refine h_geti (ci := 9) (C := RX9) (F := TX9) (N := 4) hx hb hts in9 hown hK hH (lt_nK (by omega)) (kd_tag hj) (by decide) rfl 2 (by decide) wd0 (fun _ h9 => h9) (by decide) rfl dX9_one_79 ?_
            have bx_20 : (0 : Int) ≤ (i (357 + 2 * j + 1) ((j1 (357 + 2 * j) 2).toInt).toNat).toInt ∧ (i (357 + 2 * j + 1) ((j1 (357 + 2 * j) 2).toInt).toNat).toInt ≤ 65535 := by have h9 := hO (357 + 2 * j + 1) ((j1 (357 + 2 * j) 2).toInt).toNat; rw [bx_taga hj ((j1 (357 + 2 * j) 2).toInt).toNat] at h9; exact h9
            refine h_cald hx hb hK hH (lt_nK (by omega)) (kd_taga hj) (s_vin (N := 40) (rfl : (j1 (357 + 2 * j) 2).toInt = _) (ln_taga hj) (by omega) (by omega)) dX9_one_82 ?_
            have ek_21 : (j1 (357 + 2 * j) 2).toNatClampNeg = ((j1 (357 + 2 * j) 2).toInt).toNat := (s_cl (show (j1 (357 + 2 * j) 2).toInt = (j1 (357 + 2 * j) 2).toInt by omega))
            refine sj_i (y := (i (357 + 2 * j + 1) ((j1 (357 + 2 * j) 2).toInt).toNat)) (by rw [ek_21]; exact (congrFun (hfr_j1 (357 + 2 * j + 1) (by omega)) _)) ?_
            refine lv_istore (lv' := [(4, .int (i (357 + 2 * j + 1) ((j1 (357 + 2 * j) 2).toInt).toNat)), (3, .int u), (0, .ref (g (357 + 2 * j))), (1, .int x), (2, .int y)]) hx hb dX9_one_83 hl (by decide) rfl (fun ls hl => ?_)
            refine lv_aload_n hx hb dX9_one_85 rfl (lv_at hl 2 rfl) ?_
            refine lv_dup hx hb dX9_one_86 rfl ?_
            refine h_geti (ci := 9) (C := RX9) (F := TX9) (N := 4) hx hb hts in9 hown hK hH (lt_nK (by omega)) (kd_tag hj) (by decide) rfl 2 (by decide) wd0 (fun _ h9 => h9) (by decide) rfl dX9_one_87 ?_
            refine lv_iconst (v := 1) hx hb dX9_one_90 (by decide) ?_
            refine lv_iadd hx hb dX9_one_91 ?_
            obtain ⟨z_22, ez_22, hz_22⟩ := s_add (rfl : (j1 (357 + 2 * j) 2).toInt = _) (show (1 : Int32).toInt = 1 from rfl) (by omega) (by omega)
            refine sj_i ez_22 ?_
            have hO_23 := okp hO_j1 (n := (357 + 2 * j)) (k := 2) (v := z_22) (by rw [bx_tag hj 2]; exact (show (0 : Int) ≤ (z_22 : Int32).toInt ∧ (z_22 : Int32).toInt ≤ 127 from ⟨by omega, by omega⟩))
            refine h_puti (ty := .int) (ci := 9) (C := RX9) (F := TX9) (N := 4) hx hb hts in9 tyX9 tyX9_ok nmX9 hown hK hH hS (lt_nK (by omega)) (kd_tag hj) (by decide) rfl 2 (by decide) wd0 (fun _ h9 => h9) rfl (by decide +kernel) rfl rfl (by decide) rfl dX9_one_92 (fun H locs hH hS => ?_)
            refine lv_iload hx hb dX9_one_95 (lv_at hl 0 rfl) ?_
            refine lv_bipush (v := 40) hx hb dX9_one_97 (by decide) ?_
            refine lv_icmp_ne (tgt := 175) hx hb dX9_one_99 (by decide) (fun c_24 => ?_) (fun c_24 => ?_)
            · skip
              have h_25 := s_ne (rfl : (i (357 + 2 * j + 1) ((j1 (357 + 2 * j) 2).toInt).toNat).toInt = _) (show (40 : Int32).toInt = 40 from rfl) c_24
              refine lv_aload_n hx hb dX9_one_175 rfl (lv_at hl 2 rfl) ?_
              refine lv_aload_n hx hb dX9_one_176 rfl (lv_at hl 2 rfl) ?_
              have bx_26 : (0 : Int) ≤ (j1 (357 + 2 * j) 3).toInt ∧ (j1 (357 + 2 * j) 3).toInt ≤ 1 := by have h9 := hO_j1 (357 + 2 * j) 3; rw [bx_tag hj 3] at h9; exact h9
              refine h_geti (ci := 9) (C := RX9) (F := TX9) (N := 4) hx hb hts in9 hown hK hH (lt_nK (by omega)) (kd_tag hj) (by decide) rfl 3 (by decide) wd2 (fun _ h9 => h9) (by decide) rfl dX9_one_177 ?_
              refine sj_i (y := (j1 (357 + 2 * j) 3)) (up2_k _ _ (by decide)) ?_
              refine lv_if_eq (tgt := 201) hx hb dX9_one_180 (by decide) (fun c_27 => ?_) (fun c_27 => ?_)
              · skip
                have h_28 := s_eq (rfl : (j1 (357 + 2 * j) 3).toInt = _) (show (0 : Int32).toInt = 0 from rfl) c_27
                refine lv_iconst (v := 0) hx hb dX9_one_201 (by decide) ?_
                have hO_29 := okp hO_23 (n := (357 + 2 * j)) (k := 3) (v := 0) (by rw [bx_tag hj 3]; exact (show (0 : Int) ≤ (0 : Int32).toInt ∧ (0 : Int32).toInt ≤ 1 from ⟨by decide, by decide⟩))
                refine h_puti (ty := .boolean) (ci := 9) (C := RX9) (F := TX9) (N := 4) hx hb hts in9 tyX9 tyX9_ok nmX9 hown hK hH hS (lt_nK (by omega)) (kd_tag hj) (by decide) rfl 3 (by decide) wd2 (fun _ h9 => h9) rfl (by decide +kernel) (by decide +kernel) (by decide +kernel) (by decide) rfl dX9_one_202 (fun H locs hH hS => ?_)
                refine lv_aload_n hx hb dX9_one_205 rfl (lv_at hl 2 rfl) ?_
                refine h_geti (ci := 9) (C := RX9) (F := TX9) (N := 4) hx hb hts in9 hown hK hH (lt_nK (by omega)) (kd_tag hj) (by decide) rfl 3 (by decide) wd2 (fun _ h9 => h9) (by decide) rfl dX9_one_206 ?_
                refine sj_i (y := 0) (up2_at _ _ _ _) ?_
                refine lv_if_eq (tgt := 229) hx hb dX9_one_209 (by decide) (fun _ => ?_) (fun h => absurd (by decide) h)
                refine lv_iconst (v := 0) hx hb dX9_one_229 (by decide) ?_
                refine lv_istore (lv' := [(5, .int 0), (4, .int (i (357 + 2 * j + 1) ((j1 (357 + 2 * j) 2).toInt).toNat)), (3, .int u), (0, .ref (g (357 + 2 * j))), (1, .int x), (2, .int y)]) hx hb dX9_one_230 hl (by decide) rfl (fun ls hl => ?_)
                refine lv_iload hx hb dX9_one_232 (lv_at hl 0 rfl) ?_
                refine lv_iload_n hx hb dX9_one_234 rfl (lv_at hl 2 rfl) ?_
                refine lv_icmp_ne (tgt := 242) hx hb dX9_one_235 (by decide) (fun c_30 => ?_) (fun c_30 => ?_)
                · skip
                  have h_31 := s_ne (show (0 : Int32).toInt = 0 from rfl) (rfl : u.toInt = _) c_30
                  refine lv_iconst (v := 0) hx hb dX9_one_242 (by decide) ?_
                  have hlv_32 : (0 : Int32).toInt = 0 := rfl
                  have hz1 : (1 : Int32).toInt = 1 := rfl
                  have hz0 : (0 : Int32).toInt = 0 := rfl
                  have hw_33 : ((up2 (up2 j1 (357 + 2 * j) 2 z_22) (357 + 2 * j) 3 0) (357 + 2 * j) 1).toInt = ((j1 (357 + 2 * j) 1) : Int32).toInt := congrArg Int32.toInt (((up2_k _ _ (by decide)).trans (up2_k _ _ (by decide))))
                  have hw_34 : ((up2 (up2 j1 (357 + 2 * j) 2 z_22) (357 + 2 * j) 3 0) (357 + 2 * j) 2).toInt = (z_22 : Int32).toInt := congrArg Int32.toInt (((up2_k _ _ (by decide)).trans (up2_at _ _ _ _)))
                  have hw_35 : ((up2 (up2 j1 (357 + 2 * j) 2 z_22) (357 + 2 * j) 3 0) (357 + 2 * j) 3).toInt = (0 : Int32).toInt := congrArg Int32.toInt ((up2_at _ _ _ _))
                  have hz1 : (1 : Int32).toInt = 1 := rfl
                  have hz0 : (0 : Int32).toInt = 0 := rfl
                  have hw_36 : ((up2 (up2 j1 (357 + 2 * j) 2 z_22) (357 + 2 * j) 3 0) (357 + 2 * j) 1).toInt = ((j1 (357 + 2 * j) 1) : Int32).toInt := congrArg Int32.toInt (((up2_k _ _ (by decide)).trans (up2_k _ _ (by decide))))
                  have hw_37 : ((up2 (up2 j1 (357 + 2 * j) 2 z_22) (357 + 2 * j) 3 0) (357 + 2 * j) 2).toInt = (z_22 : Int32).toInt := congrArg Int32.toInt (((up2_k _ _ (by decide)).trans (up2_at _ _ _ _)))
                  have hw_38 : ((up2 (up2 j1 (357 + 2 * j) 2 z_22) (357 + 2 * j) 3 0) (357 + 2 * j) 3).toInt = (0 : Int32).toInt := congrArg Int32.toInt ((up2_at _ _ _ _))
                  have hbn : (j1 (357 + 2 * j) 2).toInt.toNat < n := by omega
                  have hcb : ff (j1 (357 + 2 * j) 2).toInt.toNat = i (357 + 2 * j + 1) (j1 (357 + 2 * j) 2).toInt.toNat := by rw [hff]
                  have hci := congrArg Int32.toInt hcb
                  have hnb := hNB _ hbn
                  exact sj_zret hx hb hr hlocks (by decide +kernel) hS (up2 (up2 j1 (357 + 2 * j) 2 z_22) (357 + 2 * j) 3 0) ⟨hO_29, (fun a ha => ((up2_n _ _ (by omega)).trans ((up2_n _ _ (by omega)).trans (hfr_j1 a (by omega))))), ⟨by decide, by decide⟩, (by refine ⟨?_, ?_, ?_, ?_⟩ <;> omega), (fun hF => by first | exact absurd hF (by omega) | exact Or.inr ⟨by omega, one_bad hB9 hbn hnb (by omega) (by omega) (by omega)⟩)⟩ hH (sj_Knil hK) (Nat.le_of_ble_eq_true rfl) (Nat.le_of_ble_eq_true rfl) dX9_one_243
                · skip
                  have h_39 := s_eq (show (0 : Int32).toInt = 0 from rfl) (rfl : u.toInt = _) c_30
                  refine lv_iconst (v := 1) hx hb dX9_one_238 (by decide) ?_
                  refine lv_goto (tgt := 243) hx hb dX9_one_239 (by decide) ?_
                  have hlv_40 : (1 : Int32).toInt = 1 := rfl
                  have hz1 : (1 : Int32).toInt = 1 := rfl
                  have hz0 : (0 : Int32).toInt = 0 := rfl
                  have hw_41 : ((up2 (up2 j1 (357 + 2 * j) 2 z_22) (357 + 2 * j) 3 0) (357 + 2 * j) 1).toInt = ((j1 (357 + 2 * j) 1) : Int32).toInt := congrArg Int32.toInt (((up2_k _ _ (by decide)).trans (up2_k _ _ (by decide))))
                  have hw_42 : ((up2 (up2 j1 (357 + 2 * j) 2 z_22) (357 + 2 * j) 3 0) (357 + 2 * j) 2).toInt = (z_22 : Int32).toInt := congrArg Int32.toInt (((up2_k _ _ (by decide)).trans (up2_at _ _ _ _)))
                  have hw_43 : ((up2 (up2 j1 (357 + 2 * j) 2 z_22) (357 + 2 * j) 3 0) (357 + 2 * j) 3).toInt = (0 : Int32).toInt := congrArg Int32.toInt ((up2_at _ _ _ _))
                  have hz1 : (1 : Int32).toInt = 1 := rfl
                  have hz0 : (0 : Int32).toInt = 0 := rfl
                  have hw_44 : ((up2 (up2 j1 (357 + 2 * j) 2 z_22) (357 + 2 * j) 3 0) (357 + 2 * j) 1).toInt = ((j1 (357 + 2 * j) 1) : Int32).toInt := congrArg Int32.toInt (((up2_k _ _ (by decide)).trans (up2_k _ _ (by decide))))
                  have hw_45 : ((up2 (up2 j1 (357 + 2 * j) 2 z_22) (357 + 2 * j) 3 0) (357 + 2 * j) 2).toInt = (z_22 : Int32).toInt := congrArg Int32.toInt (((up2_k _ _ (by decide)).trans (up2_at _ _ _ _)))
                  have hw_46 : ((up2 (up2 j1 (357 + 2 * j) 2 z_22) (357 + 2 * j) 3 0) (357 + 2 * j) 3).toInt = (0 : Int32).toInt := congrArg Int32.toInt ((up2_at _ _ _ _))
                  have hbn : (j1 (357 + 2 * j) 2).toInt.toNat < n := by omega
                  have hcb : ff (j1 (357 + 2 * j) 2).toInt.toNat = i (357 + 2 * j + 1) (j1 (357 + 2 * j) 2).toInt.toNat := by rw [hff]
                  have hci := congrArg Int32.toInt hcb
                  have hnb := hNB _ hbn
                  exact sj_zret hx hb hr hlocks (by decide +kernel) hS (up2 (up2 j1 (357 + 2 * j) 2 z_22) (357 + 2 * j) 3 0) ⟨hO_29, (fun a ha => ((up2_n _ _ (by omega)).trans ((up2_n _ _ (by omega)).trans (hfr_j1 a (by omega))))), ⟨by decide, by decide⟩, (by refine ⟨?_, ?_, ?_, ?_⟩ <;> omega), (fun hF => by first | exact absurd hF (by omega) | exact Or.inr ⟨by omega, one_bad hB9 hbn hnb (by omega) (by omega) (by omega)⟩)⟩ hH (sj_Knil hK) (Nat.le_of_ble_eq_true rfl) (Nat.le_of_ble_eq_true rfl) dX9_one_243
              · skip
                have h_47 := s_ne (rfl : (j1 (357 + 2 * j) 3).toInt = _) (show (0 : Int32).toInt = 0 from rfl) c_27
                refine lv_iload hx hb dX9_one_183 (lv_at hl 0 rfl) ?_
                refine lv_bipush (v := 97) hx hb dX9_one_185 (by decide) ?_
                refine lv_icmp_lt (tgt := 201) hx hb dX9_one_187 (by decide) (fun c_48 => ?_) (fun c_48 => ?_)
                · skip
                  have h_49 := s_lt (rfl : (i (357 + 2 * j + 1) ((j1 (357 + 2 * j) 2).toInt).toNat).toInt = _) (show (97 : Int32).toInt = 97 from rfl) c_48
                  refine lv_iconst (v := 0) hx hb dX9_one_201 (by decide) ?_
                  have hO_50 := okp hO_23 (n := (357 + 2 * j)) (k := 3) (v := 0) (by rw [bx_tag hj 3]; exact (show (0 : Int) ≤ (0 : Int32).toInt ∧ (0 : Int32).toInt ≤ 1 from ⟨by decide, by decide⟩))
                  refine h_puti (ty := .boolean) (ci := 9) (C := RX9) (F := TX9) (N := 4) hx hb hts in9 tyX9 tyX9_ok nmX9 hown hK hH hS (lt_nK (by omega)) (kd_tag hj) (by decide) rfl 3 (by decide) wd2 (fun _ h9 => h9) rfl (by decide +kernel) (by decide +kernel) (by decide +kernel) (by decide) rfl dX9_one_202 (fun H locs hH hS => ?_)
                  refine lv_aload_n hx hb dX9_one_205 rfl (lv_at hl 2 rfl) ?_
                  refine h_geti (ci := 9) (C := RX9) (F := TX9) (N := 4) hx hb hts in9 hown hK hH (lt_nK (by omega)) (kd_tag hj) (by decide) rfl 3 (by decide) wd2 (fun _ h9 => h9) (by decide) rfl dX9_one_206 ?_
                  refine sj_i (y := 0) (up2_at _ _ _ _) ?_
                  refine lv_if_eq (tgt := 229) hx hb dX9_one_209 (by decide) (fun _ => ?_) (fun h => absurd (by decide) h)
                  refine lv_iconst (v := 0) hx hb dX9_one_229 (by decide) ?_
                  refine lv_istore (lv' := [(5, .int 0), (4, .int (i (357 + 2 * j + 1) ((j1 (357 + 2 * j) 2).toInt).toNat)), (3, .int u), (0, .ref (g (357 + 2 * j))), (1, .int x), (2, .int y)]) hx hb dX9_one_230 hl (by decide) rfl (fun ls hl => ?_)
                  refine lv_iload hx hb dX9_one_232 (lv_at hl 0 rfl) ?_
                  refine lv_iload_n hx hb dX9_one_234 rfl (lv_at hl 2 rfl) ?_
                  refine lv_icmp_ne (tgt := 242) hx hb dX9_one_235 (by decide) (fun c_51 => ?_) (fun c_51 => ?_)
                  · skip
                    have h_52 := s_ne (show (0 : Int32).toInt = 0 from rfl) (rfl : u.toInt = _) c_51
                    refine lv_iconst (v := 0) hx hb dX9_one_242 (by decide) ?_
                    have hlv_53 : (0 : Int32).toInt = 0 := rfl
                    have hz1 : (1 : Int32).toInt = 1 := rfl
                    have hz0 : (0 : Int32).toInt = 0 := rfl
                    have hw_54 : ((up2 (up2 j1 (357 + 2 * j) 2 z_22) (357 + 2 * j) 3 0) (357 + 2 * j) 1).toInt = ((j1 (357 + 2 * j) 1) : Int32).toInt := congrArg Int32.toInt (((up2_k _ _ (by decide)).trans (up2_k _ _ (by decide))))
                    have hw_55 : ((up2 (up2 j1 (357 + 2 * j) 2 z_22) (357 + 2 * j) 3 0) (357 + 2 * j) 2).toInt = (z_22 : Int32).toInt := congrArg Int32.toInt (((up2_k _ _ (by decide)).trans (up2_at _ _ _ _)))
                    have hw_56 : ((up2 (up2 j1 (357 + 2 * j) 2 z_22) (357 + 2 * j) 3 0) (357 + 2 * j) 3).toInt = (0 : Int32).toInt := congrArg Int32.toInt ((up2_at _ _ _ _))
                    have hz1 : (1 : Int32).toInt = 1 := rfl
                    have hz0 : (0 : Int32).toInt = 0 := rfl
                    have hw_57 : ((up2 (up2 j1 (357 + 2 * j) 2 z_22) (357 + 2 * j) 3 0) (357 + 2 * j) 1).toInt = ((j1 (357 + 2 * j) 1) : Int32).toInt := congrArg Int32.toInt (((up2_k _ _ (by decide)).trans (up2_k _ _ (by decide))))
                    have hw_58 : ((up2 (up2 j1 (357 + 2 * j) 2 z_22) (357 + 2 * j) 3 0) (357 + 2 * j) 2).toInt = (z_22 : Int32).toInt := congrArg Int32.toInt (((up2_k _ _ (by decide)).trans (up2_at _ _ _ _)))
                    have hw_59 : ((up2 (up2 j1 (357 + 2 * j) 2 z_22) (357 + 2 * j) 3 0) (357 + 2 * j) 3).toInt = (0 : Int32).toInt := congrArg Int32.toInt ((up2_at _ _ _ _))
                    have hbn : (j1 (357 + 2 * j) 2).toInt.toNat < n := by omega
                    have hcb : ff (j1 (357 + 2 * j) 2).toInt.toNat = i (357 + 2 * j + 1) (j1 (357 + 2 * j) 2).toInt.toNat := by rw [hff]
                    have hci := congrArg Int32.toInt hcb
                    have hnb := hNB _ hbn
                    exact sj_zret hx hb hr hlocks (by decide +kernel) hS (up2 (up2 j1 (357 + 2 * j) 2 z_22) (357 + 2 * j) 3 0) ⟨hO_50, (fun a ha => ((up2_n _ _ (by omega)).trans ((up2_n _ _ (by omega)).trans (hfr_j1 a (by omega))))), ⟨by decide, by decide⟩, (by refine ⟨?_, ?_, ?_, ?_⟩ <;> omega), (fun hF => by first | exact absurd hF (by omega) | exact Or.inr ⟨by omega, one_bad hB9 hbn hnb (by omega) (by omega) (by omega)⟩)⟩ hH (sj_Knil hK) (Nat.le_of_ble_eq_true rfl) (Nat.le_of_ble_eq_true rfl) dX9_one_243
                  · skip
                    have h_60 := s_eq (show (0 : Int32).toInt = 0 from rfl) (rfl : u.toInt = _) c_51
                    refine lv_iconst (v := 1) hx hb dX9_one_238 (by decide) ?_
                    refine lv_goto (tgt := 243) hx hb dX9_one_239 (by decide) ?_
                    have hlv_61 : (1 : Int32).toInt = 1 := rfl
                    have hz1 : (1 : Int32).toInt = 1 := rfl
                    have hz0 : (0 : Int32).toInt = 0 := rfl
                    have hw_62 : ((up2 (up2 j1 (357 + 2 * j) 2 z_22) (357 + 2 * j) 3 0) (357 + 2 * j) 1).toInt = ((j1 (357 + 2 * j) 1) : Int32).toInt := congrArg Int32.toInt (((up2_k _ _ (by decide)).trans (up2_k _ _ (by decide))))
                    have hw_63 : ((up2 (up2 j1 (357 + 2 * j) 2 z_22) (357 + 2 * j) 3 0) (357 + 2 * j) 2).toInt = (z_22 : Int32).toInt := congrArg Int32.toInt (((up2_k _ _ (by decide)).trans (up2_at _ _ _ _)))
                    have hw_64 : ((up2 (up2 j1 (357 + 2 * j) 2 z_22) (357 + 2 * j) 3 0) (357 + 2 * j) 3).toInt = (0 : Int32).toInt := congrArg Int32.toInt ((up2_at _ _ _ _))
                    have hz1 : (1 : Int32).toInt = 1 := rfl
                    have hz0 : (0 : Int32).toInt = 0 := rfl
                    have hw_65 : ((up2 (up2 j1 (357 + 2 * j) 2 z_22) (357 + 2 * j) 3 0) (357 + 2 * j) 1).toInt = ((j1 (357 + 2 * j) 1) : Int32).toInt := congrArg Int32.toInt (((up2_k _ _ (by decide)).trans (up2_k _ _ (by decide))))
                    have hw_66 : ((up2 (up2 j1 (357 + 2 * j) 2 z_22) (357 + 2 * j) 3 0) (357 + 2 * j) 2).toInt = (z_22 : Int32).toInt := congrArg Int32.toInt (((up2_k _ _ (by decide)).trans (up2_at _ _ _ _)))
                    have hw_67 : ((up2 (up2 j1 (357 + 2 * j) 2 z_22) (357 + 2 * j) 3 0) (357 + 2 * j) 3).toInt = (0 : Int32).toInt := congrArg Int32.toInt ((up2_at _ _ _ _))
                    have hbn : (j1 (357 + 2 * j) 2).toInt.toNat < n := by omega
                    have hcb : ff (j1 (357 + 2 * j) 2).toInt.toNat = i (357 + 2 * j + 1) (j1 (357 + 2 * j) 2).toInt.toNat := by rw [hff]
                    have hci := congrArg Int32.toInt hcb
                    have hnb := hNB _ hbn
                    exact sj_zret hx hb hr hlocks (by decide +kernel) hS (up2 (up2 j1 (357 + 2 * j) 2 z_22) (357 + 2 * j) 3 0) ⟨hO_50, (fun a ha => ((up2_n _ _ (by omega)).trans ((up2_n _ _ (by omega)).trans (hfr_j1 a (by omega))))), ⟨by decide, by decide⟩, (by refine ⟨?_, ?_, ?_, ?_⟩ <;> omega), (fun hF => by first | exact absurd hF (by omega) | exact Or.inr ⟨by omega, one_bad hB9 hbn hnb (by omega) (by omega) (by omega)⟩)⟩ hH (sj_Knil hK) (Nat.le_of_ble_eq_true rfl) (Nat.le_of_ble_eq_true rfl) dX9_one_243
                · skip
                  have h_68 := s_nlt (rfl : (i (357 + 2 * j + 1) ((j1 (357 + 2 * j) 2).toInt).toNat).toInt = _) (show (97 : Int32).toInt = 97 from rfl) c_48
                  refine lv_iload hx hb dX9_one_190 (lv_at hl 0 rfl) ?_
                  refine lv_bipush (v := 112) hx hb dX9_one_192 (by decide) ?_
                  refine lv_icmp_gt (tgt := 201) hx hb dX9_one_194 (by decide) (fun c_69 => ?_) (fun c_69 => ?_)
                  · skip
                    have h_70 := s_lt (show (112 : Int32).toInt = 112 from rfl) (rfl : (i (357 + 2 * j + 1) ((j1 (357 + 2 * j) 2).toInt).toNat).toInt = _) c_69
                    refine lv_iconst (v := 0) hx hb dX9_one_201 (by decide) ?_
                    have hO_71 := okp hO_23 (n := (357 + 2 * j)) (k := 3) (v := 0) (by rw [bx_tag hj 3]; exact (show (0 : Int) ≤ (0 : Int32).toInt ∧ (0 : Int32).toInt ≤ 1 from ⟨by decide, by decide⟩))
                    refine h_puti (ty := .boolean) (ci := 9) (C := RX9) (F := TX9) (N := 4) hx hb hts in9 tyX9 tyX9_ok nmX9 hown hK hH hS (lt_nK (by omega)) (kd_tag hj) (by decide) rfl 3 (by decide) wd2 (fun _ h9 => h9) rfl (by decide +kernel) (by decide +kernel) (by decide +kernel) (by decide) rfl dX9_one_202 (fun H locs hH hS => ?_)
                    refine lv_aload_n hx hb dX9_one_205 rfl (lv_at hl 2 rfl) ?_
                    refine h_geti (ci := 9) (C := RX9) (F := TX9) (N := 4) hx hb hts in9 hown hK hH (lt_nK (by omega)) (kd_tag hj) (by decide) rfl 3 (by decide) wd2 (fun _ h9 => h9) (by decide) rfl dX9_one_206 ?_
                    refine sj_i (y := 0) (up2_at _ _ _ _) ?_
                    refine lv_if_eq (tgt := 229) hx hb dX9_one_209 (by decide) (fun _ => ?_) (fun h => absurd (by decide) h)
                    refine lv_iconst (v := 0) hx hb dX9_one_229 (by decide) ?_
                    refine lv_istore (lv' := [(5, .int 0), (4, .int (i (357 + 2 * j + 1) ((j1 (357 + 2 * j) 2).toInt).toNat)), (3, .int u), (0, .ref (g (357 + 2 * j))), (1, .int x), (2, .int y)]) hx hb dX9_one_230 hl (by decide) rfl (fun ls hl => ?_)
                    refine lv_iload hx hb dX9_one_232 (lv_at hl 0 rfl) ?_
                    refine lv_iload_n hx hb dX9_one_234 rfl (lv_at hl 2 rfl) ?_
                    refine lv_icmp_ne (tgt := 242) hx hb dX9_one_235 (by decide) (fun c_72 => ?_) (fun c_72 => ?_)
                    · skip
                      have h_73 := s_ne (show (0 : Int32).toInt = 0 from rfl) (rfl : u.toInt = _) c_72
                      refine lv_iconst (v := 0) hx hb dX9_one_242 (by decide) ?_
                      have hlv_74 : (0 : Int32).toInt = 0 := rfl
                      have hz1 : (1 : Int32).toInt = 1 := rfl
                      have hz0 : (0 : Int32).toInt = 0 := rfl
                      have hw_75 : ((up2 (up2 j1 (357 + 2 * j) 2 z_22) (357 + 2 * j) 3 0) (357 + 2 * j) 1).toInt = ((j1 (357 + 2 * j) 1) : Int32).toInt := congrArg Int32.toInt (((up2_k _ _ (by decide)).trans (up2_k _ _ (by decide))))
                      have hw_76 : ((up2 (up2 j1 (357 + 2 * j) 2 z_22) (357 + 2 * j) 3 0) (357 + 2 * j) 2).toInt = (z_22 : Int32).toInt := congrArg Int32.toInt (((up2_k _ _ (by decide)).trans (up2_at _ _ _ _)))
                      have hw_77 : ((up2 (up2 j1 (357 + 2 * j) 2 z_22) (357 + 2 * j) 3 0) (357 + 2 * j) 3).toInt = (0 : Int32).toInt := congrArg Int32.toInt ((up2_at _ _ _ _))
                      have hz1 : (1 : Int32).toInt = 1 := rfl
                      have hz0 : (0 : Int32).toInt = 0 := rfl
                      have hw_78 : ((up2 (up2 j1 (357 + 2 * j) 2 z_22) (357 + 2 * j) 3 0) (357 + 2 * j) 1).toInt = ((j1 (357 + 2 * j) 1) : Int32).toInt := congrArg Int32.toInt (((up2_k _ _ (by decide)).trans (up2_k _ _ (by decide))))
                      have hw_79 : ((up2 (up2 j1 (357 + 2 * j) 2 z_22) (357 + 2 * j) 3 0) (357 + 2 * j) 2).toInt = (z_22 : Int32).toInt := congrArg Int32.toInt (((up2_k _ _ (by decide)).trans (up2_at _ _ _ _)))
                      have hw_80 : ((up2 (up2 j1 (357 + 2 * j) 2 z_22) (357 + 2 * j) 3 0) (357 + 2 * j) 3).toInt = (0 : Int32).toInt := congrArg Int32.toInt ((up2_at _ _ _ _))
                      have hbn : (j1 (357 + 2 * j) 2).toInt.toNat < n := by omega
                      have hcb : ff (j1 (357 + 2 * j) 2).toInt.toNat = i (357 + 2 * j + 1) (j1 (357 + 2 * j) 2).toInt.toNat := by rw [hff]
                      have hci := congrArg Int32.toInt hcb
                      have hnb := hNB _ hbn
                      exact sj_zret hx hb hr hlocks (by decide +kernel) hS (up2 (up2 j1 (357 + 2 * j) 2 z_22) (357 + 2 * j) 3 0) ⟨hO_71, (fun a ha => ((up2_n _ _ (by omega)).trans ((up2_n _ _ (by omega)).trans (hfr_j1 a (by omega))))), ⟨by decide, by decide⟩, (by refine ⟨?_, ?_, ?_, ?_⟩ <;> omega), (fun hF => by first | exact absurd hF (by omega) | exact Or.inr ⟨by omega, one_bad hB9 hbn hnb (by omega) (by omega) (by omega)⟩)⟩ hH (sj_Knil hK) (Nat.le_of_ble_eq_true rfl) (Nat.le_of_ble_eq_true rfl) dX9_one_243
                    · skip
                      have h_81 := s_eq (show (0 : Int32).toInt = 0 from rfl) (rfl : u.toInt = _) c_72
                      refine lv_iconst (v := 1) hx hb dX9_one_238 (by decide) ?_
                      refine lv_goto (tgt := 243) hx hb dX9_one_239 (by decide) ?_
                      have hlv_82 : (1 : Int32).toInt = 1 := rfl
                      have hz1 : (1 : Int32).toInt = 1 := rfl
                      have hz0 : (0 : Int32).toInt = 0 := rfl
                      have hw_83 : ((up2 (up2 j1 (357 + 2 * j) 2 z_22) (357 + 2 * j) 3 0) (357 + 2 * j) 1).toInt = ((j1 (357 + 2 * j) 1) : Int32).toInt := congrArg Int32.toInt (((up2_k _ _ (by decide)).trans (up2_k _ _ (by decide))))
                      have hw_84 : ((up2 (up2 j1 (357 + 2 * j) 2 z_22) (357 + 2 * j) 3 0) (357 + 2 * j) 2).toInt = (z_22 : Int32).toInt := congrArg Int32.toInt (((up2_k _ _ (by decide)).trans (up2_at _ _ _ _)))
                      have hw_85 : ((up2 (up2 j1 (357 + 2 * j) 2 z_22) (357 + 2 * j) 3 0) (357 + 2 * j) 3).toInt = (0 : Int32).toInt := congrArg Int32.toInt ((up2_at _ _ _ _))
                      have hz1 : (1 : Int32).toInt = 1 := rfl
                      have hz0 : (0 : Int32).toInt = 0 := rfl
                      have hw_86 : ((up2 (up2 j1 (357 + 2 * j) 2 z_22) (357 + 2 * j) 3 0) (357 + 2 * j) 1).toInt = ((j1 (357 + 2 * j) 1) : Int32).toInt := congrArg Int32.toInt (((up2_k _ _ (by decide)).trans (up2_k _ _ (by decide))))
                      have hw_87 : ((up2 (up2 j1 (357 + 2 * j) 2 z_22) (357 + 2 * j) 3 0) (357 + 2 * j) 2).toInt = (z_22 : Int32).toInt := congrArg Int32.toInt (((up2_k _ _ (by decide)).trans (up2_at _ _ _ _)))
                      have hw_88 : ((up2 (up2 j1 (357 + 2 * j) 2 z_22) (357 + 2 * j) 3 0) (357 + 2 * j) 3).toInt = (0 : Int32).toInt := congrArg Int32.toInt ((up2_at _ _ _ _))
                      have hbn : (j1 (357 + 2 * j) 2).toInt.toNat < n := by omega
                      have hcb : ff (j1 (357 + 2 * j) 2).toInt.toNat = i (357 + 2 * j + 1) (j1 (357 + 2 * j) 2).toInt.toNat := by rw [hff]
                      have hci := congrArg Int32.toInt hcb
                      have hnb := hNB _ hbn
                      exact sj_zret hx hb hr hlocks (by decide +kernel) hS (up2 (up2 j1 (357 + 2 * j) 2 z_22) (357 + 2 * j) 3 0) ⟨hO_71, (fun a ha => ((up2_n _ _ (by omega)).trans ((up2_n _ _ (by omega)).trans (hfr_j1 a (by omega))))), ⟨by decide, by decide⟩, (by refine ⟨?_, ?_, ?_, ?_⟩ <;> omega), (fun hF => by first | exact absurd hF (by omega) | exact Or.inr ⟨by omega, one_bad hB9 hbn hnb (by omega) (by omega) (by omega)⟩)⟩ hH (sj_Knil hK) (Nat.le_of_ble_eq_true rfl) (Nat.le_of_ble_eq_true rfl) dX9_one_243
                  · skip
                    have h_89 := s_nlt (show (112 : Int32).toInt = 112 from rfl) (rfl : (i (357 + 2 * j + 1) ((j1 (357 + 2 * j) 2).toInt).toNat).toInt = _) c_69
                    refine lv_iconst (v := 1) hx hb dX9_one_197 (by decide) ?_
                    refine lv_goto (tgt := 202) hx hb dX9_one_198 (by decide) ?_
                    have hO_90 := okp hO_23 (n := (357 + 2 * j)) (k := 3) (v := 1) (by rw [bx_tag hj 3]; exact (show (0 : Int) ≤ (1 : Int32).toInt ∧ (1 : Int32).toInt ≤ 1 from ⟨by decide, by decide⟩))
                    refine h_puti (ty := .boolean) (ci := 9) (C := RX9) (F := TX9) (N := 4) hx hb hts in9 tyX9 tyX9_ok nmX9 hown hK hH hS (lt_nK (by omega)) (kd_tag hj) (by decide) rfl 3 (by decide) wd2 (fun _ h9 => h9) rfl (by decide +kernel) (by decide +kernel) (by decide +kernel) (by decide) rfl dX9_one_202 (fun H locs hH hS => ?_)
                    refine lv_aload_n hx hb dX9_one_205 rfl (lv_at hl 2 rfl) ?_
                    refine h_geti (ci := 9) (C := RX9) (F := TX9) (N := 4) hx hb hts in9 hown hK hH (lt_nK (by omega)) (kd_tag hj) (by decide) rfl 3 (by decide) wd2 (fun _ h9 => h9) (by decide) rfl dX9_one_206 ?_
                    refine sj_i (y := 1) (up2_at _ _ _ _) ?_
                    refine lv_if_eq (tgt := 229) hx hb dX9_one_209 (by decide) (fun h => absurd h (by decide)) (fun _ => ?_)
                    refine lv_iload_n hx hb dX9_one_212 rfl (lv_at hl 3 rfl) ?_
                    refine lv_iload hx hb dX9_one_213 (lv_at hl 0 rfl) ?_
                    refine lv_bipush (v := 97) hx hb dX9_one_215 (by decide) ?_
                    refine lv_isub hx hb dX9_one_217 ?_
                    obtain ⟨z_91, ez_91, hz_91⟩ := s_sub (rfl : (i (357 + 2 * j + 1) ((j1 (357 + 2 * j) 2).toInt).toNat).toInt = _) (show (97 : Int32).toInt = 97 from rfl) (by omega) (by omega)
                    refine sj_i ez_91 ?_
                    refine lv_ishr hx hb dX9_one_218 ?_
                    refine lv_topi (fun z_92 ez_92 => ?_)
                    refine lv_iconst (v := 1) hx hb dX9_one_219 (by decide) ?_
                    refine lv_iand hx hb dX9_one_220 ?_
                    refine lv_topi (fun z_93 ez_93 => ?_)
                    have hz_93 := s_and (k := 1) ez_93 (by decide +kernel)
                    refine lv_iconst (v := 1) hx hb dX9_one_221 (by decide) ?_
                    refine lv_icmp_ne (tgt := 229) hx hb dX9_one_222 (by decide) (fun c_94 => ?_) (fun c_94 => ?_)
                    · skip
                      have h_95 := s_ne (rfl : z_93.toInt = _) (show (1 : Int32).toInt = 1 from rfl) c_94
                      refine lv_iconst (v := 0) hx hb dX9_one_229 (by decide) ?_
                      refine lv_istore (lv' := [(5, .int 0), (4, .int (i (357 + 2 * j + 1) ((j1 (357 + 2 * j) 2).toInt).toNat)), (3, .int u), (0, .ref (g (357 + 2 * j))), (1, .int x), (2, .int y)]) hx hb dX9_one_230 hl (by decide) rfl (fun ls hl => ?_)
                      refine lv_iload hx hb dX9_one_232 (lv_at hl 0 rfl) ?_
                      refine lv_iload_n hx hb dX9_one_234 rfl (lv_at hl 2 rfl) ?_
                      refine lv_icmp_ne (tgt := 242) hx hb dX9_one_235 (by decide) (fun c_96 => ?_) (fun c_96 => ?_)
                      · skip
                        have h_97 := s_ne (show (0 : Int32).toInt = 0 from rfl) (rfl : u.toInt = _) c_96
                        refine lv_iconst (v := 0) hx hb dX9_one_242 (by decide) ?_
                        have hlv_98 : (0 : Int32).toInt = 0 := rfl
                        have hz1 : (1 : Int32).toInt = 1 := rfl
                        have hz0 : (0 : Int32).toInt = 0 := rfl
                        have hw_99 : ((up2 (up2 j1 (357 + 2 * j) 2 z_22) (357 + 2 * j) 3 1) (357 + 2 * j) 1).toInt = ((j1 (357 + 2 * j) 1) : Int32).toInt := congrArg Int32.toInt (((up2_k _ _ (by decide)).trans (up2_k _ _ (by decide))))
                        have hw_100 : ((up2 (up2 j1 (357 + 2 * j) 2 z_22) (357 + 2 * j) 3 1) (357 + 2 * j) 2).toInt = (z_22 : Int32).toInt := congrArg Int32.toInt (((up2_k _ _ (by decide)).trans (up2_at _ _ _ _)))
                        have hw_101 : ((up2 (up2 j1 (357 + 2 * j) 2 z_22) (357 + 2 * j) 3 1) (357 + 2 * j) 3).toInt = (1 : Int32).toInt := congrArg Int32.toInt ((up2_at _ _ _ _))
                        have hz1 : (1 : Int32).toInt = 1 := rfl
                        have hz0 : (0 : Int32).toInt = 0 := rfl
                        have hw_102 : ((up2 (up2 j1 (357 + 2 * j) 2 z_22) (357 + 2 * j) 3 1) (357 + 2 * j) 1).toInt = ((j1 (357 + 2 * j) 1) : Int32).toInt := congrArg Int32.toInt (((up2_k _ _ (by decide)).trans (up2_k _ _ (by decide))))
                        have hw_103 : ((up2 (up2 j1 (357 + 2 * j) 2 z_22) (357 + 2 * j) 3 1) (357 + 2 * j) 2).toInt = (z_22 : Int32).toInt := congrArg Int32.toInt (((up2_k _ _ (by decide)).trans (up2_at _ _ _ _)))
                        have hw_104 : ((up2 (up2 j1 (357 + 2 * j) 2 z_22) (357 + 2 * j) 3 1) (357 + 2 * j) 3).toInt = (1 : Int32).toInt := congrArg Int32.toInt ((up2_at _ _ _ _))
                        have hbn : (j1 (357 + 2 * j) 2).toInt.toNat < n := by omega
                        have hcb : ff (j1 (357 + 2 * j) 2).toInt.toNat = i (357 + 2 * j + 1) (j1 (357 + 2 * j) 2).toInt.toNat := by rw [hff]
                        have hci := congrArg Int32.toInt hcb
                        have hnb := hNB _ hbn
                        have hT : tb x (ff (j1 (357 + 2 * j) 2).toInt.toNat).toInt = decide (z_93 = 1) := by rw [hcb]; exact tb_eq ez_91 ez_92 ez_93
                        have hR9 := one_let (T := tb x) hB9 hbn (by omega) (by omega)
                        rw [hT, tb_v (w := (0 : Int32).toInt) (by omega), flp_v (v := (0 : Int32).toInt) hk9 (by omega) (by omega)] at hR9
                        exact sj_zret hx hb hr hlocks (by decide +kernel) hS (up2 (up2 j1 (357 + 2 * j) 2 z_22) (357 + 2 * j) 3 1) ⟨hO_90, (fun a ha => ((up2_n _ _ (by omega)).trans ((up2_n _ _ (by omega)).trans (hfr_j1 a (by omega))))), ⟨by decide, by decide⟩, (by refine ⟨?_, ?_, ?_, ?_⟩ <;> omega), (fun hF => Or.inl ⟨(j1 (357 + 2 * j) 2).toInt.toNat + 1, by omega, by omega, by omega, by omega, hR9⟩)⟩ hH (sj_Knil hK) (Nat.le_of_ble_eq_true rfl) (Nat.le_of_ble_eq_true rfl) dX9_one_243
                      · skip
                        have h_105 := s_eq (show (0 : Int32).toInt = 0 from rfl) (rfl : u.toInt = _) c_96
                        refine lv_iconst (v := 1) hx hb dX9_one_238 (by decide) ?_
                        refine lv_goto (tgt := 243) hx hb dX9_one_239 (by decide) ?_
                        have hlv_106 : (1 : Int32).toInt = 1 := rfl
                        have hz1 : (1 : Int32).toInt = 1 := rfl
                        have hz0 : (0 : Int32).toInt = 0 := rfl
                        have hw_107 : ((up2 (up2 j1 (357 + 2 * j) 2 z_22) (357 + 2 * j) 3 1) (357 + 2 * j) 1).toInt = ((j1 (357 + 2 * j) 1) : Int32).toInt := congrArg Int32.toInt (((up2_k _ _ (by decide)).trans (up2_k _ _ (by decide))))
                        have hw_108 : ((up2 (up2 j1 (357 + 2 * j) 2 z_22) (357 + 2 * j) 3 1) (357 + 2 * j) 2).toInt = (z_22 : Int32).toInt := congrArg Int32.toInt (((up2_k _ _ (by decide)).trans (up2_at _ _ _ _)))
                        have hw_109 : ((up2 (up2 j1 (357 + 2 * j) 2 z_22) (357 + 2 * j) 3 1) (357 + 2 * j) 3).toInt = (1 : Int32).toInt := congrArg Int32.toInt ((up2_at _ _ _ _))
                        have hz1 : (1 : Int32).toInt = 1 := rfl
                        have hz0 : (0 : Int32).toInt = 0 := rfl
                        have hw_110 : ((up2 (up2 j1 (357 + 2 * j) 2 z_22) (357 + 2 * j) 3 1) (357 + 2 * j) 1).toInt = ((j1 (357 + 2 * j) 1) : Int32).toInt := congrArg Int32.toInt (((up2_k _ _ (by decide)).trans (up2_k _ _ (by decide))))
                        have hw_111 : ((up2 (up2 j1 (357 + 2 * j) 2 z_22) (357 + 2 * j) 3 1) (357 + 2 * j) 2).toInt = (z_22 : Int32).toInt := congrArg Int32.toInt (((up2_k _ _ (by decide)).trans (up2_at _ _ _ _)))
                        have hw_112 : ((up2 (up2 j1 (357 + 2 * j) 2 z_22) (357 + 2 * j) 3 1) (357 + 2 * j) 3).toInt = (1 : Int32).toInt := congrArg Int32.toInt ((up2_at _ _ _ _))
                        have hbn : (j1 (357 + 2 * j) 2).toInt.toNat < n := by omega
                        have hcb : ff (j1 (357 + 2 * j) 2).toInt.toNat = i (357 + 2 * j + 1) (j1 (357 + 2 * j) 2).toInt.toNat := by rw [hff]
                        have hci := congrArg Int32.toInt hcb
                        have hnb := hNB _ hbn
                        have hT : tb x (ff (j1 (357 + 2 * j) 2).toInt.toNat).toInt = decide (z_93 = 1) := by rw [hcb]; exact tb_eq ez_91 ez_92 ez_93
                        have hR9 := one_let (T := tb x) hB9 hbn (by omega) (by omega)
                        rw [hT, tb_v (w := (0 : Int32).toInt) (by omega), flp_v (v := (1 : Int32).toInt) hk9 (by omega) (by omega)] at hR9
                        exact sj_zret hx hb hr hlocks (by decide +kernel) hS (up2 (up2 j1 (357 + 2 * j) 2 z_22) (357 + 2 * j) 3 1) ⟨hO_90, (fun a ha => ((up2_n _ _ (by omega)).trans ((up2_n _ _ (by omega)).trans (hfr_j1 a (by omega))))), ⟨by decide, by decide⟩, (by refine ⟨?_, ?_, ?_, ?_⟩ <;> omega), (fun hF => Or.inl ⟨(j1 (357 + 2 * j) 2).toInt.toNat + 1, by omega, by omega, by omega, by omega, hR9⟩)⟩ hH (sj_Knil hK) (Nat.le_of_ble_eq_true rfl) (Nat.le_of_ble_eq_true rfl) dX9_one_243
                    · skip
                      have h_113 := s_eq (rfl : z_93.toInt = _) (show (1 : Int32).toInt = 1 from rfl) c_94
                      refine lv_iconst (v := 1) hx hb dX9_one_225 (by decide) ?_
                      refine lv_goto (tgt := 230) hx hb dX9_one_226 (by decide) ?_
                      refine lv_istore (lv' := [(5, .int 1), (4, .int (i (357 + 2 * j + 1) ((j1 (357 + 2 * j) 2).toInt).toNat)), (3, .int u), (0, .ref (g (357 + 2 * j))), (1, .int x), (2, .int y)]) hx hb dX9_one_230 hl (by decide) rfl (fun ls hl => ?_)
                      refine lv_iload hx hb dX9_one_232 (lv_at hl 0 rfl) ?_
                      refine lv_iload_n hx hb dX9_one_234 rfl (lv_at hl 2 rfl) ?_
                      refine lv_icmp_ne (tgt := 242) hx hb dX9_one_235 (by decide) (fun c_114 => ?_) (fun c_114 => ?_)
                      · skip
                        have h_115 := s_ne (show (1 : Int32).toInt = 1 from rfl) (rfl : u.toInt = _) c_114
                        refine lv_iconst (v := 0) hx hb dX9_one_242 (by decide) ?_
                        have hlv_116 : (0 : Int32).toInt = 0 := rfl
                        have hz1 : (1 : Int32).toInt = 1 := rfl
                        have hz0 : (0 : Int32).toInt = 0 := rfl
                        have hw_117 : ((up2 (up2 j1 (357 + 2 * j) 2 z_22) (357 + 2 * j) 3 1) (357 + 2 * j) 1).toInt = ((j1 (357 + 2 * j) 1) : Int32).toInt := congrArg Int32.toInt (((up2_k _ _ (by decide)).trans (up2_k _ _ (by decide))))
                        have hw_118 : ((up2 (up2 j1 (357 + 2 * j) 2 z_22) (357 + 2 * j) 3 1) (357 + 2 * j) 2).toInt = (z_22 : Int32).toInt := congrArg Int32.toInt (((up2_k _ _ (by decide)).trans (up2_at _ _ _ _)))
                        have hw_119 : ((up2 (up2 j1 (357 + 2 * j) 2 z_22) (357 + 2 * j) 3 1) (357 + 2 * j) 3).toInt = (1 : Int32).toInt := congrArg Int32.toInt ((up2_at _ _ _ _))
                        have hz1 : (1 : Int32).toInt = 1 := rfl
                        have hz0 : (0 : Int32).toInt = 0 := rfl
                        have hw_120 : ((up2 (up2 j1 (357 + 2 * j) 2 z_22) (357 + 2 * j) 3 1) (357 + 2 * j) 1).toInt = ((j1 (357 + 2 * j) 1) : Int32).toInt := congrArg Int32.toInt (((up2_k _ _ (by decide)).trans (up2_k _ _ (by decide))))
                        have hw_121 : ((up2 (up2 j1 (357 + 2 * j) 2 z_22) (357 + 2 * j) 3 1) (357 + 2 * j) 2).toInt = (z_22 : Int32).toInt := congrArg Int32.toInt (((up2_k _ _ (by decide)).trans (up2_at _ _ _ _)))
                        have hw_122 : ((up2 (up2 j1 (357 + 2 * j) 2 z_22) (357 + 2 * j) 3 1) (357 + 2 * j) 3).toInt = (1 : Int32).toInt := congrArg Int32.toInt ((up2_at _ _ _ _))
                        have hbn : (j1 (357 + 2 * j) 2).toInt.toNat < n := by omega
                        have hcb : ff (j1 (357 + 2 * j) 2).toInt.toNat = i (357 + 2 * j + 1) (j1 (357 + 2 * j) 2).toInt.toNat := by rw [hff]
                        have hci := congrArg Int32.toInt hcb
                        have hnb := hNB _ hbn
                        have hT : tb x (ff (j1 (357 + 2 * j) 2).toInt.toNat).toInt = decide (z_93 = 1) := by rw [hcb]; exact tb_eq ez_91 ez_92 ez_93
                        have hR9 := one_let (T := tb x) hB9 hbn (by omega) (by omega)
                        rw [hT, tb_v (w := (1 : Int32).toInt) (by omega), flp_v (v := (0 : Int32).toInt) hk9 (by omega) (by omega)] at hR9
                        exact sj_zret hx hb hr hlocks (by decide +kernel) hS (up2 (up2 j1 (357 + 2 * j) 2 z_22) (357 + 2 * j) 3 1) ⟨hO_90, (fun a ha => ((up2_n _ _ (by omega)).trans ((up2_n _ _ (by omega)).trans (hfr_j1 a (by omega))))), ⟨by decide, by decide⟩, (by refine ⟨?_, ?_, ?_, ?_⟩ <;> omega), (fun hF => Or.inl ⟨(j1 (357 + 2 * j) 2).toInt.toNat + 1, by omega, by omega, by omega, by omega, hR9⟩)⟩ hH (sj_Knil hK) (Nat.le_of_ble_eq_true rfl) (Nat.le_of_ble_eq_true rfl) dX9_one_243
                      · skip
                        have h_123 := s_eq (show (1 : Int32).toInt = 1 from rfl) (rfl : u.toInt = _) c_114
                        refine lv_iconst (v := 1) hx hb dX9_one_238 (by decide) ?_
                        refine lv_goto (tgt := 243) hx hb dX9_one_239 (by decide) ?_
                        have hlv_124 : (1 : Int32).toInt = 1 := rfl
                        have hz1 : (1 : Int32).toInt = 1 := rfl
                        have hz0 : (0 : Int32).toInt = 0 := rfl
                        have hw_125 : ((up2 (up2 j1 (357 + 2 * j) 2 z_22) (357 + 2 * j) 3 1) (357 + 2 * j) 1).toInt = ((j1 (357 + 2 * j) 1) : Int32).toInt := congrArg Int32.toInt (((up2_k _ _ (by decide)).trans (up2_k _ _ (by decide))))
                        have hw_126 : ((up2 (up2 j1 (357 + 2 * j) 2 z_22) (357 + 2 * j) 3 1) (357 + 2 * j) 2).toInt = (z_22 : Int32).toInt := congrArg Int32.toInt (((up2_k _ _ (by decide)).trans (up2_at _ _ _ _)))
                        have hw_127 : ((up2 (up2 j1 (357 + 2 * j) 2 z_22) (357 + 2 * j) 3 1) (357 + 2 * j) 3).toInt = (1 : Int32).toInt := congrArg Int32.toInt ((up2_at _ _ _ _))
                        have hz1 : (1 : Int32).toInt = 1 := rfl
                        have hz0 : (0 : Int32).toInt = 0 := rfl
                        have hw_128 : ((up2 (up2 j1 (357 + 2 * j) 2 z_22) (357 + 2 * j) 3 1) (357 + 2 * j) 1).toInt = ((j1 (357 + 2 * j) 1) : Int32).toInt := congrArg Int32.toInt (((up2_k _ _ (by decide)).trans (up2_k _ _ (by decide))))
                        have hw_129 : ((up2 (up2 j1 (357 + 2 * j) 2 z_22) (357 + 2 * j) 3 1) (357 + 2 * j) 2).toInt = (z_22 : Int32).toInt := congrArg Int32.toInt (((up2_k _ _ (by decide)).trans (up2_at _ _ _ _)))
                        have hw_130 : ((up2 (up2 j1 (357 + 2 * j) 2 z_22) (357 + 2 * j) 3 1) (357 + 2 * j) 3).toInt = (1 : Int32).toInt := congrArg Int32.toInt ((up2_at _ _ _ _))
                        have hbn : (j1 (357 + 2 * j) 2).toInt.toNat < n := by omega
                        have hcb : ff (j1 (357 + 2 * j) 2).toInt.toNat = i (357 + 2 * j + 1) (j1 (357 + 2 * j) 2).toInt.toNat := by rw [hff]
                        have hci := congrArg Int32.toInt hcb
                        have hnb := hNB _ hbn
                        have hT : tb x (ff (j1 (357 + 2 * j) 2).toInt.toNat).toInt = decide (z_93 = 1) := by rw [hcb]; exact tb_eq ez_91 ez_92 ez_93
                        have hR9 := one_let (T := tb x) hB9 hbn (by omega) (by omega)
                        rw [hT, tb_v (w := (1 : Int32).toInt) (by omega), flp_v (v := (1 : Int32).toInt) hk9 (by omega) (by omega)] at hR9
                        exact sj_zret hx hb hr hlocks (by decide +kernel) hS (up2 (up2 j1 (357 + 2 * j) 2 z_22) (357 + 2 * j) 3 1) ⟨hO_90, (fun a ha => ((up2_n _ _ (by omega)).trans ((up2_n _ _ (by omega)).trans (hfr_j1 a (by omega))))), ⟨by decide, by decide⟩, (by refine ⟨?_, ?_, ?_, ?_⟩ <;> omega), (fun hF => Or.inl ⟨(j1 (357 + 2 * j) 2).toInt.toNat + 1, by omega, by omega, by omega, by omega, hR9⟩)⟩ hH (sj_Knil hK) (Nat.le_of_ble_eq_true rfl) (Nat.le_of_ble_eq_true rfl) dX9_one_243
            · skip
              have h_131 := s_eq (rfl : (i (357 + 2 * j + 1) ((j1 (357 + 2 * j) 2).toInt).toNat).toInt = _) (show (40 : Int32).toInt = 40 from rfl) c_24
              refine lv_aload_n hx hb dX9_one_102 rfl (lv_at hl 2 rfl) ?_
              refine lv_iload_n hx hb dX9_one_103 rfl (lv_at hl 3 rfl) ?_
              refine lv_iload_n hx hb dX9_one_104 rfl (lv_at hl 4 rfl) ?_
              refine lv_iconst (v := 1) hx hb dX9_one_105 (by decide) ?_
              refine lv_iadd hx hb dX9_one_106 ?_
              obtain ⟨z_132, ez_132, hz_132⟩ := s_add (rfl : y.toInt = _) (show (1 : Int32).toInt = 1 from rfl) (by omega) (by omega)
              refine sj_i ez_132 ?_
              obtain ⟨m9, em9⟩ : ∃ m9, lv = m9 + 1 := ⟨lv - 1, by omega⟩
              have hz1 : (1 : Int32).toInt = 1 := rfl
              have hz0 : (0 : Int32).toInt = 0 := rfl
              have hw_133 : ((up2 j1 (357 + 2 * j) 2 z_22) (357 + 2 * j) 1).toInt = ((j1 (357 + 2 * j) 1) : Int32).toInt := congrArg Int32.toInt ((up2_k _ _ (by decide)))
              have hw_134 : ((up2 j1 (357 + 2 * j) 2 z_22) (357 + 2 * j) 2).toInt = (z_22 : Int32).toInt := congrArg Int32.toInt ((up2_at _ _ _ _))
              have hw_135 : ((up2 j1 (357 + 2 * j) 2 z_22) (357 + 2 * j) 3).toInt = ((j1 (357 + 2 * j) 3) : Int32).toInt := congrArg Int32.toInt ((up2_k _ _ (by decide)))
              refine x_calli (va_runV (As := [.int x, .int z_132]) (rest := []) ⟨hx, hb, hml, hown, hts⟩ (hrec m9 em9 (up2 j1 (357 + 2 * j) 2 z_22) r L d j ff n ((j1 (357 + 2 * j) 2).toInt.toNat + 1) m9 x z_132 hO_23 hR H.size (by first | omega | decide) (((up2_n _ _ (by omega)).trans (hfr_j1 (357 + 2 * j + 1) (by omega))).trans hff) (by first | omega | decide) (by first | omega | decide) (by first | omega | decide) (by first | omega | decide) (fun hF => by omega) (by first | omega | decide) (by first | omega | decide) hNB rfl) (cwV 2 hts gX9_one_X9_anyOf rfl rfl rfl (by decide +kernel) ⟨(show 3 * m9 + 2 + 1 ≤ 3 * lv by omega), (show 8 + (5 + 11) + (120 * m9 + 80) ≤ 120 * lv by omega)⟩) (x_preV (q := (RX9, TX9, 4)) hH hK (q_obj (lt_nK (by omega)) (kd_tag hj) (by decide)) rfl gxb (gxw hE hS (x_F hH hS hA))) rfl rfl hl.1 rfl (lv_room (Nat.le_of_ble_eq_true rfl)) dX9_one_107 ⟨(Nat.le_of_ble_eq_true rfl), (Nat.le_of_ble_eq_true rfl)⟩) hH hS hA rfl rfl (fun r_136 im_138 H locs hw_137 hH hS => ?_)
              have hH : sj_H D A (hwc g ka im_138 r L d) H := hH
              obtain ⟨hO_140, hfr_139, hr_141, he_142, hx2_143⟩ := hw_137
              have hr_141 : (0 : Int) ≤ r_136.toInt ∧ r_136.toInt ≤ 1 := hr_141
              refine lv_istore (lv' := [(5, .int r_136), (4, .int (i (357 + 2 * j + 1) ((j1 (357 + 2 * j) 2).toInt).toNat)), (3, .int u), (0, .ref (g (357 + 2 * j))), (1, .int x), (2, .int y)]) hx hb dX9_one_110 hl (by decide) rfl (fun ls hl => ?_)
              refine lv_aload_n hx hb dX9_one_112 rfl (lv_at hl 3 rfl) ?_
              refine lv_aload_n hx hb dX9_one_113 rfl (lv_at hl 3 rfl) ?_
              have bx_144 : (0 : Int) ≤ (im_138 (357 + 2 * j) 3).toInt ∧ (im_138 (357 + 2 * j) 3).toInt ≤ 1 := by have h9 := hO_140 (357 + 2 * j) 3; rw [bx_tag hj 3] at h9; exact h9
              refine h_geti (ci := 9) (C := RX9) (F := TX9) (N := 4) hx hb hts in9 hown hK hH (lt_nK (by omega)) (kd_tag hj) (by decide) rfl 3 (by decide) wd2 (fun _ h9 => h9) (by decide) rfl dX9_one_114 ?_
              refine lv_if_eq (tgt := 149) hx hb dX9_one_117 (by decide) (fun c_145 => ?_) (fun c_145 => ?_)
              · skip
                have h_146 := s_eq (rfl : (im_138 (357 + 2 * j) 3).toInt = _) (show (0 : Int32).toInt = 0 from rfl) c_145
                refine lv_iconst (v := 0) hx hb dX9_one_149 (by decide) ?_
                have hO_147 := okp hO_140 (n := (357 + 2 * j)) (k := 3) (v := 0) (by rw [bx_tag hj 3]; exact (show (0 : Int) ≤ (0 : Int32).toInt ∧ (0 : Int32).toInt ≤ 1 from ⟨by decide, by decide⟩))
                refine h_puti (ty := .boolean) (ci := 9) (C := RX9) (F := TX9) (N := 4) hx hb hts in9 tyX9 tyX9_ok nmX9 hown hK hH hS (lt_nK (by omega)) (kd_tag hj) (by decide) rfl 3 (by decide) wd2 (fun _ h9 => h9) rfl (by decide +kernel) (by decide +kernel) (by decide +kernel) (by decide) rfl dX9_one_150 (fun H locs hH hS => ?_)
                refine lv_aload_n hx hb dX9_one_153 rfl (lv_at hl 3 rfl) ?_
                refine lv_dup hx hb dX9_one_154 rfl ?_
                have bx_148 : (0 : Int) ≤ (im_138 (357 + 2 * j) 2).toInt ∧ (im_138 (357 + 2 * j) 2).toInt ≤ 127 := by have h9 := hO_140 (357 + 2 * j) 2; rw [bx_tag hj 2] at h9; exact h9
                refine h_geti (ci := 9) (C := RX9) (F := TX9) (N := 4) hx hb hts in9 hown hK hH (lt_nK (by omega)) (kd_tag hj) (by decide) rfl 2 (by decide) wd0 (fun _ h9 => h9) (by decide) rfl dX9_one_155 ?_
                refine sj_i (y := (im_138 (357 + 2 * j) 2)) (up2_k _ _ (by decide)) ?_
                refine lv_iconst (v := 1) hx hb dX9_one_158 (by decide) ?_
                refine lv_iadd hx hb dX9_one_159 ?_
                obtain ⟨z_149, ez_149, hz_149⟩ := s_add (rfl : (im_138 (357 + 2 * j) 2).toInt = _) (show (1 : Int32).toInt = 1 from rfl) (by omega) (by omega)
                refine sj_i ez_149 ?_
                have hO_150 := okp hO_147 (n := (357 + 2 * j)) (k := 2) (v := z_149) (by rw [bx_tag hj 2]; exact (show (0 : Int) ≤ (z_149 : Int32).toInt ∧ (z_149 : Int32).toInt ≤ 127 from ⟨by omega, by omega⟩))
                refine h_puti (ty := .int) (ci := 9) (C := RX9) (F := TX9) (N := 4) hx hb hts in9 tyX9 tyX9_ok nmX9 hown hK hH hS (lt_nK (by omega)) (kd_tag hj) (by decide) rfl 2 (by decide) wd0 (fun _ h9 => h9) rfl (by decide +kernel) rfl rfl (by decide) rfl dX9_one_160 (fun H locs hH hS => ?_)
                refine lv_iload hx hb dX9_one_163 (lv_at hl 0 rfl) ?_
                refine lv_iload_n hx hb dX9_one_165 rfl (lv_at hl 2 rfl) ?_
                refine lv_icmp_ne (tgt := 173) hx hb dX9_one_166 (by decide) (fun c_151 => ?_) (fun c_151 => ?_)
                · skip
                  have h_152 := s_ne (rfl : r_136.toInt = _) (rfl : u.toInt = _) c_151
                  refine lv_iconst (v := 0) hx hb dX9_one_173 (by decide) ?_
                  have hlv_153 : (0 : Int32).toInt = 0 := rfl
                  have hz1 : (1 : Int32).toInt = 1 := rfl
                  have hz0 : (0 : Int32).toInt = 0 := rfl
                  have hw_154 : ((up2 (up2 im_138 (357 + 2 * j) 3 0) (357 + 2 * j) 2 z_149) (357 + 2 * j) 1).toInt = ((im_138 (357 + 2 * j) 1) : Int32).toInt := congrArg Int32.toInt (((up2_k _ _ (by decide)).trans (up2_k _ _ (by decide))))
                  have hw_155 : ((up2 (up2 im_138 (357 + 2 * j) 3 0) (357 + 2 * j) 2 z_149) (357 + 2 * j) 2).toInt = (z_149 : Int32).toInt := congrArg Int32.toInt ((up2_at _ _ _ _))
                  have hw_156 : ((up2 (up2 im_138 (357 + 2 * j) 3 0) (357 + 2 * j) 2 z_149) (357 + 2 * j) 3).toInt = (0 : Int32).toInt := congrArg Int32.toInt (((up2_k _ _ (by decide)).trans (up2_at _ _ _ _)))
                  have hz1 : (1 : Int32).toInt = 1 := rfl
                  have hz0 : (0 : Int32).toInt = 0 := rfl
                  have hw_157 : ((up2 (up2 im_138 (357 + 2 * j) 3 0) (357 + 2 * j) 2 z_149) (357 + 2 * j) 1).toInt = ((im_138 (357 + 2 * j) 1) : Int32).toInt := congrArg Int32.toInt (((up2_k _ _ (by decide)).trans (up2_k _ _ (by decide))))
                  have hw_158 : ((up2 (up2 im_138 (357 + 2 * j) 3 0) (357 + 2 * j) 2 z_149) (357 + 2 * j) 2).toInt = (z_149 : Int32).toInt := congrArg Int32.toInt ((up2_at _ _ _ _))
                  have hw_159 : ((up2 (up2 im_138 (357 + 2 * j) 3 0) (357 + 2 * j) 2 z_149) (357 + 2 * j) 3).toInt = (0 : Int32).toInt := congrArg Int32.toInt (((up2_k _ _ (by decide)).trans (up2_at _ _ _ _)))
                  have hbn : (j1 (357 + 2 * j) 2).toInt.toNat < n := by omega
                  have hcb : ff (j1 (357 + 2 * j) 2).toInt.toNat = i (357 + 2 * j + 1) (j1 (357 + 2 * j) 2).toInt.toNat := by rw [hff]
                  have hci := congrArg Int32.toInt hcb
                  exact sj_zret hx hb hr hlocks (by decide +kernel) hS (up2 (up2 im_138 (357 + 2 * j) 3 0) (357 + 2 * j) 2 z_149) ⟨hO_150, (fun a ha => ((up2_n _ _ (by omega)).trans ((up2_n _ _ (by omega)).trans ((hfr_139 a (by omega)).trans ((up2_n _ _ (by omega)).trans (hfr_j1 a (by omega))))))), ⟨by decide, by decide⟩, (by refine ⟨?_, ?_, ?_, ?_⟩ <;> omega), (fun hF => by
      have hA := hx2_143 (by omega)
      refine Or.inr ⟨by omega, ?_⟩
      rcases hA with ⟨c9, g1, g2, g3, g4, g5, g6⟩ | ⟨g1, g2⟩
      · refine one_parY hB9 hbn (by omega) g5 ?_
        by_cases hcn : n ≤ c9
        · exact Or.inl hcn
        · have hcc : ff c9 = i (357 + 2 * j + 1) (im_138 (357 + 2 * j) 2).toInt.toNat := by rw [hff, show (im_138 (357 + 2 * j) 2).toInt.toNat = c9 by omega]
          have hcc2 := congrArg Int32.toInt hcc
          have := hNB c9 (by omega)
          exact Or.inr ⟨by omega, by omega, by omega, by omega⟩
      · exact one_parX hB9 hbn (by omega) g2)⟩ hH (sj_Knil hK) (Nat.le_of_ble_eq_true rfl) (Nat.le_of_ble_eq_true rfl) dX9_one_174
                · skip
                  have h_160 := s_eq (rfl : r_136.toInt = _) (rfl : u.toInt = _) c_151
                  refine lv_iconst (v := 1) hx hb dX9_one_169 (by decide) ?_
                  refine lv_goto (tgt := 174) hx hb dX9_one_170 (by decide) ?_
                  have hlv_161 : (1 : Int32).toInt = 1 := rfl
                  have hz1 : (1 : Int32).toInt = 1 := rfl
                  have hz0 : (0 : Int32).toInt = 0 := rfl
                  have hw_162 : ((up2 (up2 im_138 (357 + 2 * j) 3 0) (357 + 2 * j) 2 z_149) (357 + 2 * j) 1).toInt = ((im_138 (357 + 2 * j) 1) : Int32).toInt := congrArg Int32.toInt (((up2_k _ _ (by decide)).trans (up2_k _ _ (by decide))))
                  have hw_163 : ((up2 (up2 im_138 (357 + 2 * j) 3 0) (357 + 2 * j) 2 z_149) (357 + 2 * j) 2).toInt = (z_149 : Int32).toInt := congrArg Int32.toInt ((up2_at _ _ _ _))
                  have hw_164 : ((up2 (up2 im_138 (357 + 2 * j) 3 0) (357 + 2 * j) 2 z_149) (357 + 2 * j) 3).toInt = (0 : Int32).toInt := congrArg Int32.toInt (((up2_k _ _ (by decide)).trans (up2_at _ _ _ _)))
                  have hz1 : (1 : Int32).toInt = 1 := rfl
                  have hz0 : (0 : Int32).toInt = 0 := rfl
                  have hw_165 : ((up2 (up2 im_138 (357 + 2 * j) 3 0) (357 + 2 * j) 2 z_149) (357 + 2 * j) 1).toInt = ((im_138 (357 + 2 * j) 1) : Int32).toInt := congrArg Int32.toInt (((up2_k _ _ (by decide)).trans (up2_k _ _ (by decide))))
                  have hw_166 : ((up2 (up2 im_138 (357 + 2 * j) 3 0) (357 + 2 * j) 2 z_149) (357 + 2 * j) 2).toInt = (z_149 : Int32).toInt := congrArg Int32.toInt ((up2_at _ _ _ _))
                  have hw_167 : ((up2 (up2 im_138 (357 + 2 * j) 3 0) (357 + 2 * j) 2 z_149) (357 + 2 * j) 3).toInt = (0 : Int32).toInt := congrArg Int32.toInt (((up2_k _ _ (by decide)).trans (up2_at _ _ _ _)))
                  have hbn : (j1 (357 + 2 * j) 2).toInt.toNat < n := by omega
                  have hcb : ff (j1 (357 + 2 * j) 2).toInt.toNat = i (357 + 2 * j + 1) (j1 (357 + 2 * j) 2).toInt.toNat := by rw [hff]
                  have hci := congrArg Int32.toInt hcb
                  exact sj_zret hx hb hr hlocks (by decide +kernel) hS (up2 (up2 im_138 (357 + 2 * j) 3 0) (357 + 2 * j) 2 z_149) ⟨hO_150, (fun a ha => ((up2_n _ _ (by omega)).trans ((up2_n _ _ (by omega)).trans ((hfr_139 a (by omega)).trans ((up2_n _ _ (by omega)).trans (hfr_j1 a (by omega))))))), ⟨by decide, by decide⟩, (by refine ⟨?_, ?_, ?_, ?_⟩ <;> omega), (fun hF => by
      have hA := hx2_143 (by omega)
      refine Or.inr ⟨by omega, ?_⟩
      rcases hA with ⟨c9, g1, g2, g3, g4, g5, g6⟩ | ⟨g1, g2⟩
      · refine one_parY hB9 hbn (by omega) g5 ?_
        by_cases hcn : n ≤ c9
        · exact Or.inl hcn
        · have hcc : ff c9 = i (357 + 2 * j + 1) (im_138 (357 + 2 * j) 2).toInt.toNat := by rw [hff, show (im_138 (357 + 2 * j) 2).toInt.toNat = c9 by omega]
          have hcc2 := congrArg Int32.toInt hcc
          have := hNB c9 (by omega)
          exact Or.inr ⟨by omega, by omega, by omega, by omega⟩
      · exact one_parX hB9 hbn (by omega) g2)⟩ hH (sj_Knil hK) (Nat.le_of_ble_eq_true rfl) (Nat.le_of_ble_eq_true rfl) dX9_one_174
              · skip
                have h_168 := s_ne (rfl : (im_138 (357 + 2 * j) 3).toInt = _) (show (0 : Int32).toInt = 0 from rfl) c_145
                refine lv_aload_n hx hb dX9_one_120 rfl (lv_at hl 3 rfl) ?_
                have bx_169 : (0 : Int) ≤ (im_138 (357 + 2 * j) 2).toInt ∧ (im_138 (357 + 2 * j) 2).toInt ≤ 127 := by have h9 := hO_140 (357 + 2 * j) 2; rw [bx_tag hj 2] at h9; exact h9
                refine h_geti (ci := 9) (C := RX9) (F := TX9) (N := 4) hx hb hts in9 hown hK hH (lt_nK (by omega)) (kd_tag hj) (by decide) rfl 2 (by decide) wd0 (fun _ h9 => h9) (by decide) rfl dX9_one_121 ?_
                refine lv_aload_n hx hb dX9_one_124 rfl (lv_at hl 3 rfl) ?_
                have bx_170 : (0 : Int) ≤ (im_138 (357 + 2 * j) 1).toInt ∧ (im_138 (357 + 2 * j) 1).toInt ≤ 40 := by have h9 := hO_140 (357 + 2 * j) 1; rw [bx_tag hj 1] at h9; exact h9
                refine h_geti (ci := 9) (C := RX9) (F := TX9) (N := 4) hx hb hts in9 hown hK hH (lt_nK (by omega)) (kd_tag hj) (by decide) rfl 1 (by decide) wd1 (fun _ h9 => h9) (by decide) rfl dX9_one_125 ?_
                refine lv_icmp_ge (tgt := 149) hx hb dX9_one_128 (by decide) (fun c_171 => ?_) (fun c_171 => ?_)
                · skip
                  have h_172 := s_le (rfl : (im_138 (357 + 2 * j) 1).toInt = _) (rfl : (im_138 (357 + 2 * j) 2).toInt = _) c_171
                  refine lv_iconst (v := 0) hx hb dX9_one_149 (by decide) ?_
                  have hO_173 := okp hO_140 (n := (357 + 2 * j)) (k := 3) (v := 0) (by rw [bx_tag hj 3]; exact (show (0 : Int) ≤ (0 : Int32).toInt ∧ (0 : Int32).toInt ≤ 1 from ⟨by decide, by decide⟩))
                  refine h_puti (ty := .boolean) (ci := 9) (C := RX9) (F := TX9) (N := 4) hx hb hts in9 tyX9 tyX9_ok nmX9 hown hK hH hS (lt_nK (by omega)) (kd_tag hj) (by decide) rfl 3 (by decide) wd2 (fun _ h9 => h9) rfl (by decide +kernel) (by decide +kernel) (by decide +kernel) (by decide) rfl dX9_one_150 (fun H locs hH hS => ?_)
                  refine lv_aload_n hx hb dX9_one_153 rfl (lv_at hl 3 rfl) ?_
                  refine lv_dup hx hb dX9_one_154 rfl ?_
                  refine h_geti (ci := 9) (C := RX9) (F := TX9) (N := 4) hx hb hts in9 hown hK hH (lt_nK (by omega)) (kd_tag hj) (by decide) rfl 2 (by decide) wd0 (fun _ h9 => h9) (by decide) rfl dX9_one_155 ?_
                  refine sj_i (y := (im_138 (357 + 2 * j) 2)) (up2_k _ _ (by decide)) ?_
                  refine lv_iconst (v := 1) hx hb dX9_one_158 (by decide) ?_
                  refine lv_iadd hx hb dX9_one_159 ?_
                  obtain ⟨z_174, ez_174, hz_174⟩ := s_add (rfl : (im_138 (357 + 2 * j) 2).toInt = _) (show (1 : Int32).toInt = 1 from rfl) (by omega) (by omega)
                  refine sj_i ez_174 ?_
                  have hO_175 := okp hO_173 (n := (357 + 2 * j)) (k := 2) (v := z_174) (by rw [bx_tag hj 2]; exact (show (0 : Int) ≤ (z_174 : Int32).toInt ∧ (z_174 : Int32).toInt ≤ 127 from ⟨by omega, by omega⟩))
                  refine h_puti (ty := .int) (ci := 9) (C := RX9) (F := TX9) (N := 4) hx hb hts in9 tyX9 tyX9_ok nmX9 hown hK hH hS (lt_nK (by omega)) (kd_tag hj) (by decide) rfl 2 (by decide) wd0 (fun _ h9 => h9) rfl (by decide +kernel) rfl rfl (by decide) rfl dX9_one_160 (fun H locs hH hS => ?_)
                  refine lv_iload hx hb dX9_one_163 (lv_at hl 0 rfl) ?_
                  refine lv_iload_n hx hb dX9_one_165 rfl (lv_at hl 2 rfl) ?_
                  refine lv_icmp_ne (tgt := 173) hx hb dX9_one_166 (by decide) (fun c_176 => ?_) (fun c_176 => ?_)
                  · skip
                    have h_177 := s_ne (rfl : r_136.toInt = _) (rfl : u.toInt = _) c_176
                    refine lv_iconst (v := 0) hx hb dX9_one_173 (by decide) ?_
                    have hlv_178 : (0 : Int32).toInt = 0 := rfl
                    have hz1 : (1 : Int32).toInt = 1 := rfl
                    have hz0 : (0 : Int32).toInt = 0 := rfl
                    have hw_179 : ((up2 (up2 im_138 (357 + 2 * j) 3 0) (357 + 2 * j) 2 z_174) (357 + 2 * j) 1).toInt = ((im_138 (357 + 2 * j) 1) : Int32).toInt := congrArg Int32.toInt (((up2_k _ _ (by decide)).trans (up2_k _ _ (by decide))))
                    have hw_180 : ((up2 (up2 im_138 (357 + 2 * j) 3 0) (357 + 2 * j) 2 z_174) (357 + 2 * j) 2).toInt = (z_174 : Int32).toInt := congrArg Int32.toInt ((up2_at _ _ _ _))
                    have hw_181 : ((up2 (up2 im_138 (357 + 2 * j) 3 0) (357 + 2 * j) 2 z_174) (357 + 2 * j) 3).toInt = (0 : Int32).toInt := congrArg Int32.toInt (((up2_k _ _ (by decide)).trans (up2_at _ _ _ _)))
                    have hz1 : (1 : Int32).toInt = 1 := rfl
                    have hz0 : (0 : Int32).toInt = 0 := rfl
                    have hw_182 : ((up2 (up2 im_138 (357 + 2 * j) 3 0) (357 + 2 * j) 2 z_174) (357 + 2 * j) 1).toInt = ((im_138 (357 + 2 * j) 1) : Int32).toInt := congrArg Int32.toInt (((up2_k _ _ (by decide)).trans (up2_k _ _ (by decide))))
                    have hw_183 : ((up2 (up2 im_138 (357 + 2 * j) 3 0) (357 + 2 * j) 2 z_174) (357 + 2 * j) 2).toInt = (z_174 : Int32).toInt := congrArg Int32.toInt ((up2_at _ _ _ _))
                    have hw_184 : ((up2 (up2 im_138 (357 + 2 * j) 3 0) (357 + 2 * j) 2 z_174) (357 + 2 * j) 3).toInt = (0 : Int32).toInt := congrArg Int32.toInt (((up2_k _ _ (by decide)).trans (up2_at _ _ _ _)))
                    have hbn : (j1 (357 + 2 * j) 2).toInt.toNat < n := by omega
                    have hcb : ff (j1 (357 + 2 * j) 2).toInt.toNat = i (357 + 2 * j + 1) (j1 (357 + 2 * j) 2).toInt.toNat := by rw [hff]
                    have hci := congrArg Int32.toInt hcb
                    exact sj_zret hx hb hr hlocks (by decide +kernel) hS (up2 (up2 im_138 (357 + 2 * j) 3 0) (357 + 2 * j) 2 z_174) ⟨hO_175, (fun a ha => ((up2_n _ _ (by omega)).trans ((up2_n _ _ (by omega)).trans ((hfr_139 a (by omega)).trans ((up2_n _ _ (by omega)).trans (hfr_j1 a (by omega))))))), ⟨by decide, by decide⟩, (by refine ⟨?_, ?_, ?_, ?_⟩ <;> omega), (fun hF => by
      have hA := hx2_143 (by omega)
      refine Or.inr ⟨by omega, ?_⟩
      rcases hA with ⟨c9, g1, g2, g3, g4, g5, g6⟩ | ⟨g1, g2⟩
      · refine one_parY hB9 hbn (by omega) g5 ?_
        by_cases hcn : n ≤ c9
        · exact Or.inl hcn
        · have hcc : ff c9 = i (357 + 2 * j + 1) (im_138 (357 + 2 * j) 2).toInt.toNat := by rw [hff, show (im_138 (357 + 2 * j) 2).toInt.toNat = c9 by omega]
          have hcc2 := congrArg Int32.toInt hcc
          have := hNB c9 (by omega)
          exact Or.inr ⟨by omega, by omega, by omega, by omega⟩
      · exact one_parX hB9 hbn (by omega) g2)⟩ hH (sj_Knil hK) (Nat.le_of_ble_eq_true rfl) (Nat.le_of_ble_eq_true rfl) dX9_one_174
                  · skip
                    have h_185 := s_eq (rfl : r_136.toInt = _) (rfl : u.toInt = _) c_176
                    refine lv_iconst (v := 1) hx hb dX9_one_169 (by decide) ?_
                    refine lv_goto (tgt := 174) hx hb dX9_one_170 (by decide) ?_
                    have hlv_186 : (1 : Int32).toInt = 1 := rfl
                    have hz1 : (1 : Int32).toInt = 1 := rfl
                    have hz0 : (0 : Int32).toInt = 0 := rfl
                    have hw_187 : ((up2 (up2 im_138 (357 + 2 * j) 3 0) (357 + 2 * j) 2 z_174) (357 + 2 * j) 1).toInt = ((im_138 (357 + 2 * j) 1) : Int32).toInt := congrArg Int32.toInt (((up2_k _ _ (by decide)).trans (up2_k _ _ (by decide))))
                    have hw_188 : ((up2 (up2 im_138 (357 + 2 * j) 3 0) (357 + 2 * j) 2 z_174) (357 + 2 * j) 2).toInt = (z_174 : Int32).toInt := congrArg Int32.toInt ((up2_at _ _ _ _))
                    have hw_189 : ((up2 (up2 im_138 (357 + 2 * j) 3 0) (357 + 2 * j) 2 z_174) (357 + 2 * j) 3).toInt = (0 : Int32).toInt := congrArg Int32.toInt (((up2_k _ _ (by decide)).trans (up2_at _ _ _ _)))
                    have hz1 : (1 : Int32).toInt = 1 := rfl
                    have hz0 : (0 : Int32).toInt = 0 := rfl
                    have hw_190 : ((up2 (up2 im_138 (357 + 2 * j) 3 0) (357 + 2 * j) 2 z_174) (357 + 2 * j) 1).toInt = ((im_138 (357 + 2 * j) 1) : Int32).toInt := congrArg Int32.toInt (((up2_k _ _ (by decide)).trans (up2_k _ _ (by decide))))
                    have hw_191 : ((up2 (up2 im_138 (357 + 2 * j) 3 0) (357 + 2 * j) 2 z_174) (357 + 2 * j) 2).toInt = (z_174 : Int32).toInt := congrArg Int32.toInt ((up2_at _ _ _ _))
                    have hw_192 : ((up2 (up2 im_138 (357 + 2 * j) 3 0) (357 + 2 * j) 2 z_174) (357 + 2 * j) 3).toInt = (0 : Int32).toInt := congrArg Int32.toInt (((up2_k _ _ (by decide)).trans (up2_at _ _ _ _)))
                    have hbn : (j1 (357 + 2 * j) 2).toInt.toNat < n := by omega
                    have hcb : ff (j1 (357 + 2 * j) 2).toInt.toNat = i (357 + 2 * j + 1) (j1 (357 + 2 * j) 2).toInt.toNat := by rw [hff]
                    have hci := congrArg Int32.toInt hcb
                    exact sj_zret hx hb hr hlocks (by decide +kernel) hS (up2 (up2 im_138 (357 + 2 * j) 3 0) (357 + 2 * j) 2 z_174) ⟨hO_175, (fun a ha => ((up2_n _ _ (by omega)).trans ((up2_n _ _ (by omega)).trans ((hfr_139 a (by omega)).trans ((up2_n _ _ (by omega)).trans (hfr_j1 a (by omega))))))), ⟨by decide, by decide⟩, (by refine ⟨?_, ?_, ?_, ?_⟩ <;> omega), (fun hF => by
      have hA := hx2_143 (by omega)
      refine Or.inr ⟨by omega, ?_⟩
      rcases hA with ⟨c9, g1, g2, g3, g4, g5, g6⟩ | ⟨g1, g2⟩
      · refine one_parY hB9 hbn (by omega) g5 ?_
        by_cases hcn : n ≤ c9
        · exact Or.inl hcn
        · have hcc : ff c9 = i (357 + 2 * j + 1) (im_138 (357 + 2 * j) 2).toInt.toNat := by rw [hff, show (im_138 (357 + 2 * j) 2).toInt.toNat = c9 by omega]
          have hcc2 := congrArg Int32.toInt hcc
          have := hNB c9 (by omega)
          exact Or.inr ⟨by omega, by omega, by omega, by omega⟩
      · exact one_parX hB9 hbn (by omega) g2)⟩ hH (sj_Knil hK) (Nat.le_of_ble_eq_true rfl) (Nat.le_of_ble_eq_true rfl) dX9_one_174
                · skip
                  have h_193 := s_nle (rfl : (im_138 (357 + 2 * j) 1).toInt = _) (rfl : (im_138 (357 + 2 * j) 2).toInt = _) c_171
                  refine lv_aload_n hx hb dX9_one_131 rfl (lv_at hl 3 rfl) ?_
                  refine h_getr (ci := 9) (C := RX9) (F := TX9) (N := 4) hx hb hts in9 hown hK hH (lt_nK (by omega)) (kd_tag hj) (by decide) rfl 0 (by decide) wd3 (fun _ h9 => h9) (by decide) rfl (t := (357 + 2 * j + 1)) ((hR _ _ (by unfold dyn; simp <;> omega)).trans (sr_tag (by omega))) (lt_nK (by omega)) dX9_one_132 ?_
                  refine lv_aload_n hx hb dX9_one_135 rfl (lv_at hl 3 rfl) ?_
                  refine h_geti (ci := 9) (C := RX9) (F := TX9) (N := 4) hx hb hts in9 hown hK hH (lt_nK (by omega)) (kd_tag hj) (by decide) rfl 2 (by decide) wd0 (fun _ h9 => h9) (by decide) rfl dX9_one_136 ?_
                  have bx_194 : (0 : Int) ≤ (i (357 + 2 * j + 1) ((im_138 (357 + 2 * j) 2).toInt).toNat).toInt ∧ (i (357 + 2 * j + 1) ((im_138 (357 + 2 * j) 2).toInt).toNat).toInt ≤ 65535 := by have h9 := hO (357 + 2 * j + 1) ((im_138 (357 + 2 * j) 2).toInt).toNat; rw [bx_taga hj ((im_138 (357 + 2 * j) 2).toInt).toNat] at h9; exact h9
                  refine h_cald hx hb hK hH (lt_nK (by omega)) (kd_taga hj) (s_vin (N := 40) (rfl : (im_138 (357 + 2 * j) 2).toInt = _) (ln_taga hj) (by omega) (by omega)) dX9_one_139 ?_
                  have ek_195 : (im_138 (357 + 2 * j) 2).toNatClampNeg = ((im_138 (357 + 2 * j) 2).toInt).toNat := (s_cl (show (im_138 (357 + 2 * j) 2).toInt = (im_138 (357 + 2 * j) 2).toInt by omega))
                  refine sj_i (y := (i (357 + 2 * j + 1) ((im_138 (357 + 2 * j) 2).toInt).toNat)) (by rw [ek_195]; exact ((congrFun (hfr_139 (357 + 2 * j + 1) (by omega)) _).trans ((congrFun (up2_n _ _ (by omega)) _).trans (congrFun (hfr_j1 (357 + 2 * j + 1) (by omega)) _)))) ?_
                  refine lv_bipush (v := 41) hx hb dX9_one_140 (by decide) ?_
                  refine lv_icmp_ne (tgt := 149) hx hb dX9_one_142 (by decide) (fun c_196 => ?_) (fun c_196 => ?_)
                  · skip
                    have h_197 := s_ne (rfl : (i (357 + 2 * j + 1) ((im_138 (357 + 2 * j) 2).toInt).toNat).toInt = _) (show (41 : Int32).toInt = 41 from rfl) c_196
                    refine lv_iconst (v := 0) hx hb dX9_one_149 (by decide) ?_
                    have hO_198 := okp hO_140 (n := (357 + 2 * j)) (k := 3) (v := 0) (by rw [bx_tag hj 3]; exact (show (0 : Int) ≤ (0 : Int32).toInt ∧ (0 : Int32).toInt ≤ 1 from ⟨by decide, by decide⟩))
                    refine h_puti (ty := .boolean) (ci := 9) (C := RX9) (F := TX9) (N := 4) hx hb hts in9 tyX9 tyX9_ok nmX9 hown hK hH hS (lt_nK (by omega)) (kd_tag hj) (by decide) rfl 3 (by decide) wd2 (fun _ h9 => h9) rfl (by decide +kernel) (by decide +kernel) (by decide +kernel) (by decide) rfl dX9_one_150 (fun H locs hH hS => ?_)
                    refine lv_aload_n hx hb dX9_one_153 rfl (lv_at hl 3 rfl) ?_
                    refine lv_dup hx hb dX9_one_154 rfl ?_
                    refine h_geti (ci := 9) (C := RX9) (F := TX9) (N := 4) hx hb hts in9 hown hK hH (lt_nK (by omega)) (kd_tag hj) (by decide) rfl 2 (by decide) wd0 (fun _ h9 => h9) (by decide) rfl dX9_one_155 ?_
                    refine sj_i (y := (im_138 (357 + 2 * j) 2)) (up2_k _ _ (by decide)) ?_
                    refine lv_iconst (v := 1) hx hb dX9_one_158 (by decide) ?_
                    refine lv_iadd hx hb dX9_one_159 ?_
                    obtain ⟨z_199, ez_199, hz_199⟩ := s_add (rfl : (im_138 (357 + 2 * j) 2).toInt = _) (show (1 : Int32).toInt = 1 from rfl) (by omega) (by omega)
                    refine sj_i ez_199 ?_
                    have hO_200 := okp hO_198 (n := (357 + 2 * j)) (k := 2) (v := z_199) (by rw [bx_tag hj 2]; exact (show (0 : Int) ≤ (z_199 : Int32).toInt ∧ (z_199 : Int32).toInt ≤ 127 from ⟨by omega, by omega⟩))
                    refine h_puti (ty := .int) (ci := 9) (C := RX9) (F := TX9) (N := 4) hx hb hts in9 tyX9 tyX9_ok nmX9 hown hK hH hS (lt_nK (by omega)) (kd_tag hj) (by decide) rfl 2 (by decide) wd0 (fun _ h9 => h9) rfl (by decide +kernel) rfl rfl (by decide) rfl dX9_one_160 (fun H locs hH hS => ?_)
                    refine lv_iload hx hb dX9_one_163 (lv_at hl 0 rfl) ?_
                    refine lv_iload_n hx hb dX9_one_165 rfl (lv_at hl 2 rfl) ?_
                    refine lv_icmp_ne (tgt := 173) hx hb dX9_one_166 (by decide) (fun c_201 => ?_) (fun c_201 => ?_)
                    · skip
                      have h_202 := s_ne (rfl : r_136.toInt = _) (rfl : u.toInt = _) c_201
                      refine lv_iconst (v := 0) hx hb dX9_one_173 (by decide) ?_
                      have hlv_203 : (0 : Int32).toInt = 0 := rfl
                      have hz1 : (1 : Int32).toInt = 1 := rfl
                      have hz0 : (0 : Int32).toInt = 0 := rfl
                      have hw_204 : ((up2 (up2 im_138 (357 + 2 * j) 3 0) (357 + 2 * j) 2 z_199) (357 + 2 * j) 1).toInt = ((im_138 (357 + 2 * j) 1) : Int32).toInt := congrArg Int32.toInt (((up2_k _ _ (by decide)).trans (up2_k _ _ (by decide))))
                      have hw_205 : ((up2 (up2 im_138 (357 + 2 * j) 3 0) (357 + 2 * j) 2 z_199) (357 + 2 * j) 2).toInt = (z_199 : Int32).toInt := congrArg Int32.toInt ((up2_at _ _ _ _))
                      have hw_206 : ((up2 (up2 im_138 (357 + 2 * j) 3 0) (357 + 2 * j) 2 z_199) (357 + 2 * j) 3).toInt = (0 : Int32).toInt := congrArg Int32.toInt (((up2_k _ _ (by decide)).trans (up2_at _ _ _ _)))
                      have hz1 : (1 : Int32).toInt = 1 := rfl
                      have hz0 : (0 : Int32).toInt = 0 := rfl
                      have hw_207 : ((up2 (up2 im_138 (357 + 2 * j) 3 0) (357 + 2 * j) 2 z_199) (357 + 2 * j) 1).toInt = ((im_138 (357 + 2 * j) 1) : Int32).toInt := congrArg Int32.toInt (((up2_k _ _ (by decide)).trans (up2_k _ _ (by decide))))
                      have hw_208 : ((up2 (up2 im_138 (357 + 2 * j) 3 0) (357 + 2 * j) 2 z_199) (357 + 2 * j) 2).toInt = (z_199 : Int32).toInt := congrArg Int32.toInt ((up2_at _ _ _ _))
                      have hw_209 : ((up2 (up2 im_138 (357 + 2 * j) 3 0) (357 + 2 * j) 2 z_199) (357 + 2 * j) 3).toInt = (0 : Int32).toInt := congrArg Int32.toInt (((up2_k _ _ (by decide)).trans (up2_at _ _ _ _)))
                      have hbn : (j1 (357 + 2 * j) 2).toInt.toNat < n := by omega
                      have hcb : ff (j1 (357 + 2 * j) 2).toInt.toNat = i (357 + 2 * j + 1) (j1 (357 + 2 * j) 2).toInt.toNat := by rw [hff]
                      have hci := congrArg Int32.toInt hcb
                      exact sj_zret hx hb hr hlocks (by decide +kernel) hS (up2 (up2 im_138 (357 + 2 * j) 3 0) (357 + 2 * j) 2 z_199) ⟨hO_200, (fun a ha => ((up2_n _ _ (by omega)).trans ((up2_n _ _ (by omega)).trans ((hfr_139 a (by omega)).trans ((up2_n _ _ (by omega)).trans (hfr_j1 a (by omega))))))), ⟨by decide, by decide⟩, (by refine ⟨?_, ?_, ?_, ?_⟩ <;> omega), (fun hF => by
      have hA := hx2_143 (by omega)
      refine Or.inr ⟨by omega, ?_⟩
      rcases hA with ⟨c9, g1, g2, g3, g4, g5, g6⟩ | ⟨g1, g2⟩
      · refine one_parY hB9 hbn (by omega) g5 ?_
        by_cases hcn : n ≤ c9
        · exact Or.inl hcn
        · have hcc : ff c9 = i (357 + 2 * j + 1) (im_138 (357 + 2 * j) 2).toInt.toNat := by rw [hff, show (im_138 (357 + 2 * j) 2).toInt.toNat = c9 by omega]
          have hcc2 := congrArg Int32.toInt hcc
          have := hNB c9 (by omega)
          exact Or.inr ⟨by omega, by omega, by omega, by omega⟩
      · exact one_parX hB9 hbn (by omega) g2)⟩ hH (sj_Knil hK) (Nat.le_of_ble_eq_true rfl) (Nat.le_of_ble_eq_true rfl) dX9_one_174
                    · skip
                      have h_210 := s_eq (rfl : r_136.toInt = _) (rfl : u.toInt = _) c_201
                      refine lv_iconst (v := 1) hx hb dX9_one_169 (by decide) ?_
                      refine lv_goto (tgt := 174) hx hb dX9_one_170 (by decide) ?_
                      have hlv_211 : (1 : Int32).toInt = 1 := rfl
                      have hz1 : (1 : Int32).toInt = 1 := rfl
                      have hz0 : (0 : Int32).toInt = 0 := rfl
                      have hw_212 : ((up2 (up2 im_138 (357 + 2 * j) 3 0) (357 + 2 * j) 2 z_199) (357 + 2 * j) 1).toInt = ((im_138 (357 + 2 * j) 1) : Int32).toInt := congrArg Int32.toInt (((up2_k _ _ (by decide)).trans (up2_k _ _ (by decide))))
                      have hw_213 : ((up2 (up2 im_138 (357 + 2 * j) 3 0) (357 + 2 * j) 2 z_199) (357 + 2 * j) 2).toInt = (z_199 : Int32).toInt := congrArg Int32.toInt ((up2_at _ _ _ _))
                      have hw_214 : ((up2 (up2 im_138 (357 + 2 * j) 3 0) (357 + 2 * j) 2 z_199) (357 + 2 * j) 3).toInt = (0 : Int32).toInt := congrArg Int32.toInt (((up2_k _ _ (by decide)).trans (up2_at _ _ _ _)))
                      have hz1 : (1 : Int32).toInt = 1 := rfl
                      have hz0 : (0 : Int32).toInt = 0 := rfl
                      have hw_215 : ((up2 (up2 im_138 (357 + 2 * j) 3 0) (357 + 2 * j) 2 z_199) (357 + 2 * j) 1).toInt = ((im_138 (357 + 2 * j) 1) : Int32).toInt := congrArg Int32.toInt (((up2_k _ _ (by decide)).trans (up2_k _ _ (by decide))))
                      have hw_216 : ((up2 (up2 im_138 (357 + 2 * j) 3 0) (357 + 2 * j) 2 z_199) (357 + 2 * j) 2).toInt = (z_199 : Int32).toInt := congrArg Int32.toInt ((up2_at _ _ _ _))
                      have hw_217 : ((up2 (up2 im_138 (357 + 2 * j) 3 0) (357 + 2 * j) 2 z_199) (357 + 2 * j) 3).toInt = (0 : Int32).toInt := congrArg Int32.toInt (((up2_k _ _ (by decide)).trans (up2_at _ _ _ _)))
                      have hbn : (j1 (357 + 2 * j) 2).toInt.toNat < n := by omega
                      have hcb : ff (j1 (357 + 2 * j) 2).toInt.toNat = i (357 + 2 * j + 1) (j1 (357 + 2 * j) 2).toInt.toNat := by rw [hff]
                      have hci := congrArg Int32.toInt hcb
                      exact sj_zret hx hb hr hlocks (by decide +kernel) hS (up2 (up2 im_138 (357 + 2 * j) 3 0) (357 + 2 * j) 2 z_199) ⟨hO_200, (fun a ha => ((up2_n _ _ (by omega)).trans ((up2_n _ _ (by omega)).trans ((hfr_139 a (by omega)).trans ((up2_n _ _ (by omega)).trans (hfr_j1 a (by omega))))))), ⟨by decide, by decide⟩, (by refine ⟨?_, ?_, ?_, ?_⟩ <;> omega), (fun hF => by
      have hA := hx2_143 (by omega)
      refine Or.inr ⟨by omega, ?_⟩
      rcases hA with ⟨c9, g1, g2, g3, g4, g5, g6⟩ | ⟨g1, g2⟩
      · refine one_parY hB9 hbn (by omega) g5 ?_
        by_cases hcn : n ≤ c9
        · exact Or.inl hcn
        · have hcc : ff c9 = i (357 + 2 * j + 1) (im_138 (357 + 2 * j) 2).toInt.toNat := by rw [hff, show (im_138 (357 + 2 * j) 2).toInt.toNat = c9 by omega]
          have hcc2 := congrArg Int32.toInt hcc
          have := hNB c9 (by omega)
          exact Or.inr ⟨by omega, by omega, by omega, by omega⟩
      · exact one_parX hB9 hbn (by omega) g2)⟩ hH (sj_Knil hK) (Nat.le_of_ble_eq_true rfl) (Nat.le_of_ble_eq_true rfl) dX9_one_174
                  · skip
                    have h_218 := s_eq (rfl : (i (357 + 2 * j + 1) ((im_138 (357 + 2 * j) 2).toInt).toNat).toInt = _) (show (41 : Int32).toInt = 41 from rfl) c_196
                    refine lv_iconst (v := 1) hx hb dX9_one_145 (by decide) ?_
                    refine lv_goto (tgt := 150) hx hb dX9_one_146 (by decide) ?_
                    have hO_219 := okp hO_140 (n := (357 + 2 * j)) (k := 3) (v := 1) (by rw [bx_tag hj 3]; exact (show (0 : Int) ≤ (1 : Int32).toInt ∧ (1 : Int32).toInt ≤ 1 from ⟨by decide, by decide⟩))
                    refine h_puti (ty := .boolean) (ci := 9) (C := RX9) (F := TX9) (N := 4) hx hb hts in9 tyX9 tyX9_ok nmX9 hown hK hH hS (lt_nK (by omega)) (kd_tag hj) (by decide) rfl 3 (by decide) wd2 (fun _ h9 => h9) rfl (by decide +kernel) (by decide +kernel) (by decide +kernel) (by decide) rfl dX9_one_150 (fun H locs hH hS => ?_)
                    refine lv_aload_n hx hb dX9_one_153 rfl (lv_at hl 3 rfl) ?_
                    refine lv_dup hx hb dX9_one_154 rfl ?_
                    refine h_geti (ci := 9) (C := RX9) (F := TX9) (N := 4) hx hb hts in9 hown hK hH (lt_nK (by omega)) (kd_tag hj) (by decide) rfl 2 (by decide) wd0 (fun _ h9 => h9) (by decide) rfl dX9_one_155 ?_
                    refine sj_i (y := (im_138 (357 + 2 * j) 2)) (up2_k _ _ (by decide)) ?_
                    refine lv_iconst (v := 1) hx hb dX9_one_158 (by decide) ?_
                    refine lv_iadd hx hb dX9_one_159 ?_
                    obtain ⟨z_220, ez_220, hz_220⟩ := s_add (rfl : (im_138 (357 + 2 * j) 2).toInt = _) (show (1 : Int32).toInt = 1 from rfl) (by omega) (by omega)
                    refine sj_i ez_220 ?_
                    have hO_221 := okp hO_219 (n := (357 + 2 * j)) (k := 2) (v := z_220) (by rw [bx_tag hj 2]; exact (show (0 : Int) ≤ (z_220 : Int32).toInt ∧ (z_220 : Int32).toInt ≤ 127 from ⟨by omega, by omega⟩))
                    refine h_puti (ty := .int) (ci := 9) (C := RX9) (F := TX9) (N := 4) hx hb hts in9 tyX9 tyX9_ok nmX9 hown hK hH hS (lt_nK (by omega)) (kd_tag hj) (by decide) rfl 2 (by decide) wd0 (fun _ h9 => h9) rfl (by decide +kernel) rfl rfl (by decide) rfl dX9_one_160 (fun H locs hH hS => ?_)
                    refine lv_iload hx hb dX9_one_163 (lv_at hl 0 rfl) ?_
                    refine lv_iload_n hx hb dX9_one_165 rfl (lv_at hl 2 rfl) ?_
                    refine lv_icmp_ne (tgt := 173) hx hb dX9_one_166 (by decide) (fun c_222 => ?_) (fun c_222 => ?_)
                    · skip
                      have h_223 := s_ne (rfl : r_136.toInt = _) (rfl : u.toInt = _) c_222
                      refine lv_iconst (v := 0) hx hb dX9_one_173 (by decide) ?_
                      have hlv_224 : (0 : Int32).toInt = 0 := rfl
                      have hz1 : (1 : Int32).toInt = 1 := rfl
                      have hz0 : (0 : Int32).toInt = 0 := rfl
                      have hw_225 : ((up2 (up2 im_138 (357 + 2 * j) 3 1) (357 + 2 * j) 2 z_220) (357 + 2 * j) 1).toInt = ((im_138 (357 + 2 * j) 1) : Int32).toInt := congrArg Int32.toInt (((up2_k _ _ (by decide)).trans (up2_k _ _ (by decide))))
                      have hw_226 : ((up2 (up2 im_138 (357 + 2 * j) 3 1) (357 + 2 * j) 2 z_220) (357 + 2 * j) 2).toInt = (z_220 : Int32).toInt := congrArg Int32.toInt ((up2_at _ _ _ _))
                      have hw_227 : ((up2 (up2 im_138 (357 + 2 * j) 3 1) (357 + 2 * j) 2 z_220) (357 + 2 * j) 3).toInt = (1 : Int32).toInt := congrArg Int32.toInt (((up2_k _ _ (by decide)).trans (up2_at _ _ _ _)))
                      have hz1 : (1 : Int32).toInt = 1 := rfl
                      have hz0 : (0 : Int32).toInt = 0 := rfl
                      have hw_228 : ((up2 (up2 im_138 (357 + 2 * j) 3 1) (357 + 2 * j) 2 z_220) (357 + 2 * j) 1).toInt = ((im_138 (357 + 2 * j) 1) : Int32).toInt := congrArg Int32.toInt (((up2_k _ _ (by decide)).trans (up2_k _ _ (by decide))))
                      have hw_229 : ((up2 (up2 im_138 (357 + 2 * j) 3 1) (357 + 2 * j) 2 z_220) (357 + 2 * j) 2).toInt = (z_220 : Int32).toInt := congrArg Int32.toInt ((up2_at _ _ _ _))
                      have hw_230 : ((up2 (up2 im_138 (357 + 2 * j) 3 1) (357 + 2 * j) 2 z_220) (357 + 2 * j) 3).toInt = (1 : Int32).toInt := congrArg Int32.toInt (((up2_k _ _ (by decide)).trans (up2_at _ _ _ _)))
                      have hbn : (j1 (357 + 2 * j) 2).toInt.toNat < n := by omega
                      have hcb : ff (j1 (357 + 2 * j) 2).toInt.toNat = i (357 + 2 * j + 1) (j1 (357 + 2 * j) 2).toInt.toNat := by rw [hff]
                      have hci := congrArg Int32.toInt hcb
                      exact sj_zret hx hb hr hlocks (by decide +kernel) hS (up2 (up2 im_138 (357 + 2 * j) 3 1) (357 + 2 * j) 2 z_220) ⟨hO_221, (fun a ha => ((up2_n _ _ (by omega)).trans ((up2_n _ _ (by omega)).trans ((hfr_139 a (by omega)).trans ((up2_n _ _ (by omega)).trans (hfr_j1 a (by omega))))))), ⟨by decide, by decide⟩, (by refine ⟨?_, ?_, ?_, ?_⟩ <;> omega), (fun hF => by
      have hA := hx2_143 (by omega)
      rcases hA with ⟨c9, g1, g2, g3, g4, g5, g6⟩ | ⟨g1, g2⟩
      · have hcc : ff c9 = i (357 + 2 * j + 1) (im_138 (357 + 2 * j) 2).toInt.toNat := by rw [hff, show (im_138 (357 + 2 * j) 2).toInt.toNat = c9 by omega]
        have hcc2 := congrArg Int32.toInt hcc
        have hR9 := one_par (T := tb x) hB9 hbn (by omega) g5 (by omega) (by omega)
        rw [flp_v (v := (0 : Int32).toInt) hk9 (by omega) (by omega)] at hR9
        exact Or.inl ⟨c9 + 1, by omega, by omega, by omega, by omega, hR9⟩
      · exfalso; omega)⟩ hH (sj_Knil hK) (Nat.le_of_ble_eq_true rfl) (Nat.le_of_ble_eq_true rfl) dX9_one_174
                    · skip
                      have h_231 := s_eq (rfl : r_136.toInt = _) (rfl : u.toInt = _) c_222
                      refine lv_iconst (v := 1) hx hb dX9_one_169 (by decide) ?_
                      refine lv_goto (tgt := 174) hx hb dX9_one_170 (by decide) ?_
                      have hlv_232 : (1 : Int32).toInt = 1 := rfl
                      have hz1 : (1 : Int32).toInt = 1 := rfl
                      have hz0 : (0 : Int32).toInt = 0 := rfl
                      have hw_233 : ((up2 (up2 im_138 (357 + 2 * j) 3 1) (357 + 2 * j) 2 z_220) (357 + 2 * j) 1).toInt = ((im_138 (357 + 2 * j) 1) : Int32).toInt := congrArg Int32.toInt (((up2_k _ _ (by decide)).trans (up2_k _ _ (by decide))))
                      have hw_234 : ((up2 (up2 im_138 (357 + 2 * j) 3 1) (357 + 2 * j) 2 z_220) (357 + 2 * j) 2).toInt = (z_220 : Int32).toInt := congrArg Int32.toInt ((up2_at _ _ _ _))
                      have hw_235 : ((up2 (up2 im_138 (357 + 2 * j) 3 1) (357 + 2 * j) 2 z_220) (357 + 2 * j) 3).toInt = (1 : Int32).toInt := congrArg Int32.toInt (((up2_k _ _ (by decide)).trans (up2_at _ _ _ _)))
                      have hz1 : (1 : Int32).toInt = 1 := rfl
                      have hz0 : (0 : Int32).toInt = 0 := rfl
                      have hw_236 : ((up2 (up2 im_138 (357 + 2 * j) 3 1) (357 + 2 * j) 2 z_220) (357 + 2 * j) 1).toInt = ((im_138 (357 + 2 * j) 1) : Int32).toInt := congrArg Int32.toInt (((up2_k _ _ (by decide)).trans (up2_k _ _ (by decide))))
                      have hw_237 : ((up2 (up2 im_138 (357 + 2 * j) 3 1) (357 + 2 * j) 2 z_220) (357 + 2 * j) 2).toInt = (z_220 : Int32).toInt := congrArg Int32.toInt ((up2_at _ _ _ _))
                      have hw_238 : ((up2 (up2 im_138 (357 + 2 * j) 3 1) (357 + 2 * j) 2 z_220) (357 + 2 * j) 3).toInt = (1 : Int32).toInt := congrArg Int32.toInt (((up2_k _ _ (by decide)).trans (up2_at _ _ _ _)))
                      have hbn : (j1 (357 + 2 * j) 2).toInt.toNat < n := by omega
                      have hcb : ff (j1 (357 + 2 * j) 2).toInt.toNat = i (357 + 2 * j + 1) (j1 (357 + 2 * j) 2).toInt.toNat := by rw [hff]
                      have hci := congrArg Int32.toInt hcb
                      exact sj_zret hx hb hr hlocks (by decide +kernel) hS (up2 (up2 im_138 (357 + 2 * j) 3 1) (357 + 2 * j) 2 z_220) ⟨hO_221, (fun a ha => ((up2_n _ _ (by omega)).trans ((up2_n _ _ (by omega)).trans ((hfr_139 a (by omega)).trans ((up2_n _ _ (by omega)).trans (hfr_j1 a (by omega))))))), ⟨by decide, by decide⟩, (by refine ⟨?_, ?_, ?_, ?_⟩ <;> omega), (fun hF => by
      have hA := hx2_143 (by omega)
      rcases hA with ⟨c9, g1, g2, g3, g4, g5, g6⟩ | ⟨g1, g2⟩
      · have hcc : ff c9 = i (357 + 2 * j + 1) (im_138 (357 + 2 * j) 2).toInt.toNat := by rw [hff, show (im_138 (357 + 2 * j) 2).toInt.toNat = c9 by omega]
        have hcc2 := congrArg Int32.toInt hcc
        have hR9 := one_par (T := tb x) hB9 hbn (by omega) g5 (by omega) (by omega)
        rw [flp_v (v := (1 : Int32).toInt) hk9 (by omega) (by omega)] at hR9
        exact Or.inl ⟨c9 + 1, by omega, by omega, by omega, by omega, hR9⟩
      · exfalso; omega)⟩ hH (sj_Knil hK) (Nat.le_of_ble_eq_true rfl) (Nat.le_of_ble_eq_true rfl) dX9_one_174
          · skip
            have h_239 := s_nlt (rfl : y.toInt = _) (show (40 : Int32).toInt = 40 from rfl) c_18
            refine lv_aload_n hx hb dX9_one_67 rfl (lv_at hl 1 rfl) ?_
            refine lv_iconst (v := 0) hx hb dX9_one_68 (by decide) ?_
            have hO_240 := okp hO_j1 (n := (357 + 2 * j)) (k := 3) (v := 0) (by rw [bx_tag hj 3]; exact (show (0 : Int) ≤ (0 : Int32).toInt ∧ (0 : Int32).toInt ≤ 1 from ⟨by decide, by decide⟩))
            refine h_puti (ty := .boolean) (ci := 9) (C := RX9) (F := TX9) (N := 4) hx hb hts in9 tyX9 tyX9_ok nmX9 hown hK hH hS (lt_nK (by omega)) (kd_tag hj) (by decide) rfl 3 (by decide) wd2 (fun _ h9 => h9) rfl (by decide +kernel) (by decide +kernel) (by decide +kernel) (by decide) rfl dX9_one_69 (fun H locs hH hS => ?_)
            refine lv_iconst (v := 0) hx hb dX9_one_72 (by decide) ?_
            have hlv_241 : (0 : Int32).toInt = 0 := rfl
            have hz1 : (1 : Int32).toInt = 1 := rfl
            have hz0 : (0 : Int32).toInt = 0 := rfl
            have hw_242 : ((up2 j1 (357 + 2 * j) 3 0) (357 + 2 * j) 1).toInt = ((j1 (357 + 2 * j) 1) : Int32).toInt := congrArg Int32.toInt ((up2_k _ _ (by decide)))
            have hw_243 : ((up2 j1 (357 + 2 * j) 3 0) (357 + 2 * j) 2).toInt = ((j1 (357 + 2 * j) 2) : Int32).toInt := congrArg Int32.toInt ((up2_k _ _ (by decide)))
            have hw_244 : ((up2 j1 (357 + 2 * j) 3 0) (357 + 2 * j) 3).toInt = (0 : Int32).toInt := congrArg Int32.toInt ((up2_at _ _ _ _))
            have hz1 : (1 : Int32).toInt = 1 := rfl
            have hz0 : (0 : Int32).toInt = 0 := rfl
            have hw_245 : ((up2 j1 (357 + 2 * j) 3 0) (357 + 2 * j) 1).toInt = ((j1 (357 + 2 * j) 1) : Int32).toInt := congrArg Int32.toInt ((up2_k _ _ (by decide)))
            have hw_246 : ((up2 j1 (357 + 2 * j) 3 0) (357 + 2 * j) 2).toInt = ((j1 (357 + 2 * j) 2) : Int32).toInt := congrArg Int32.toInt ((up2_k _ _ (by decide)))
            have hw_247 : ((up2 j1 (357 + 2 * j) 3 0) (357 + 2 * j) 3).toInt = (0 : Int32).toInt := congrArg Int32.toInt ((up2_at _ _ _ _))
            exact sj_zret hx hb hr hlocks (by decide +kernel) hS (up2 j1 (357 + 2 * j) 3 0) ⟨hO_240, (fun a ha => ((up2_n _ _ (by omega)).trans (hfr_j1 a (by omega)))), ⟨by decide, by decide⟩, (by refine ⟨?_, ?_, ?_, ?_⟩ <;> omega), (fun hF => by first | exact Or.inr ⟨by omega, one_end hB9 (by omega)⟩ | (exfalso; have := hdp hF; omega))⟩ hH (sj_Knil hK) (Nat.le_of_ble_eq_true rfl) (Nat.le_of_ble_eq_true rfl) dX9_one_73
      · skip
        have h_248 := s_nle (rfl : (j1 (357 + 2 * j) 1).toInt = _) (rfl : (j1 (357 + 2 * j) 2).toInt = _) c_5
        refine lv_aload_n hx hb dX9_one_13 rfl (lv_at hl 1 rfl) ?_
        refine h_getr (ci := 9) (C := RX9) (F := TX9) (N := 4) hx hb hts in9 hown hK hH (lt_nK (by omega)) (kd_tag hj) (by decide) rfl 0 (by decide) wd3 (fun _ h9 => h9) (by decide) rfl (t := (357 + 2 * j + 1)) ((hR _ _ (by unfold dyn; simp <;> omega)).trans (sr_tag (by omega))) (lt_nK (by omega)) dX9_one_14 ?_
        refine lv_aload_n hx hb dX9_one_17 rfl (lv_at hl 1 rfl) ?_
        refine h_geti (ci := 9) (C := RX9) (F := TX9) (N := 4) hx hb hts in9 hown hK hH (lt_nK (by omega)) (kd_tag hj) (by decide) rfl 2 (by decide) wd0 (fun _ h9 => h9) (by decide) rfl dX9_one_18 ?_
        have bx_249 : (0 : Int) ≤ (i (357 + 2 * j + 1) ((j1 (357 + 2 * j) 2).toInt).toNat).toInt ∧ (i (357 + 2 * j + 1) ((j1 (357 + 2 * j) 2).toInt).toNat).toInt ≤ 65535 := by have h9 := hO (357 + 2 * j + 1) ((j1 (357 + 2 * j) 2).toInt).toNat; rw [bx_taga hj ((j1 (357 + 2 * j) 2).toInt).toNat] at h9; exact h9
        refine h_cald hx hb hK hH (lt_nK (by omega)) (kd_taga hj) (s_vin (N := 40) (rfl : (j1 (357 + 2 * j) 2).toInt = _) (ln_taga hj) (by omega) (by omega)) dX9_one_21 ?_
        have ek_250 : (j1 (357 + 2 * j) 2).toNatClampNeg = ((j1 (357 + 2 * j) 2).toInt).toNat := (s_cl (show (j1 (357 + 2 * j) 2).toInt = (j1 (357 + 2 * j) 2).toInt by omega))
        refine sj_i (y := (i (357 + 2 * j + 1) ((j1 (357 + 2 * j) 2).toInt).toNat)) (by rw [ek_250]; exact (congrFun (hfr_j1 (357 + 2 * j + 1) (by omega)) _)) ?_
        refine lv_bipush (v := 33) hx hb dX9_one_22 (by decide) ?_
        refine lv_icmp_ne (tgt := 50) hx hb dX9_one_24 (by decide) (fun c_251 => ?_) (fun c_251 => ?_)
        · skip
          have h_252 := s_ne (rfl : (i (357 + 2 * j + 1) ((j1 (357 + 2 * j) 2).toInt).toNat).toInt = _) (show (33 : Int32).toInt = 33 from rfl) c_251
          refine lv_aload_n hx hb dX9_one_50 rfl (lv_at hl 1 rfl) ?_
          refine h_geti (ci := 9) (C := RX9) (F := TX9) (N := 4) hx hb hts in9 hown hK hH (lt_nK (by omega)) (kd_tag hj) (by decide) rfl 2 (by decide) wd0 (fun _ h9 => h9) (by decide) rfl dX9_one_51 ?_
          refine lv_aload_n hx hb dX9_one_54 rfl (lv_at hl 1 rfl) ?_
          refine h_geti (ci := 9) (C := RX9) (F := TX9) (N := 4) hx hb hts in9 hown hK hH (lt_nK (by omega)) (kd_tag hj) (by decide) rfl 1 (by decide) wd1 (fun _ h9 => h9) (by decide) rfl dX9_one_55 ?_
          refine lv_icmp_ge (tgt := 67) hx hb dX9_one_58 (by decide) (fun c_253 => ?_) (fun c_253 => ?_)
          · skip
            have h_254 := s_le (rfl : (j1 (357 + 2 * j) 1).toInt = _) (rfl : (j1 (357 + 2 * j) 2).toInt = _) c_253
            refine lv_aload_n hx hb dX9_one_67 rfl (lv_at hl 1 rfl) ?_
            refine lv_iconst (v := 0) hx hb dX9_one_68 (by decide) ?_
            have hO_255 := okp hO_j1 (n := (357 + 2 * j)) (k := 3) (v := 0) (by rw [bx_tag hj 3]; exact (show (0 : Int) ≤ (0 : Int32).toInt ∧ (0 : Int32).toInt ≤ 1 from ⟨by decide, by decide⟩))
            refine h_puti (ty := .boolean) (ci := 9) (C := RX9) (F := TX9) (N := 4) hx hb hts in9 tyX9 tyX9_ok nmX9 hown hK hH hS (lt_nK (by omega)) (kd_tag hj) (by decide) rfl 3 (by decide) wd2 (fun _ h9 => h9) rfl (by decide +kernel) (by decide +kernel) (by decide +kernel) (by decide) rfl dX9_one_69 (fun H locs hH hS => ?_)
            refine lv_iconst (v := 0) hx hb dX9_one_72 (by decide) ?_
            have hlv_256 : (0 : Int32).toInt = 0 := rfl
            have hz1 : (1 : Int32).toInt = 1 := rfl
            have hz0 : (0 : Int32).toInt = 0 := rfl
            have hw_257 : ((up2 j1 (357 + 2 * j) 3 0) (357 + 2 * j) 1).toInt = ((j1 (357 + 2 * j) 1) : Int32).toInt := congrArg Int32.toInt ((up2_k _ _ (by decide)))
            have hw_258 : ((up2 j1 (357 + 2 * j) 3 0) (357 + 2 * j) 2).toInt = ((j1 (357 + 2 * j) 2) : Int32).toInt := congrArg Int32.toInt ((up2_k _ _ (by decide)))
            have hw_259 : ((up2 j1 (357 + 2 * j) 3 0) (357 + 2 * j) 3).toInt = (0 : Int32).toInt := congrArg Int32.toInt ((up2_at _ _ _ _))
            have hz1 : (1 : Int32).toInt = 1 := rfl
            have hz0 : (0 : Int32).toInt = 0 := rfl
            have hw_260 : ((up2 j1 (357 + 2 * j) 3 0) (357 + 2 * j) 1).toInt = ((j1 (357 + 2 * j) 1) : Int32).toInt := congrArg Int32.toInt ((up2_k _ _ (by decide)))
            have hw_261 : ((up2 j1 (357 + 2 * j) 3 0) (357 + 2 * j) 2).toInt = ((j1 (357 + 2 * j) 2) : Int32).toInt := congrArg Int32.toInt ((up2_k _ _ (by decide)))
            have hw_262 : ((up2 j1 (357 + 2 * j) 3 0) (357 + 2 * j) 3).toInt = (0 : Int32).toInt := congrArg Int32.toInt ((up2_at _ _ _ _))
            exact sj_zret hx hb hr hlocks (by decide +kernel) hS (up2 j1 (357 + 2 * j) 3 0) ⟨hO_255, (fun a ha => ((up2_n _ _ (by omega)).trans (hfr_j1 a (by omega)))), ⟨by decide, by decide⟩, (by refine ⟨?_, ?_, ?_, ?_⟩ <;> omega), (fun hF => by first | exact Or.inr ⟨by omega, one_end hB9 (by omega)⟩ | (exfalso; have := hdp hF; omega))⟩ hH (sj_Knil hK) (Nat.le_of_ble_eq_true rfl) (Nat.le_of_ble_eq_true rfl) dX9_one_73
          · skip
            have h_263 := s_nle (rfl : (j1 (357 + 2 * j) 1).toInt = _) (rfl : (j1 (357 + 2 * j) 2).toInt = _) c_253
            refine lv_iload_n hx hb dX9_one_61 rfl (lv_at hl 3 rfl) ?_
            refine lv_bipush (v := 40) hx hb dX9_one_62 (by decide) ?_
            refine lv_icmp_lt (tgt := 74) hx hb dX9_one_64 (by decide) (fun c_264 => ?_) (fun c_264 => ?_)
            · skip
              have h_265 := s_lt (rfl : y.toInt = _) (show (40 : Int32).toInt = 40 from rfl) c_264
              refine lv_aload_n hx hb dX9_one_74 rfl (lv_at hl 1 rfl) ?_
              refine h_getr (ci := 9) (C := RX9) (F := TX9) (N := 4) hx hb hts in9 hown hK hH (lt_nK (by omega)) (kd_tag hj) (by decide) rfl 0 (by decide) wd3 (fun _ h9 => h9) (by decide) rfl (t := (357 + 2 * j + 1)) ((hR _ _ (by unfold dyn; simp <;> omega)).trans (sr_tag (by omega))) (lt_nK (by omega)) dX9_one_75 ?_
              refine lv_aload_n hx hb dX9_one_78 rfl (lv_at hl 1 rfl) ?_
              refine h_geti (ci := 9) (C := RX9) (F := TX9) (N := 4) hx hb hts in9 hown hK hH (lt_nK (by omega)) (kd_tag hj) (by decide) rfl 2 (by decide) wd0 (fun _ h9 => h9) (by decide) rfl dX9_one_79 ?_
              refine h_cald hx hb hK hH (lt_nK (by omega)) (kd_taga hj) (s_vin (N := 40) (rfl : (j1 (357 + 2 * j) 2).toInt = _) (ln_taga hj) (by omega) (by omega)) dX9_one_82 ?_
              have ek_266 : (j1 (357 + 2 * j) 2).toNatClampNeg = ((j1 (357 + 2 * j) 2).toInt).toNat := (s_cl (show (j1 (357 + 2 * j) 2).toInt = (j1 (357 + 2 * j) 2).toInt by omega))
              refine sj_i (y := (i (357 + 2 * j + 1) ((j1 (357 + 2 * j) 2).toInt).toNat)) (by rw [ek_266]; exact (congrFun (hfr_j1 (357 + 2 * j + 1) (by omega)) _)) ?_
              refine lv_istore (lv' := [(4, .int (i (357 + 2 * j + 1) ((j1 (357 + 2 * j) 2).toInt).toNat)), (3, .int u), (0, .ref (g (357 + 2 * j))), (1, .int x), (2, .int y)]) hx hb dX9_one_83 hl (by decide) rfl (fun ls hl => ?_)
              refine lv_aload_n hx hb dX9_one_85 rfl (lv_at hl 2 rfl) ?_
              refine lv_dup hx hb dX9_one_86 rfl ?_
              refine h_geti (ci := 9) (C := RX9) (F := TX9) (N := 4) hx hb hts in9 hown hK hH (lt_nK (by omega)) (kd_tag hj) (by decide) rfl 2 (by decide) wd0 (fun _ h9 => h9) (by decide) rfl dX9_one_87 ?_
              refine lv_iconst (v := 1) hx hb dX9_one_90 (by decide) ?_
              refine lv_iadd hx hb dX9_one_91 ?_
              obtain ⟨z_267, ez_267, hz_267⟩ := s_add (rfl : (j1 (357 + 2 * j) 2).toInt = _) (show (1 : Int32).toInt = 1 from rfl) (by omega) (by omega)
              refine sj_i ez_267 ?_
              have hO_268 := okp hO_j1 (n := (357 + 2 * j)) (k := 2) (v := z_267) (by rw [bx_tag hj 2]; exact (show (0 : Int) ≤ (z_267 : Int32).toInt ∧ (z_267 : Int32).toInt ≤ 127 from ⟨by omega, by omega⟩))
              refine h_puti (ty := .int) (ci := 9) (C := RX9) (F := TX9) (N := 4) hx hb hts in9 tyX9 tyX9_ok nmX9 hown hK hH hS (lt_nK (by omega)) (kd_tag hj) (by decide) rfl 2 (by decide) wd0 (fun _ h9 => h9) rfl (by decide +kernel) rfl rfl (by decide) rfl dX9_one_92 (fun H locs hH hS => ?_)
              refine lv_iload hx hb dX9_one_95 (lv_at hl 0 rfl) ?_
              refine lv_bipush (v := 40) hx hb dX9_one_97 (by decide) ?_
              refine lv_icmp_ne (tgt := 175) hx hb dX9_one_99 (by decide) (fun c_269 => ?_) (fun c_269 => ?_)
              · skip
                have h_270 := s_ne (rfl : (i (357 + 2 * j + 1) ((j1 (357 + 2 * j) 2).toInt).toNat).toInt = _) (show (40 : Int32).toInt = 40 from rfl) c_269
                refine lv_aload_n hx hb dX9_one_175 rfl (lv_at hl 2 rfl) ?_
                refine lv_aload_n hx hb dX9_one_176 rfl (lv_at hl 2 rfl) ?_
                have bx_271 : (0 : Int) ≤ (j1 (357 + 2 * j) 3).toInt ∧ (j1 (357 + 2 * j) 3).toInt ≤ 1 := by have h9 := hO_j1 (357 + 2 * j) 3; rw [bx_tag hj 3] at h9; exact h9
                refine h_geti (ci := 9) (C := RX9) (F := TX9) (N := 4) hx hb hts in9 hown hK hH (lt_nK (by omega)) (kd_tag hj) (by decide) rfl 3 (by decide) wd2 (fun _ h9 => h9) (by decide) rfl dX9_one_177 ?_
                refine sj_i (y := (j1 (357 + 2 * j) 3)) (up2_k _ _ (by decide)) ?_
                refine lv_if_eq (tgt := 201) hx hb dX9_one_180 (by decide) (fun c_272 => ?_) (fun c_272 => ?_)
                · skip
                  have h_273 := s_eq (rfl : (j1 (357 + 2 * j) 3).toInt = _) (show (0 : Int32).toInt = 0 from rfl) c_272
                  refine lv_iconst (v := 0) hx hb dX9_one_201 (by decide) ?_
                  have hO_274 := okp hO_268 (n := (357 + 2 * j)) (k := 3) (v := 0) (by rw [bx_tag hj 3]; exact (show (0 : Int) ≤ (0 : Int32).toInt ∧ (0 : Int32).toInt ≤ 1 from ⟨by decide, by decide⟩))
                  refine h_puti (ty := .boolean) (ci := 9) (C := RX9) (F := TX9) (N := 4) hx hb hts in9 tyX9 tyX9_ok nmX9 hown hK hH hS (lt_nK (by omega)) (kd_tag hj) (by decide) rfl 3 (by decide) wd2 (fun _ h9 => h9) rfl (by decide +kernel) (by decide +kernel) (by decide +kernel) (by decide) rfl dX9_one_202 (fun H locs hH hS => ?_)
                  refine lv_aload_n hx hb dX9_one_205 rfl (lv_at hl 2 rfl) ?_
                  refine h_geti (ci := 9) (C := RX9) (F := TX9) (N := 4) hx hb hts in9 hown hK hH (lt_nK (by omega)) (kd_tag hj) (by decide) rfl 3 (by decide) wd2 (fun _ h9 => h9) (by decide) rfl dX9_one_206 ?_
                  refine sj_i (y := 0) (up2_at _ _ _ _) ?_
                  refine lv_if_eq (tgt := 229) hx hb dX9_one_209 (by decide) (fun _ => ?_) (fun h => absurd (by decide) h)
                  refine lv_iconst (v := 0) hx hb dX9_one_229 (by decide) ?_
                  refine lv_istore (lv' := [(5, .int 0), (4, .int (i (357 + 2 * j + 1) ((j1 (357 + 2 * j) 2).toInt).toNat)), (3, .int u), (0, .ref (g (357 + 2 * j))), (1, .int x), (2, .int y)]) hx hb dX9_one_230 hl (by decide) rfl (fun ls hl => ?_)
                  refine lv_iload hx hb dX9_one_232 (lv_at hl 0 rfl) ?_
                  refine lv_iload_n hx hb dX9_one_234 rfl (lv_at hl 2 rfl) ?_
                  refine lv_icmp_ne (tgt := 242) hx hb dX9_one_235 (by decide) (fun c_275 => ?_) (fun c_275 => ?_)
                  · skip
                    have h_276 := s_ne (show (0 : Int32).toInt = 0 from rfl) (rfl : u.toInt = _) c_275
                    refine lv_iconst (v := 0) hx hb dX9_one_242 (by decide) ?_
                    have hlv_277 : (0 : Int32).toInt = 0 := rfl
                    have hz1 : (1 : Int32).toInt = 1 := rfl
                    have hz0 : (0 : Int32).toInt = 0 := rfl
                    have hw_278 : ((up2 (up2 j1 (357 + 2 * j) 2 z_267) (357 + 2 * j) 3 0) (357 + 2 * j) 1).toInt = ((j1 (357 + 2 * j) 1) : Int32).toInt := congrArg Int32.toInt (((up2_k _ _ (by decide)).trans (up2_k _ _ (by decide))))
                    have hw_279 : ((up2 (up2 j1 (357 + 2 * j) 2 z_267) (357 + 2 * j) 3 0) (357 + 2 * j) 2).toInt = (z_267 : Int32).toInt := congrArg Int32.toInt (((up2_k _ _ (by decide)).trans (up2_at _ _ _ _)))
                    have hw_280 : ((up2 (up2 j1 (357 + 2 * j) 2 z_267) (357 + 2 * j) 3 0) (357 + 2 * j) 3).toInt = (0 : Int32).toInt := congrArg Int32.toInt ((up2_at _ _ _ _))
                    have hz1 : (1 : Int32).toInt = 1 := rfl
                    have hz0 : (0 : Int32).toInt = 0 := rfl
                    have hw_281 : ((up2 (up2 j1 (357 + 2 * j) 2 z_267) (357 + 2 * j) 3 0) (357 + 2 * j) 1).toInt = ((j1 (357 + 2 * j) 1) : Int32).toInt := congrArg Int32.toInt (((up2_k _ _ (by decide)).trans (up2_k _ _ (by decide))))
                    have hw_282 : ((up2 (up2 j1 (357 + 2 * j) 2 z_267) (357 + 2 * j) 3 0) (357 + 2 * j) 2).toInt = (z_267 : Int32).toInt := congrArg Int32.toInt (((up2_k _ _ (by decide)).trans (up2_at _ _ _ _)))
                    have hw_283 : ((up2 (up2 j1 (357 + 2 * j) 2 z_267) (357 + 2 * j) 3 0) (357 + 2 * j) 3).toInt = (0 : Int32).toInt := congrArg Int32.toInt ((up2_at _ _ _ _))
                    have hbn : (j1 (357 + 2 * j) 2).toInt.toNat < n := by omega
                    have hcb : ff (j1 (357 + 2 * j) 2).toInt.toNat = i (357 + 2 * j + 1) (j1 (357 + 2 * j) 2).toInt.toNat := by rw [hff]
                    have hci := congrArg Int32.toInt hcb
                    have hnb := hNB _ hbn
                    exact sj_zret hx hb hr hlocks (by decide +kernel) hS (up2 (up2 j1 (357 + 2 * j) 2 z_267) (357 + 2 * j) 3 0) ⟨hO_274, (fun a ha => ((up2_n _ _ (by omega)).trans ((up2_n _ _ (by omega)).trans (hfr_j1 a (by omega))))), ⟨by decide, by decide⟩, (by refine ⟨?_, ?_, ?_, ?_⟩ <;> omega), (fun hF => by first | exact absurd hF (by omega) | exact Or.inr ⟨by omega, one_bad hB9 hbn hnb (by omega) (by omega) (by omega)⟩)⟩ hH (sj_Knil hK) (Nat.le_of_ble_eq_true rfl) (Nat.le_of_ble_eq_true rfl) dX9_one_243
                  · skip
                    have h_284 := s_eq (show (0 : Int32).toInt = 0 from rfl) (rfl : u.toInt = _) c_275
                    refine lv_iconst (v := 1) hx hb dX9_one_238 (by decide) ?_
                    refine lv_goto (tgt := 243) hx hb dX9_one_239 (by decide) ?_
                    have hlv_285 : (1 : Int32).toInt = 1 := rfl
                    have hz1 : (1 : Int32).toInt = 1 := rfl
                    have hz0 : (0 : Int32).toInt = 0 := rfl
                    have hw_286 : ((up2 (up2 j1 (357 + 2 * j) 2 z_267) (357 + 2 * j) 3 0) (357 + 2 * j) 1).toInt = ((j1 (357 + 2 * j) 1) : Int32).toInt := congrArg Int32.toInt (((up2_k _ _ (by decide)).trans (up2_k _ _ (by decide))))
                    have hw_287 : ((up2 (up2 j1 (357 + 2 * j) 2 z_267) (357 + 2 * j) 3 0) (357 + 2 * j) 2).toInt = (z_267 : Int32).toInt := congrArg Int32.toInt (((up2_k _ _ (by decide)).trans (up2_at _ _ _ _)))
                    have hw_288 : ((up2 (up2 j1 (357 + 2 * j) 2 z_267) (357 + 2 * j) 3 0) (357 + 2 * j) 3).toInt = (0 : Int32).toInt := congrArg Int32.toInt ((up2_at _ _ _ _))
                    have hz1 : (1 : Int32).toInt = 1 := rfl
                    have hz0 : (0 : Int32).toInt = 0 := rfl
                    have hw_289 : ((up2 (up2 j1 (357 + 2 * j) 2 z_267) (357 + 2 * j) 3 0) (357 + 2 * j) 1).toInt = ((j1 (357 + 2 * j) 1) : Int32).toInt := congrArg Int32.toInt (((up2_k _ _ (by decide)).trans (up2_k _ _ (by decide))))
                    have hw_290 : ((up2 (up2 j1 (357 + 2 * j) 2 z_267) (357 + 2 * j) 3 0) (357 + 2 * j) 2).toInt = (z_267 : Int32).toInt := congrArg Int32.toInt (((up2_k _ _ (by decide)).trans (up2_at _ _ _ _)))
                    have hw_291 : ((up2 (up2 j1 (357 + 2 * j) 2 z_267) (357 + 2 * j) 3 0) (357 + 2 * j) 3).toInt = (0 : Int32).toInt := congrArg Int32.toInt ((up2_at _ _ _ _))
                    have hbn : (j1 (357 + 2 * j) 2).toInt.toNat < n := by omega
                    have hcb : ff (j1 (357 + 2 * j) 2).toInt.toNat = i (357 + 2 * j + 1) (j1 (357 + 2 * j) 2).toInt.toNat := by rw [hff]
                    have hci := congrArg Int32.toInt hcb
                    have hnb := hNB _ hbn
                    exact sj_zret hx hb hr hlocks (by decide +kernel) hS (up2 (up2 j1 (357 + 2 * j) 2 z_267) (357 + 2 * j) 3 0) ⟨hO_274, (fun a ha => ((up2_n _ _ (by omega)).trans ((up2_n _ _ (by omega)).trans (hfr_j1 a (by omega))))), ⟨by decide, by decide⟩, (by refine ⟨?_, ?_, ?_, ?_⟩ <;> omega), (fun hF => by first | exact absurd hF (by omega) | exact Or.inr ⟨by omega, one_bad hB9 hbn hnb (by omega) (by omega) (by omega)⟩)⟩ hH (sj_Knil hK) (Nat.le_of_ble_eq_true rfl) (Nat.le_of_ble_eq_true rfl) dX9_one_243
                · skip
                  have h_292 := s_ne (rfl : (j1 (357 + 2 * j) 3).toInt = _) (show (0 : Int32).toInt = 0 from rfl) c_272
                  refine lv_iload hx hb dX9_one_183 (lv_at hl 0 rfl) ?_
                  refine lv_bipush (v := 97) hx hb dX9_one_185 (by decide) ?_
                  refine lv_icmp_lt (tgt := 201) hx hb dX9_one_187 (by decide) (fun c_293 => ?_) (fun c_293 => ?_)
                  · skip
                    have h_294 := s_lt (rfl : (i (357 + 2 * j + 1) ((j1 (357 + 2 * j) 2).toInt).toNat).toInt = _) (show (97 : Int32).toInt = 97 from rfl) c_293
                    refine lv_iconst (v := 0) hx hb dX9_one_201 (by decide) ?_
                    have hO_295 := okp hO_268 (n := (357 + 2 * j)) (k := 3) (v := 0) (by rw [bx_tag hj 3]; exact (show (0 : Int) ≤ (0 : Int32).toInt ∧ (0 : Int32).toInt ≤ 1 from ⟨by decide, by decide⟩))
                    refine h_puti (ty := .boolean) (ci := 9) (C := RX9) (F := TX9) (N := 4) hx hb hts in9 tyX9 tyX9_ok nmX9 hown hK hH hS (lt_nK (by omega)) (kd_tag hj) (by decide) rfl 3 (by decide) wd2 (fun _ h9 => h9) rfl (by decide +kernel) (by decide +kernel) (by decide +kernel) (by decide) rfl dX9_one_202 (fun H locs hH hS => ?_)
                    refine lv_aload_n hx hb dX9_one_205 rfl (lv_at hl 2 rfl) ?_
                    refine h_geti (ci := 9) (C := RX9) (F := TX9) (N := 4) hx hb hts in9 hown hK hH (lt_nK (by omega)) (kd_tag hj) (by decide) rfl 3 (by decide) wd2 (fun _ h9 => h9) (by decide) rfl dX9_one_206 ?_
                    refine sj_i (y := 0) (up2_at _ _ _ _) ?_
                    refine lv_if_eq (tgt := 229) hx hb dX9_one_209 (by decide) (fun _ => ?_) (fun h => absurd (by decide) h)
                    refine lv_iconst (v := 0) hx hb dX9_one_229 (by decide) ?_
                    refine lv_istore (lv' := [(5, .int 0), (4, .int (i (357 + 2 * j + 1) ((j1 (357 + 2 * j) 2).toInt).toNat)), (3, .int u), (0, .ref (g (357 + 2 * j))), (1, .int x), (2, .int y)]) hx hb dX9_one_230 hl (by decide) rfl (fun ls hl => ?_)
                    refine lv_iload hx hb dX9_one_232 (lv_at hl 0 rfl) ?_
                    refine lv_iload_n hx hb dX9_one_234 rfl (lv_at hl 2 rfl) ?_
                    refine lv_icmp_ne (tgt := 242) hx hb dX9_one_235 (by decide) (fun c_296 => ?_) (fun c_296 => ?_)
                    · skip
                      have h_297 := s_ne (show (0 : Int32).toInt = 0 from rfl) (rfl : u.toInt = _) c_296
                      refine lv_iconst (v := 0) hx hb dX9_one_242 (by decide) ?_
                      have hlv_298 : (0 : Int32).toInt = 0 := rfl
                      have hz1 : (1 : Int32).toInt = 1 := rfl
                      have hz0 : (0 : Int32).toInt = 0 := rfl
                      have hw_299 : ((up2 (up2 j1 (357 + 2 * j) 2 z_267) (357 + 2 * j) 3 0) (357 + 2 * j) 1).toInt = ((j1 (357 + 2 * j) 1) : Int32).toInt := congrArg Int32.toInt (((up2_k _ _ (by decide)).trans (up2_k _ _ (by decide))))
                      have hw_300 : ((up2 (up2 j1 (357 + 2 * j) 2 z_267) (357 + 2 * j) 3 0) (357 + 2 * j) 2).toInt = (z_267 : Int32).toInt := congrArg Int32.toInt (((up2_k _ _ (by decide)).trans (up2_at _ _ _ _)))
                      have hw_301 : ((up2 (up2 j1 (357 + 2 * j) 2 z_267) (357 + 2 * j) 3 0) (357 + 2 * j) 3).toInt = (0 : Int32).toInt := congrArg Int32.toInt ((up2_at _ _ _ _))
                      have hz1 : (1 : Int32).toInt = 1 := rfl
                      have hz0 : (0 : Int32).toInt = 0 := rfl
                      have hw_302 : ((up2 (up2 j1 (357 + 2 * j) 2 z_267) (357 + 2 * j) 3 0) (357 + 2 * j) 1).toInt = ((j1 (357 + 2 * j) 1) : Int32).toInt := congrArg Int32.toInt (((up2_k _ _ (by decide)).trans (up2_k _ _ (by decide))))
                      have hw_303 : ((up2 (up2 j1 (357 + 2 * j) 2 z_267) (357 + 2 * j) 3 0) (357 + 2 * j) 2).toInt = (z_267 : Int32).toInt := congrArg Int32.toInt (((up2_k _ _ (by decide)).trans (up2_at _ _ _ _)))
                      have hw_304 : ((up2 (up2 j1 (357 + 2 * j) 2 z_267) (357 + 2 * j) 3 0) (357 + 2 * j) 3).toInt = (0 : Int32).toInt := congrArg Int32.toInt ((up2_at _ _ _ _))
                      have hbn : (j1 (357 + 2 * j) 2).toInt.toNat < n := by omega
                      have hcb : ff (j1 (357 + 2 * j) 2).toInt.toNat = i (357 + 2 * j + 1) (j1 (357 + 2 * j) 2).toInt.toNat := by rw [hff]
                      have hci := congrArg Int32.toInt hcb
                      have hnb := hNB _ hbn
                      exact sj_zret hx hb hr hlocks (by decide +kernel) hS (up2 (up2 j1 (357 + 2 * j) 2 z_267) (357 + 2 * j) 3 0) ⟨hO_295, (fun a ha => ((up2_n _ _ (by omega)).trans ((up2_n _ _ (by omega)).trans (hfr_j1 a (by omega))))), ⟨by decide, by decide⟩, (by refine ⟨?_, ?_, ?_, ?_⟩ <;> omega), (fun hF => by first | exact absurd hF (by omega) | exact Or.inr ⟨by omega, one_bad hB9 hbn hnb (by omega) (by omega) (by omega)⟩)⟩ hH (sj_Knil hK) (Nat.le_of_ble_eq_true rfl) (Nat.le_of_ble_eq_true rfl) dX9_one_243
                    · skip
                      have h_305 := s_eq (show (0 : Int32).toInt = 0 from rfl) (rfl : u.toInt = _) c_296
                      refine lv_iconst (v := 1) hx hb dX9_one_238 (by decide) ?_
                      refine lv_goto (tgt := 243) hx hb dX9_one_239 (by decide) ?_
                      have hlv_306 : (1 : Int32).toInt = 1 := rfl
                      have hz1 : (1 : Int32).toInt = 1 := rfl
                      have hz0 : (0 : Int32).toInt = 0 := rfl
                      have hw_307 : ((up2 (up2 j1 (357 + 2 * j) 2 z_267) (357 + 2 * j) 3 0) (357 + 2 * j) 1).toInt = ((j1 (357 + 2 * j) 1) : Int32).toInt := congrArg Int32.toInt (((up2_k _ _ (by decide)).trans (up2_k _ _ (by decide))))
                      have hw_308 : ((up2 (up2 j1 (357 + 2 * j) 2 z_267) (357 + 2 * j) 3 0) (357 + 2 * j) 2).toInt = (z_267 : Int32).toInt := congrArg Int32.toInt (((up2_k _ _ (by decide)).trans (up2_at _ _ _ _)))
                      have hw_309 : ((up2 (up2 j1 (357 + 2 * j) 2 z_267) (357 + 2 * j) 3 0) (357 + 2 * j) 3).toInt = (0 : Int32).toInt := congrArg Int32.toInt ((up2_at _ _ _ _))
                      have hz1 : (1 : Int32).toInt = 1 := rfl
                      have hz0 : (0 : Int32).toInt = 0 := rfl
                      have hw_310 : ((up2 (up2 j1 (357 + 2 * j) 2 z_267) (357 + 2 * j) 3 0) (357 + 2 * j) 1).toInt = ((j1 (357 + 2 * j) 1) : Int32).toInt := congrArg Int32.toInt (((up2_k _ _ (by decide)).trans (up2_k _ _ (by decide))))
                      have hw_311 : ((up2 (up2 j1 (357 + 2 * j) 2 z_267) (357 + 2 * j) 3 0) (357 + 2 * j) 2).toInt = (z_267 : Int32).toInt := congrArg Int32.toInt (((up2_k _ _ (by decide)).trans (up2_at _ _ _ _)))
                      have hw_312 : ((up2 (up2 j1 (357 + 2 * j) 2 z_267) (357 + 2 * j) 3 0) (357 + 2 * j) 3).toInt = (0 : Int32).toInt := congrArg Int32.toInt ((up2_at _ _ _ _))
                      have hbn : (j1 (357 + 2 * j) 2).toInt.toNat < n := by omega
                      have hcb : ff (j1 (357 + 2 * j) 2).toInt.toNat = i (357 + 2 * j + 1) (j1 (357 + 2 * j) 2).toInt.toNat := by rw [hff]
                      have hci := congrArg Int32.toInt hcb
                      have hnb := hNB _ hbn
                      exact sj_zret hx hb hr hlocks (by decide +kernel) hS (up2 (up2 j1 (357 + 2 * j) 2 z_267) (357 + 2 * j) 3 0) ⟨hO_295, (fun a ha => ((up2_n _ _ (by omega)).trans ((up2_n _ _ (by omega)).trans (hfr_j1 a (by omega))))), ⟨by decide, by decide⟩, (by refine ⟨?_, ?_, ?_, ?_⟩ <;> omega), (fun hF => by first | exact absurd hF (by omega) | exact Or.inr ⟨by omega, one_bad hB9 hbn hnb (by omega) (by omega) (by omega)⟩)⟩ hH (sj_Knil hK) (Nat.le_of_ble_eq_true rfl) (Nat.le_of_ble_eq_true rfl) dX9_one_243
                  · skip
                    have h_313 := s_nlt (rfl : (i (357 + 2 * j + 1) ((j1 (357 + 2 * j) 2).toInt).toNat).toInt = _) (show (97 : Int32).toInt = 97 from rfl) c_293
                    refine lv_iload hx hb dX9_one_190 (lv_at hl 0 rfl) ?_
                    refine lv_bipush (v := 112) hx hb dX9_one_192 (by decide) ?_
                    refine lv_icmp_gt (tgt := 201) hx hb dX9_one_194 (by decide) (fun c_314 => ?_) (fun c_314 => ?_)
                    · skip
                      have h_315 := s_lt (show (112 : Int32).toInt = 112 from rfl) (rfl : (i (357 + 2 * j + 1) ((j1 (357 + 2 * j) 2).toInt).toNat).toInt = _) c_314
                      refine lv_iconst (v := 0) hx hb dX9_one_201 (by decide) ?_
                      have hO_316 := okp hO_268 (n := (357 + 2 * j)) (k := 3) (v := 0) (by rw [bx_tag hj 3]; exact (show (0 : Int) ≤ (0 : Int32).toInt ∧ (0 : Int32).toInt ≤ 1 from ⟨by decide, by decide⟩))
                      refine h_puti (ty := .boolean) (ci := 9) (C := RX9) (F := TX9) (N := 4) hx hb hts in9 tyX9 tyX9_ok nmX9 hown hK hH hS (lt_nK (by omega)) (kd_tag hj) (by decide) rfl 3 (by decide) wd2 (fun _ h9 => h9) rfl (by decide +kernel) (by decide +kernel) (by decide +kernel) (by decide) rfl dX9_one_202 (fun H locs hH hS => ?_)
                      refine lv_aload_n hx hb dX9_one_205 rfl (lv_at hl 2 rfl) ?_
                      refine h_geti (ci := 9) (C := RX9) (F := TX9) (N := 4) hx hb hts in9 hown hK hH (lt_nK (by omega)) (kd_tag hj) (by decide) rfl 3 (by decide) wd2 (fun _ h9 => h9) (by decide) rfl dX9_one_206 ?_
                      refine sj_i (y := 0) (up2_at _ _ _ _) ?_
                      refine lv_if_eq (tgt := 229) hx hb dX9_one_209 (by decide) (fun _ => ?_) (fun h => absurd (by decide) h)
                      refine lv_iconst (v := 0) hx hb dX9_one_229 (by decide) ?_
                      refine lv_istore (lv' := [(5, .int 0), (4, .int (i (357 + 2 * j + 1) ((j1 (357 + 2 * j) 2).toInt).toNat)), (3, .int u), (0, .ref (g (357 + 2 * j))), (1, .int x), (2, .int y)]) hx hb dX9_one_230 hl (by decide) rfl (fun ls hl => ?_)
                      refine lv_iload hx hb dX9_one_232 (lv_at hl 0 rfl) ?_
                      refine lv_iload_n hx hb dX9_one_234 rfl (lv_at hl 2 rfl) ?_
                      refine lv_icmp_ne (tgt := 242) hx hb dX9_one_235 (by decide) (fun c_317 => ?_) (fun c_317 => ?_)
                      · skip
                        have h_318 := s_ne (show (0 : Int32).toInt = 0 from rfl) (rfl : u.toInt = _) c_317
                        refine lv_iconst (v := 0) hx hb dX9_one_242 (by decide) ?_
                        have hlv_319 : (0 : Int32).toInt = 0 := rfl
                        have hz1 : (1 : Int32).toInt = 1 := rfl
                        have hz0 : (0 : Int32).toInt = 0 := rfl
                        have hw_320 : ((up2 (up2 j1 (357 + 2 * j) 2 z_267) (357 + 2 * j) 3 0) (357 + 2 * j) 1).toInt = ((j1 (357 + 2 * j) 1) : Int32).toInt := congrArg Int32.toInt (((up2_k _ _ (by decide)).trans (up2_k _ _ (by decide))))
                        have hw_321 : ((up2 (up2 j1 (357 + 2 * j) 2 z_267) (357 + 2 * j) 3 0) (357 + 2 * j) 2).toInt = (z_267 : Int32).toInt := congrArg Int32.toInt (((up2_k _ _ (by decide)).trans (up2_at _ _ _ _)))
                        have hw_322 : ((up2 (up2 j1 (357 + 2 * j) 2 z_267) (357 + 2 * j) 3 0) (357 + 2 * j) 3).toInt = (0 : Int32).toInt := congrArg Int32.toInt ((up2_at _ _ _ _))
                        have hz1 : (1 : Int32).toInt = 1 := rfl
                        have hz0 : (0 : Int32).toInt = 0 := rfl
                        have hw_323 : ((up2 (up2 j1 (357 + 2 * j) 2 z_267) (357 + 2 * j) 3 0) (357 + 2 * j) 1).toInt = ((j1 (357 + 2 * j) 1) : Int32).toInt := congrArg Int32.toInt (((up2_k _ _ (by decide)).trans (up2_k _ _ (by decide))))
                        have hw_324 : ((up2 (up2 j1 (357 + 2 * j) 2 z_267) (357 + 2 * j) 3 0) (357 + 2 * j) 2).toInt = (z_267 : Int32).toInt := congrArg Int32.toInt (((up2_k _ _ (by decide)).trans (up2_at _ _ _ _)))
                        have hw_325 : ((up2 (up2 j1 (357 + 2 * j) 2 z_267) (357 + 2 * j) 3 0) (357 + 2 * j) 3).toInt = (0 : Int32).toInt := congrArg Int32.toInt ((up2_at _ _ _ _))
                        have hbn : (j1 (357 + 2 * j) 2).toInt.toNat < n := by omega
                        have hcb : ff (j1 (357 + 2 * j) 2).toInt.toNat = i (357 + 2 * j + 1) (j1 (357 + 2 * j) 2).toInt.toNat := by rw [hff]
                        have hci := congrArg Int32.toInt hcb
                        have hnb := hNB _ hbn
                        exact sj_zret hx hb hr hlocks (by decide +kernel) hS (up2 (up2 j1 (357 + 2 * j) 2 z_267) (357 + 2 * j) 3 0) ⟨hO_316, (fun a ha => ((up2_n _ _ (by omega)).trans ((up2_n _ _ (by omega)).trans (hfr_j1 a (by omega))))), ⟨by decide, by decide⟩, (by refine ⟨?_, ?_, ?_, ?_⟩ <;> omega), (fun hF => by first | exact absurd hF (by omega) | exact Or.inr ⟨by omega, one_bad hB9 hbn hnb (by omega) (by omega) (by omega)⟩)⟩ hH (sj_Knil hK) (Nat.le_of_ble_eq_true rfl) (Nat.le_of_ble_eq_true rfl) dX9_one_243
                      · skip
                        have h_326 := s_eq (show (0 : Int32).toInt = 0 from rfl) (rfl : u.toInt = _) c_317
                        refine lv_iconst (v := 1) hx hb dX9_one_238 (by decide) ?_
                        refine lv_goto (tgt := 243) hx hb dX9_one_239 (by decide) ?_
                        have hlv_327 : (1 : Int32).toInt = 1 := rfl
                        have hz1 : (1 : Int32).toInt = 1 := rfl
                        have hz0 : (0 : Int32).toInt = 0 := rfl
                        have hw_328 : ((up2 (up2 j1 (357 + 2 * j) 2 z_267) (357 + 2 * j) 3 0) (357 + 2 * j) 1).toInt = ((j1 (357 + 2 * j) 1) : Int32).toInt := congrArg Int32.toInt (((up2_k _ _ (by decide)).trans (up2_k _ _ (by decide))))
                        have hw_329 : ((up2 (up2 j1 (357 + 2 * j) 2 z_267) (357 + 2 * j) 3 0) (357 + 2 * j) 2).toInt = (z_267 : Int32).toInt := congrArg Int32.toInt (((up2_k _ _ (by decide)).trans (up2_at _ _ _ _)))
                        have hw_330 : ((up2 (up2 j1 (357 + 2 * j) 2 z_267) (357 + 2 * j) 3 0) (357 + 2 * j) 3).toInt = (0 : Int32).toInt := congrArg Int32.toInt ((up2_at _ _ _ _))
                        have hz1 : (1 : Int32).toInt = 1 := rfl
                        have hz0 : (0 : Int32).toInt = 0 := rfl
                        have hw_331 : ((up2 (up2 j1 (357 + 2 * j) 2 z_267) (357 + 2 * j) 3 0) (357 + 2 * j) 1).toInt = ((j1 (357 + 2 * j) 1) : Int32).toInt := congrArg Int32.toInt (((up2_k _ _ (by decide)).trans (up2_k _ _ (by decide))))
                        have hw_332 : ((up2 (up2 j1 (357 + 2 * j) 2 z_267) (357 + 2 * j) 3 0) (357 + 2 * j) 2).toInt = (z_267 : Int32).toInt := congrArg Int32.toInt (((up2_k _ _ (by decide)).trans (up2_at _ _ _ _)))
                        have hw_333 : ((up2 (up2 j1 (357 + 2 * j) 2 z_267) (357 + 2 * j) 3 0) (357 + 2 * j) 3).toInt = (0 : Int32).toInt := congrArg Int32.toInt ((up2_at _ _ _ _))
                        have hbn : (j1 (357 + 2 * j) 2).toInt.toNat < n := by omega
                        have hcb : ff (j1 (357 + 2 * j) 2).toInt.toNat = i (357 + 2 * j + 1) (j1 (357 + 2 * j) 2).toInt.toNat := by rw [hff]
                        have hci := congrArg Int32.toInt hcb
                        have hnb := hNB _ hbn
                        exact sj_zret hx hb hr hlocks (by decide +kernel) hS (up2 (up2 j1 (357 + 2 * j) 2 z_267) (357 + 2 * j) 3 0) ⟨hO_316, (fun a ha => ((up2_n _ _ (by omega)).trans ((up2_n _ _ (by omega)).trans (hfr_j1 a (by omega))))), ⟨by decide, by decide⟩, (by refine ⟨?_, ?_, ?_, ?_⟩ <;> omega), (fun hF => by first | exact absurd hF (by omega) | exact Or.inr ⟨by omega, one_bad hB9 hbn hnb (by omega) (by omega) (by omega)⟩)⟩ hH (sj_Knil hK) (Nat.le_of_ble_eq_true rfl) (Nat.le_of_ble_eq_true rfl) dX9_one_243
                    · skip
                      have h_334 := s_nlt (show (112 : Int32).toInt = 112 from rfl) (rfl : (i (357 + 2 * j + 1) ((j1 (357 + 2 * j) 2).toInt).toNat).toInt = _) c_314
                      refine lv_iconst (v := 1) hx hb dX9_one_197 (by decide) ?_
                      refine lv_goto (tgt := 202) hx hb dX9_one_198 (by decide) ?_
                      have hO_335 := okp hO_268 (n := (357 + 2 * j)) (k := 3) (v := 1) (by rw [bx_tag hj 3]; exact (show (0 : Int) ≤ (1 : Int32).toInt ∧ (1 : Int32).toInt ≤ 1 from ⟨by decide, by decide⟩))
                      refine h_puti (ty := .boolean) (ci := 9) (C := RX9) (F := TX9) (N := 4) hx hb hts in9 tyX9 tyX9_ok nmX9 hown hK hH hS (lt_nK (by omega)) (kd_tag hj) (by decide) rfl 3 (by decide) wd2 (fun _ h9 => h9) rfl (by decide +kernel) (by decide +kernel) (by decide +kernel) (by decide) rfl dX9_one_202 (fun H locs hH hS => ?_)
                      refine lv_aload_n hx hb dX9_one_205 rfl (lv_at hl 2 rfl) ?_
                      refine h_geti (ci := 9) (C := RX9) (F := TX9) (N := 4) hx hb hts in9 hown hK hH (lt_nK (by omega)) (kd_tag hj) (by decide) rfl 3 (by decide) wd2 (fun _ h9 => h9) (by decide) rfl dX9_one_206 ?_
                      refine sj_i (y := 1) (up2_at _ _ _ _) ?_
                      refine lv_if_eq (tgt := 229) hx hb dX9_one_209 (by decide) (fun h => absurd h (by decide)) (fun _ => ?_)
                      refine lv_iload_n hx hb dX9_one_212 rfl (lv_at hl 3 rfl) ?_
                      refine lv_iload hx hb dX9_one_213 (lv_at hl 0 rfl) ?_
                      refine lv_bipush (v := 97) hx hb dX9_one_215 (by decide) ?_
                      refine lv_isub hx hb dX9_one_217 ?_
                      obtain ⟨z_336, ez_336, hz_336⟩ := s_sub (rfl : (i (357 + 2 * j + 1) ((j1 (357 + 2 * j) 2).toInt).toNat).toInt = _) (show (97 : Int32).toInt = 97 from rfl) (by omega) (by omega)
                      refine sj_i ez_336 ?_
                      refine lv_ishr hx hb dX9_one_218 ?_
                      refine lv_topi (fun z_337 ez_337 => ?_)
                      refine lv_iconst (v := 1) hx hb dX9_one_219 (by decide) ?_
                      refine lv_iand hx hb dX9_one_220 ?_
                      refine lv_topi (fun z_338 ez_338 => ?_)
                      have hz_338 := s_and (k := 1) ez_338 (by decide +kernel)
                      refine lv_iconst (v := 1) hx hb dX9_one_221 (by decide) ?_
                      refine lv_icmp_ne (tgt := 229) hx hb dX9_one_222 (by decide) (fun c_339 => ?_) (fun c_339 => ?_)
                      · skip
                        have h_340 := s_ne (rfl : z_338.toInt = _) (show (1 : Int32).toInt = 1 from rfl) c_339
                        refine lv_iconst (v := 0) hx hb dX9_one_229 (by decide) ?_
                        refine lv_istore (lv' := [(5, .int 0), (4, .int (i (357 + 2 * j + 1) ((j1 (357 + 2 * j) 2).toInt).toNat)), (3, .int u), (0, .ref (g (357 + 2 * j))), (1, .int x), (2, .int y)]) hx hb dX9_one_230 hl (by decide) rfl (fun ls hl => ?_)
                        refine lv_iload hx hb dX9_one_232 (lv_at hl 0 rfl) ?_
                        refine lv_iload_n hx hb dX9_one_234 rfl (lv_at hl 2 rfl) ?_
                        refine lv_icmp_ne (tgt := 242) hx hb dX9_one_235 (by decide) (fun c_341 => ?_) (fun c_341 => ?_)
                        · skip
                          have h_342 := s_ne (show (0 : Int32).toInt = 0 from rfl) (rfl : u.toInt = _) c_341
                          refine lv_iconst (v := 0) hx hb dX9_one_242 (by decide) ?_
                          have hlv_343 : (0 : Int32).toInt = 0 := rfl
                          have hz1 : (1 : Int32).toInt = 1 := rfl
                          have hz0 : (0 : Int32).toInt = 0 := rfl
                          have hw_344 : ((up2 (up2 j1 (357 + 2 * j) 2 z_267) (357 + 2 * j) 3 1) (357 + 2 * j) 1).toInt = ((j1 (357 + 2 * j) 1) : Int32).toInt := congrArg Int32.toInt (((up2_k _ _ (by decide)).trans (up2_k _ _ (by decide))))
                          have hw_345 : ((up2 (up2 j1 (357 + 2 * j) 2 z_267) (357 + 2 * j) 3 1) (357 + 2 * j) 2).toInt = (z_267 : Int32).toInt := congrArg Int32.toInt (((up2_k _ _ (by decide)).trans (up2_at _ _ _ _)))
                          have hw_346 : ((up2 (up2 j1 (357 + 2 * j) 2 z_267) (357 + 2 * j) 3 1) (357 + 2 * j) 3).toInt = (1 : Int32).toInt := congrArg Int32.toInt ((up2_at _ _ _ _))
                          have hz1 : (1 : Int32).toInt = 1 := rfl
                          have hz0 : (0 : Int32).toInt = 0 := rfl
                          have hw_347 : ((up2 (up2 j1 (357 + 2 * j) 2 z_267) (357 + 2 * j) 3 1) (357 + 2 * j) 1).toInt = ((j1 (357 + 2 * j) 1) : Int32).toInt := congrArg Int32.toInt (((up2_k _ _ (by decide)).trans (up2_k _ _ (by decide))))
                          have hw_348 : ((up2 (up2 j1 (357 + 2 * j) 2 z_267) (357 + 2 * j) 3 1) (357 + 2 * j) 2).toInt = (z_267 : Int32).toInt := congrArg Int32.toInt (((up2_k _ _ (by decide)).trans (up2_at _ _ _ _)))
                          have hw_349 : ((up2 (up2 j1 (357 + 2 * j) 2 z_267) (357 + 2 * j) 3 1) (357 + 2 * j) 3).toInt = (1 : Int32).toInt := congrArg Int32.toInt ((up2_at _ _ _ _))
                          have hbn : (j1 (357 + 2 * j) 2).toInt.toNat < n := by omega
                          have hcb : ff (j1 (357 + 2 * j) 2).toInt.toNat = i (357 + 2 * j + 1) (j1 (357 + 2 * j) 2).toInt.toNat := by rw [hff]
                          have hci := congrArg Int32.toInt hcb
                          have hnb := hNB _ hbn
                          have hT : tb x (ff (j1 (357 + 2 * j) 2).toInt.toNat).toInt = decide (z_338 = 1) := by rw [hcb]; exact tb_eq ez_336 ez_337 ez_338
                          have hR9 := one_let (T := tb x) hB9 hbn (by omega) (by omega)
                          rw [hT, tb_v (w := (0 : Int32).toInt) (by omega), flp_v (v := (0 : Int32).toInt) hk9 (by omega) (by omega)] at hR9
                          exact sj_zret hx hb hr hlocks (by decide +kernel) hS (up2 (up2 j1 (357 + 2 * j) 2 z_267) (357 + 2 * j) 3 1) ⟨hO_335, (fun a ha => ((up2_n _ _ (by omega)).trans ((up2_n _ _ (by omega)).trans (hfr_j1 a (by omega))))), ⟨by decide, by decide⟩, (by refine ⟨?_, ?_, ?_, ?_⟩ <;> omega), (fun hF => Or.inl ⟨(j1 (357 + 2 * j) 2).toInt.toNat + 1, by omega, by omega, by omega, by omega, hR9⟩)⟩ hH (sj_Knil hK) (Nat.le_of_ble_eq_true rfl) (Nat.le_of_ble_eq_true rfl) dX9_one_243
                        · skip
                          have h_350 := s_eq (show (0 : Int32).toInt = 0 from rfl) (rfl : u.toInt = _) c_341
                          refine lv_iconst (v := 1) hx hb dX9_one_238 (by decide) ?_
                          refine lv_goto (tgt := 243) hx hb dX9_one_239 (by decide) ?_
                          have hlv_351 : (1 : Int32).toInt = 1 := rfl
                          have hz1 : (1 : Int32).toInt = 1 := rfl
                          have hz0 : (0 : Int32).toInt = 0 := rfl
                          have hw_352 : ((up2 (up2 j1 (357 + 2 * j) 2 z_267) (357 + 2 * j) 3 1) (357 + 2 * j) 1).toInt = ((j1 (357 + 2 * j) 1) : Int32).toInt := congrArg Int32.toInt (((up2_k _ _ (by decide)).trans (up2_k _ _ (by decide))))
                          have hw_353 : ((up2 (up2 j1 (357 + 2 * j) 2 z_267) (357 + 2 * j) 3 1) (357 + 2 * j) 2).toInt = (z_267 : Int32).toInt := congrArg Int32.toInt (((up2_k _ _ (by decide)).trans (up2_at _ _ _ _)))
                          have hw_354 : ((up2 (up2 j1 (357 + 2 * j) 2 z_267) (357 + 2 * j) 3 1) (357 + 2 * j) 3).toInt = (1 : Int32).toInt := congrArg Int32.toInt ((up2_at _ _ _ _))
                          have hz1 : (1 : Int32).toInt = 1 := rfl
                          have hz0 : (0 : Int32).toInt = 0 := rfl
                          have hw_355 : ((up2 (up2 j1 (357 + 2 * j) 2 z_267) (357 + 2 * j) 3 1) (357 + 2 * j) 1).toInt = ((j1 (357 + 2 * j) 1) : Int32).toInt := congrArg Int32.toInt (((up2_k _ _ (by decide)).trans (up2_k _ _ (by decide))))
                          have hw_356 : ((up2 (up2 j1 (357 + 2 * j) 2 z_267) (357 + 2 * j) 3 1) (357 + 2 * j) 2).toInt = (z_267 : Int32).toInt := congrArg Int32.toInt (((up2_k _ _ (by decide)).trans (up2_at _ _ _ _)))
                          have hw_357 : ((up2 (up2 j1 (357 + 2 * j) 2 z_267) (357 + 2 * j) 3 1) (357 + 2 * j) 3).toInt = (1 : Int32).toInt := congrArg Int32.toInt ((up2_at _ _ _ _))
                          have hbn : (j1 (357 + 2 * j) 2).toInt.toNat < n := by omega
                          have hcb : ff (j1 (357 + 2 * j) 2).toInt.toNat = i (357 + 2 * j + 1) (j1 (357 + 2 * j) 2).toInt.toNat := by rw [hff]
                          have hci := congrArg Int32.toInt hcb
                          have hnb := hNB _ hbn
                          have hT : tb x (ff (j1 (357 + 2 * j) 2).toInt.toNat).toInt = decide (z_338 = 1) := by rw [hcb]; exact tb_eq ez_336 ez_337 ez_338
                          have hR9 := one_let (T := tb x) hB9 hbn (by omega) (by omega)
                          rw [hT, tb_v (w := (0 : Int32).toInt) (by omega), flp_v (v := (1 : Int32).toInt) hk9 (by omega) (by omega)] at hR9
                          exact sj_zret hx hb hr hlocks (by decide +kernel) hS (up2 (up2 j1 (357 + 2 * j) 2 z_267) (357 + 2 * j) 3 1) ⟨hO_335, (fun a ha => ((up2_n _ _ (by omega)).trans ((up2_n _ _ (by omega)).trans (hfr_j1 a (by omega))))), ⟨by decide, by decide⟩, (by refine ⟨?_, ?_, ?_, ?_⟩ <;> omega), (fun hF => Or.inl ⟨(j1 (357 + 2 * j) 2).toInt.toNat + 1, by omega, by omega, by omega, by omega, hR9⟩)⟩ hH (sj_Knil hK) (Nat.le_of_ble_eq_true rfl) (Nat.le_of_ble_eq_true rfl) dX9_one_243
                      · skip
                        have h_358 := s_eq (rfl : z_338.toInt = _) (show (1 : Int32).toInt = 1 from rfl) c_339
                        refine lv_iconst (v := 1) hx hb dX9_one_225 (by decide) ?_
                        refine lv_goto (tgt := 230) hx hb dX9_one_226 (by decide) ?_
                        refine lv_istore (lv' := [(5, .int 1), (4, .int (i (357 + 2 * j + 1) ((j1 (357 + 2 * j) 2).toInt).toNat)), (3, .int u), (0, .ref (g (357 + 2 * j))), (1, .int x), (2, .int y)]) hx hb dX9_one_230 hl (by decide) rfl (fun ls hl => ?_)
                        refine lv_iload hx hb dX9_one_232 (lv_at hl 0 rfl) ?_
                        refine lv_iload_n hx hb dX9_one_234 rfl (lv_at hl 2 rfl) ?_
                        refine lv_icmp_ne (tgt := 242) hx hb dX9_one_235 (by decide) (fun c_359 => ?_) (fun c_359 => ?_)
                        · skip
                          have h_360 := s_ne (show (1 : Int32).toInt = 1 from rfl) (rfl : u.toInt = _) c_359
                          refine lv_iconst (v := 0) hx hb dX9_one_242 (by decide) ?_
                          have hlv_361 : (0 : Int32).toInt = 0 := rfl
                          have hz1 : (1 : Int32).toInt = 1 := rfl
                          have hz0 : (0 : Int32).toInt = 0 := rfl
                          have hw_362 : ((up2 (up2 j1 (357 + 2 * j) 2 z_267) (357 + 2 * j) 3 1) (357 + 2 * j) 1).toInt = ((j1 (357 + 2 * j) 1) : Int32).toInt := congrArg Int32.toInt (((up2_k _ _ (by decide)).trans (up2_k _ _ (by decide))))
                          have hw_363 : ((up2 (up2 j1 (357 + 2 * j) 2 z_267) (357 + 2 * j) 3 1) (357 + 2 * j) 2).toInt = (z_267 : Int32).toInt := congrArg Int32.toInt (((up2_k _ _ (by decide)).trans (up2_at _ _ _ _)))
                          have hw_364 : ((up2 (up2 j1 (357 + 2 * j) 2 z_267) (357 + 2 * j) 3 1) (357 + 2 * j) 3).toInt = (1 : Int32).toInt := congrArg Int32.toInt ((up2_at _ _ _ _))
                          have hz1 : (1 : Int32).toInt = 1 := rfl
                          have hz0 : (0 : Int32).toInt = 0 := rfl
                          have hw_365 : ((up2 (up2 j1 (357 + 2 * j) 2 z_267) (357 + 2 * j) 3 1) (357 + 2 * j) 1).toInt = ((j1 (357 + 2 * j) 1) : Int32).toInt := congrArg Int32.toInt (((up2_k _ _ (by decide)).trans (up2_k _ _ (by decide))))
                          have hw_366 : ((up2 (up2 j1 (357 + 2 * j) 2 z_267) (357 + 2 * j) 3 1) (357 + 2 * j) 2).toInt = (z_267 : Int32).toInt := congrArg Int32.toInt (((up2_k _ _ (by decide)).trans (up2_at _ _ _ _)))
                          have hw_367 : ((up2 (up2 j1 (357 + 2 * j) 2 z_267) (357 + 2 * j) 3 1) (357 + 2 * j) 3).toInt = (1 : Int32).toInt := congrArg Int32.toInt ((up2_at _ _ _ _))
                          have hbn : (j1 (357 + 2 * j) 2).toInt.toNat < n := by omega
                          have hcb : ff (j1 (357 + 2 * j) 2).toInt.toNat = i (357 + 2 * j + 1) (j1 (357 + 2 * j) 2).toInt.toNat := by rw [hff]
                          have hci := congrArg Int32.toInt hcb
                          have hnb := hNB _ hbn
                          have hT : tb x (ff (j1 (357 + 2 * j) 2).toInt.toNat).toInt = decide (z_338 = 1) := by rw [hcb]; exact tb_eq ez_336 ez_337 ez_338
                          have hR9 := one_let (T := tb x) hB9 hbn (by omega) (by omega)
                          rw [hT, tb_v (w := (1 : Int32).toInt) (by omega), flp_v (v := (0 : Int32).toInt) hk9 (by omega) (by omega)] at hR9
                          exact sj_zret hx hb hr hlocks (by decide +kernel) hS (up2 (up2 j1 (357 + 2 * j) 2 z_267) (357 + 2 * j) 3 1) ⟨hO_335, (fun a ha => ((up2_n _ _ (by omega)).trans ((up2_n _ _ (by omega)).trans (hfr_j1 a (by omega))))), ⟨by decide, by decide⟩, (by refine ⟨?_, ?_, ?_, ?_⟩ <;> omega), (fun hF => Or.inl ⟨(j1 (357 + 2 * j) 2).toInt.toNat + 1, by omega, by omega, by omega, by omega, hR9⟩)⟩ hH (sj_Knil hK) (Nat.le_of_ble_eq_true rfl) (Nat.le_of_ble_eq_true rfl) dX9_one_243
                        · skip
                          have h_368 := s_eq (show (1 : Int32).toInt = 1 from rfl) (rfl : u.toInt = _) c_359
                          refine lv_iconst (v := 1) hx hb dX9_one_238 (by decide) ?_
                          refine lv_goto (tgt := 243) hx hb dX9_one_239 (by decide) ?_
                          have hlv_369 : (1 : Int32).toInt = 1 := rfl
                          have hz1 : (1 : Int32).toInt = 1 := rfl
                          have hz0 : (0 : Int32).toInt = 0 := rfl
                          have hw_370 : ((up2 (up2 j1 (357 + 2 * j) 2 z_267) (357 + 2 * j) 3 1) (357 + 2 * j) 1).toInt = ((j1 (357 + 2 * j) 1) : Int32).toInt := congrArg Int32.toInt (((up2_k _ _ (by decide)).trans (up2_k _ _ (by decide))))
                          have hw_371 : ((up2 (up2 j1 (357 + 2 * j) 2 z_267) (357 + 2 * j) 3 1) (357 + 2 * j) 2).toInt = (z_267 : Int32).toInt := congrArg Int32.toInt (((up2_k _ _ (by decide)).trans (up2_at _ _ _ _)))
                          have hw_372 : ((up2 (up2 j1 (357 + 2 * j) 2 z_267) (357 + 2 * j) 3 1) (357 + 2 * j) 3).toInt = (1 : Int32).toInt := congrArg Int32.toInt ((up2_at _ _ _ _))
                          have hz1 : (1 : Int32).toInt = 1 := rfl
                          have hz0 : (0 : Int32).toInt = 0 := rfl
                          have hw_373 : ((up2 (up2 j1 (357 + 2 * j) 2 z_267) (357 + 2 * j) 3 1) (357 + 2 * j) 1).toInt = ((j1 (357 + 2 * j) 1) : Int32).toInt := congrArg Int32.toInt (((up2_k _ _ (by decide)).trans (up2_k _ _ (by decide))))
                          have hw_374 : ((up2 (up2 j1 (357 + 2 * j) 2 z_267) (357 + 2 * j) 3 1) (357 + 2 * j) 2).toInt = (z_267 : Int32).toInt := congrArg Int32.toInt (((up2_k _ _ (by decide)).trans (up2_at _ _ _ _)))
                          have hw_375 : ((up2 (up2 j1 (357 + 2 * j) 2 z_267) (357 + 2 * j) 3 1) (357 + 2 * j) 3).toInt = (1 : Int32).toInt := congrArg Int32.toInt ((up2_at _ _ _ _))
                          have hbn : (j1 (357 + 2 * j) 2).toInt.toNat < n := by omega
                          have hcb : ff (j1 (357 + 2 * j) 2).toInt.toNat = i (357 + 2 * j + 1) (j1 (357 + 2 * j) 2).toInt.toNat := by rw [hff]
                          have hci := congrArg Int32.toInt hcb
                          have hnb := hNB _ hbn
                          have hT : tb x (ff (j1 (357 + 2 * j) 2).toInt.toNat).toInt = decide (z_338 = 1) := by rw [hcb]; exact tb_eq ez_336 ez_337 ez_338
                          have hR9 := one_let (T := tb x) hB9 hbn (by omega) (by omega)
                          rw [hT, tb_v (w := (1 : Int32).toInt) (by omega), flp_v (v := (1 : Int32).toInt) hk9 (by omega) (by omega)] at hR9
                          exact sj_zret hx hb hr hlocks (by decide +kernel) hS (up2 (up2 j1 (357 + 2 * j) 2 z_267) (357 + 2 * j) 3 1) ⟨hO_335, (fun a ha => ((up2_n _ _ (by omega)).trans ((up2_n _ _ (by omega)).trans (hfr_j1 a (by omega))))), ⟨by decide, by decide⟩, (by refine ⟨?_, ?_, ?_, ?_⟩ <;> omega), (fun hF => Or.inl ⟨(j1 (357 + 2 * j) 2).toInt.toNat + 1, by omega, by omega, by omega, by omega, hR9⟩)⟩ hH (sj_Knil hK) (Nat.le_of_ble_eq_true rfl) (Nat.le_of_ble_eq_true rfl) dX9_one_243
              · skip
                have h_376 := s_eq (rfl : (i (357 + 2 * j + 1) ((j1 (357 + 2 * j) 2).toInt).toNat).toInt = _) (show (40 : Int32).toInt = 40 from rfl) c_269
                refine lv_aload_n hx hb dX9_one_102 rfl (lv_at hl 2 rfl) ?_
                refine lv_iload_n hx hb dX9_one_103 rfl (lv_at hl 3 rfl) ?_
                refine lv_iload_n hx hb dX9_one_104 rfl (lv_at hl 4 rfl) ?_
                refine lv_iconst (v := 1) hx hb dX9_one_105 (by decide) ?_
                refine lv_iadd hx hb dX9_one_106 ?_
                obtain ⟨z_377, ez_377, hz_377⟩ := s_add (rfl : y.toInt = _) (show (1 : Int32).toInt = 1 from rfl) (by omega) (by omega)
                refine sj_i ez_377 ?_
                obtain ⟨m9, em9⟩ : ∃ m9, lv = m9 + 1 := ⟨lv - 1, by omega⟩
                have hz1 : (1 : Int32).toInt = 1 := rfl
                have hz0 : (0 : Int32).toInt = 0 := rfl
                have hw_378 : ((up2 j1 (357 + 2 * j) 2 z_267) (357 + 2 * j) 1).toInt = ((j1 (357 + 2 * j) 1) : Int32).toInt := congrArg Int32.toInt ((up2_k _ _ (by decide)))
                have hw_379 : ((up2 j1 (357 + 2 * j) 2 z_267) (357 + 2 * j) 2).toInt = (z_267 : Int32).toInt := congrArg Int32.toInt ((up2_at _ _ _ _))
                have hw_380 : ((up2 j1 (357 + 2 * j) 2 z_267) (357 + 2 * j) 3).toInt = ((j1 (357 + 2 * j) 3) : Int32).toInt := congrArg Int32.toInt ((up2_k _ _ (by decide)))
                refine x_calli (va_runV (As := [.int x, .int z_377]) (rest := []) ⟨hx, hb, hml, hown, hts⟩ (hrec m9 em9 (up2 j1 (357 + 2 * j) 2 z_267) r L d j ff n ((j1 (357 + 2 * j) 2).toInt.toNat + 1) m9 x z_377 hO_268 hR H.size (by first | omega | decide) (((up2_n _ _ (by omega)).trans (hfr_j1 (357 + 2 * j + 1) (by omega))).trans hff) (by first | omega | decide) (by first | omega | decide) (by first | omega | decide) (by first | omega | decide) (fun hF => by omega) (by first | omega | decide) (by first | omega | decide) hNB rfl) (cwV 2 hts gX9_one_X9_anyOf rfl rfl rfl (by decide +kernel) ⟨(show 3 * m9 + 2 + 1 ≤ 3 * lv by omega), (show 8 + (5 + 11) + (120 * m9 + 80) ≤ 120 * lv by omega)⟩) (x_preV (q := (RX9, TX9, 4)) hH hK (q_obj (lt_nK (by omega)) (kd_tag hj) (by decide)) rfl gxb (gxw hE hS (x_F hH hS hA))) rfl rfl hl.1 rfl (lv_room (Nat.le_of_ble_eq_true rfl)) dX9_one_107 ⟨(Nat.le_of_ble_eq_true rfl), (Nat.le_of_ble_eq_true rfl)⟩) hH hS hA rfl rfl (fun r_381 im_383 H locs hw_382 hH hS => ?_)
                have hH : sj_H D A (hwc g ka im_383 r L d) H := hH
                obtain ⟨hO_385, hfr_384, hr_386, he_387, hx2_388⟩ := hw_382
                have hr_386 : (0 : Int) ≤ r_381.toInt ∧ r_381.toInt ≤ 1 := hr_386
                refine lv_istore (lv' := [(5, .int r_381), (4, .int (i (357 + 2 * j + 1) ((j1 (357 + 2 * j) 2).toInt).toNat)), (3, .int u), (0, .ref (g (357 + 2 * j))), (1, .int x), (2, .int y)]) hx hb dX9_one_110 hl (by decide) rfl (fun ls hl => ?_)
                refine lv_aload_n hx hb dX9_one_112 rfl (lv_at hl 3 rfl) ?_
                refine lv_aload_n hx hb dX9_one_113 rfl (lv_at hl 3 rfl) ?_
                have bx_389 : (0 : Int) ≤ (im_383 (357 + 2 * j) 3).toInt ∧ (im_383 (357 + 2 * j) 3).toInt ≤ 1 := by have h9 := hO_385 (357 + 2 * j) 3; rw [bx_tag hj 3] at h9; exact h9
                refine h_geti (ci := 9) (C := RX9) (F := TX9) (N := 4) hx hb hts in9 hown hK hH (lt_nK (by omega)) (kd_tag hj) (by decide) rfl 3 (by decide) wd2 (fun _ h9 => h9) (by decide) rfl dX9_one_114 ?_
                refine lv_if_eq (tgt := 149) hx hb dX9_one_117 (by decide) (fun c_390 => ?_) (fun c_390 => ?_)
                · skip
                  have h_391 := s_eq (rfl : (im_383 (357 + 2 * j) 3).toInt = _) (show (0 : Int32).toInt = 0 from rfl) c_390
                  refine lv_iconst (v := 0) hx hb dX9_one_149 (by decide) ?_
                  have hO_392 := okp hO_385 (n := (357 + 2 * j)) (k := 3) (v := 0) (by rw [bx_tag hj 3]; exact (show (0 : Int) ≤ (0 : Int32).toInt ∧ (0 : Int32).toInt ≤ 1 from ⟨by decide, by decide⟩))
                  refine h_puti (ty := .boolean) (ci := 9) (C := RX9) (F := TX9) (N := 4) hx hb hts in9 tyX9 tyX9_ok nmX9 hown hK hH hS (lt_nK (by omega)) (kd_tag hj) (by decide) rfl 3 (by decide) wd2 (fun _ h9 => h9) rfl (by decide +kernel) (by decide +kernel) (by decide +kernel) (by decide) rfl dX9_one_150 (fun H locs hH hS => ?_)
                  refine lv_aload_n hx hb dX9_one_153 rfl (lv_at hl 3 rfl) ?_
                  refine lv_dup hx hb dX9_one_154 rfl ?_
                  have bx_393 : (0 : Int) ≤ (im_383 (357 + 2 * j) 2).toInt ∧ (im_383 (357 + 2 * j) 2).toInt ≤ 127 := by have h9 := hO_385 (357 + 2 * j) 2; rw [bx_tag hj 2] at h9; exact h9
                  refine h_geti (ci := 9) (C := RX9) (F := TX9) (N := 4) hx hb hts in9 hown hK hH (lt_nK (by omega)) (kd_tag hj) (by decide) rfl 2 (by decide) wd0 (fun _ h9 => h9) (by decide) rfl dX9_one_155 ?_
                  refine sj_i (y := (im_383 (357 + 2 * j) 2)) (up2_k _ _ (by decide)) ?_
                  refine lv_iconst (v := 1) hx hb dX9_one_158 (by decide) ?_
                  refine lv_iadd hx hb dX9_one_159 ?_
                  obtain ⟨z_394, ez_394, hz_394⟩ := s_add (rfl : (im_383 (357 + 2 * j) 2).toInt = _) (show (1 : Int32).toInt = 1 from rfl) (by omega) (by omega)
                  refine sj_i ez_394 ?_
                  have hO_395 := okp hO_392 (n := (357 + 2 * j)) (k := 2) (v := z_394) (by rw [bx_tag hj 2]; exact (show (0 : Int) ≤ (z_394 : Int32).toInt ∧ (z_394 : Int32).toInt ≤ 127 from ⟨by omega, by omega⟩))
                  refine h_puti (ty := .int) (ci := 9) (C := RX9) (F := TX9) (N := 4) hx hb hts in9 tyX9 tyX9_ok nmX9 hown hK hH hS (lt_nK (by omega)) (kd_tag hj) (by decide) rfl 2 (by decide) wd0 (fun _ h9 => h9) rfl (by decide +kernel) rfl rfl (by decide) rfl dX9_one_160 (fun H locs hH hS => ?_)
                  refine lv_iload hx hb dX9_one_163 (lv_at hl 0 rfl) ?_
                  refine lv_iload_n hx hb dX9_one_165 rfl (lv_at hl 2 rfl) ?_
                  refine lv_icmp_ne (tgt := 173) hx hb dX9_one_166 (by decide) (fun c_396 => ?_) (fun c_396 => ?_)
                  · skip
                    have h_397 := s_ne (rfl : r_381.toInt = _) (rfl : u.toInt = _) c_396
                    refine lv_iconst (v := 0) hx hb dX9_one_173 (by decide) ?_
                    have hlv_398 : (0 : Int32).toInt = 0 := rfl
                    have hz1 : (1 : Int32).toInt = 1 := rfl
                    have hz0 : (0 : Int32).toInt = 0 := rfl
                    have hw_399 : ((up2 (up2 im_383 (357 + 2 * j) 3 0) (357 + 2 * j) 2 z_394) (357 + 2 * j) 1).toInt = ((im_383 (357 + 2 * j) 1) : Int32).toInt := congrArg Int32.toInt (((up2_k _ _ (by decide)).trans (up2_k _ _ (by decide))))
                    have hw_400 : ((up2 (up2 im_383 (357 + 2 * j) 3 0) (357 + 2 * j) 2 z_394) (357 + 2 * j) 2).toInt = (z_394 : Int32).toInt := congrArg Int32.toInt ((up2_at _ _ _ _))
                    have hw_401 : ((up2 (up2 im_383 (357 + 2 * j) 3 0) (357 + 2 * j) 2 z_394) (357 + 2 * j) 3).toInt = (0 : Int32).toInt := congrArg Int32.toInt (((up2_k _ _ (by decide)).trans (up2_at _ _ _ _)))
                    have hz1 : (1 : Int32).toInt = 1 := rfl
                    have hz0 : (0 : Int32).toInt = 0 := rfl
                    have hw_402 : ((up2 (up2 im_383 (357 + 2 * j) 3 0) (357 + 2 * j) 2 z_394) (357 + 2 * j) 1).toInt = ((im_383 (357 + 2 * j) 1) : Int32).toInt := congrArg Int32.toInt (((up2_k _ _ (by decide)).trans (up2_k _ _ (by decide))))
                    have hw_403 : ((up2 (up2 im_383 (357 + 2 * j) 3 0) (357 + 2 * j) 2 z_394) (357 + 2 * j) 2).toInt = (z_394 : Int32).toInt := congrArg Int32.toInt ((up2_at _ _ _ _))
                    have hw_404 : ((up2 (up2 im_383 (357 + 2 * j) 3 0) (357 + 2 * j) 2 z_394) (357 + 2 * j) 3).toInt = (0 : Int32).toInt := congrArg Int32.toInt (((up2_k _ _ (by decide)).trans (up2_at _ _ _ _)))
                    have hbn : (j1 (357 + 2 * j) 2).toInt.toNat < n := by omega
                    have hcb : ff (j1 (357 + 2 * j) 2).toInt.toNat = i (357 + 2 * j + 1) (j1 (357 + 2 * j) 2).toInt.toNat := by rw [hff]
                    have hci := congrArg Int32.toInt hcb
                    exact sj_zret hx hb hr hlocks (by decide +kernel) hS (up2 (up2 im_383 (357 + 2 * j) 3 0) (357 + 2 * j) 2 z_394) ⟨hO_395, (fun a ha => ((up2_n _ _ (by omega)).trans ((up2_n _ _ (by omega)).trans ((hfr_384 a (by omega)).trans ((up2_n _ _ (by omega)).trans (hfr_j1 a (by omega))))))), ⟨by decide, by decide⟩, (by refine ⟨?_, ?_, ?_, ?_⟩ <;> omega), (fun hF => by
      have hA := hx2_388 (by omega)
      refine Or.inr ⟨by omega, ?_⟩
      rcases hA with ⟨c9, g1, g2, g3, g4, g5, g6⟩ | ⟨g1, g2⟩
      · refine one_parY hB9 hbn (by omega) g5 ?_
        by_cases hcn : n ≤ c9
        · exact Or.inl hcn
        · have hcc : ff c9 = i (357 + 2 * j + 1) (im_383 (357 + 2 * j) 2).toInt.toNat := by rw [hff, show (im_383 (357 + 2 * j) 2).toInt.toNat = c9 by omega]
          have hcc2 := congrArg Int32.toInt hcc
          have := hNB c9 (by omega)
          exact Or.inr ⟨by omega, by omega, by omega, by omega⟩
      · exact one_parX hB9 hbn (by omega) g2)⟩ hH (sj_Knil hK) (Nat.le_of_ble_eq_true rfl) (Nat.le_of_ble_eq_true rfl) dX9_one_174
                  · skip
                    have h_405 := s_eq (rfl : r_381.toInt = _) (rfl : u.toInt = _) c_396
                    refine lv_iconst (v := 1) hx hb dX9_one_169 (by decide) ?_
                    refine lv_goto (tgt := 174) hx hb dX9_one_170 (by decide) ?_
                    have hlv_406 : (1 : Int32).toInt = 1 := rfl
                    have hz1 : (1 : Int32).toInt = 1 := rfl
                    have hz0 : (0 : Int32).toInt = 0 := rfl
                    have hw_407 : ((up2 (up2 im_383 (357 + 2 * j) 3 0) (357 + 2 * j) 2 z_394) (357 + 2 * j) 1).toInt = ((im_383 (357 + 2 * j) 1) : Int32).toInt := congrArg Int32.toInt (((up2_k _ _ (by decide)).trans (up2_k _ _ (by decide))))
                    have hw_408 : ((up2 (up2 im_383 (357 + 2 * j) 3 0) (357 + 2 * j) 2 z_394) (357 + 2 * j) 2).toInt = (z_394 : Int32).toInt := congrArg Int32.toInt ((up2_at _ _ _ _))
                    have hw_409 : ((up2 (up2 im_383 (357 + 2 * j) 3 0) (357 + 2 * j) 2 z_394) (357 + 2 * j) 3).toInt = (0 : Int32).toInt := congrArg Int32.toInt (((up2_k _ _ (by decide)).trans (up2_at _ _ _ _)))
                    have hz1 : (1 : Int32).toInt = 1 := rfl
                    have hz0 : (0 : Int32).toInt = 0 := rfl
                    have hw_410 : ((up2 (up2 im_383 (357 + 2 * j) 3 0) (357 + 2 * j) 2 z_394) (357 + 2 * j) 1).toInt = ((im_383 (357 + 2 * j) 1) : Int32).toInt := congrArg Int32.toInt (((up2_k _ _ (by decide)).trans (up2_k _ _ (by decide))))
                    have hw_411 : ((up2 (up2 im_383 (357 + 2 * j) 3 0) (357 + 2 * j) 2 z_394) (357 + 2 * j) 2).toInt = (z_394 : Int32).toInt := congrArg Int32.toInt ((up2_at _ _ _ _))
                    have hw_412 : ((up2 (up2 im_383 (357 + 2 * j) 3 0) (357 + 2 * j) 2 z_394) (357 + 2 * j) 3).toInt = (0 : Int32).toInt := congrArg Int32.toInt (((up2_k _ _ (by decide)).trans (up2_at _ _ _ _)))
                    have hbn : (j1 (357 + 2 * j) 2).toInt.toNat < n := by omega
                    have hcb : ff (j1 (357 + 2 * j) 2).toInt.toNat = i (357 + 2 * j + 1) (j1 (357 + 2 * j) 2).toInt.toNat := by rw [hff]
                    have hci := congrArg Int32.toInt hcb
                    exact sj_zret hx hb hr hlocks (by decide +kernel) hS (up2 (up2 im_383 (357 + 2 * j) 3 0) (357 + 2 * j) 2 z_394) ⟨hO_395, (fun a ha => ((up2_n _ _ (by omega)).trans ((up2_n _ _ (by omega)).trans ((hfr_384 a (by omega)).trans ((up2_n _ _ (by omega)).trans (hfr_j1 a (by omega))))))), ⟨by decide, by decide⟩, (by refine ⟨?_, ?_, ?_, ?_⟩ <;> omega), (fun hF => by
      have hA := hx2_388 (by omega)
      refine Or.inr ⟨by omega, ?_⟩
      rcases hA with ⟨c9, g1, g2, g3, g4, g5, g6⟩ | ⟨g1, g2⟩
      · refine one_parY hB9 hbn (by omega) g5 ?_
        by_cases hcn : n ≤ c9
        · exact Or.inl hcn
        · have hcc : ff c9 = i (357 + 2 * j + 1) (im_383 (357 + 2 * j) 2).toInt.toNat := by rw [hff, show (im_383 (357 + 2 * j) 2).toInt.toNat = c9 by omega]
          have hcc2 := congrArg Int32.toInt hcc
          have := hNB c9 (by omega)
          exact Or.inr ⟨by omega, by omega, by omega, by omega⟩
      · exact one_parX hB9 hbn (by omega) g2)⟩ hH (sj_Knil hK) (Nat.le_of_ble_eq_true rfl) (Nat.le_of_ble_eq_true rfl) dX9_one_174
                · skip
                  have h_413 := s_ne (rfl : (im_383 (357 + 2 * j) 3).toInt = _) (show (0 : Int32).toInt = 0 from rfl) c_390
                  refine lv_aload_n hx hb dX9_one_120 rfl (lv_at hl 3 rfl) ?_
                  have bx_414 : (0 : Int) ≤ (im_383 (357 + 2 * j) 2).toInt ∧ (im_383 (357 + 2 * j) 2).toInt ≤ 127 := by have h9 := hO_385 (357 + 2 * j) 2; rw [bx_tag hj 2] at h9; exact h9
                  refine h_geti (ci := 9) (C := RX9) (F := TX9) (N := 4) hx hb hts in9 hown hK hH (lt_nK (by omega)) (kd_tag hj) (by decide) rfl 2 (by decide) wd0 (fun _ h9 => h9) (by decide) rfl dX9_one_121 ?_
                  refine lv_aload_n hx hb dX9_one_124 rfl (lv_at hl 3 rfl) ?_
                  have bx_415 : (0 : Int) ≤ (im_383 (357 + 2 * j) 1).toInt ∧ (im_383 (357 + 2 * j) 1).toInt ≤ 40 := by have h9 := hO_385 (357 + 2 * j) 1; rw [bx_tag hj 1] at h9; exact h9
                  refine h_geti (ci := 9) (C := RX9) (F := TX9) (N := 4) hx hb hts in9 hown hK hH (lt_nK (by omega)) (kd_tag hj) (by decide) rfl 1 (by decide) wd1 (fun _ h9 => h9) (by decide) rfl dX9_one_125 ?_
                  refine lv_icmp_ge (tgt := 149) hx hb dX9_one_128 (by decide) (fun c_416 => ?_) (fun c_416 => ?_)
                  · skip
                    have h_417 := s_le (rfl : (im_383 (357 + 2 * j) 1).toInt = _) (rfl : (im_383 (357 + 2 * j) 2).toInt = _) c_416
                    refine lv_iconst (v := 0) hx hb dX9_one_149 (by decide) ?_
                    have hO_418 := okp hO_385 (n := (357 + 2 * j)) (k := 3) (v := 0) (by rw [bx_tag hj 3]; exact (show (0 : Int) ≤ (0 : Int32).toInt ∧ (0 : Int32).toInt ≤ 1 from ⟨by decide, by decide⟩))
                    refine h_puti (ty := .boolean) (ci := 9) (C := RX9) (F := TX9) (N := 4) hx hb hts in9 tyX9 tyX9_ok nmX9 hown hK hH hS (lt_nK (by omega)) (kd_tag hj) (by decide) rfl 3 (by decide) wd2 (fun _ h9 => h9) rfl (by decide +kernel) (by decide +kernel) (by decide +kernel) (by decide) rfl dX9_one_150 (fun H locs hH hS => ?_)
                    refine lv_aload_n hx hb dX9_one_153 rfl (lv_at hl 3 rfl) ?_
                    refine lv_dup hx hb dX9_one_154 rfl ?_
                    refine h_geti (ci := 9) (C := RX9) (F := TX9) (N := 4) hx hb hts in9 hown hK hH (lt_nK (by omega)) (kd_tag hj) (by decide) rfl 2 (by decide) wd0 (fun _ h9 => h9) (by decide) rfl dX9_one_155 ?_
                    refine sj_i (y := (im_383 (357 + 2 * j) 2)) (up2_k _ _ (by decide)) ?_
                    refine lv_iconst (v := 1) hx hb dX9_one_158 (by decide) ?_
                    refine lv_iadd hx hb dX9_one_159 ?_
                    obtain ⟨z_419, ez_419, hz_419⟩ := s_add (rfl : (im_383 (357 + 2 * j) 2).toInt = _) (show (1 : Int32).toInt = 1 from rfl) (by omega) (by omega)
                    refine sj_i ez_419 ?_
                    have hO_420 := okp hO_418 (n := (357 + 2 * j)) (k := 2) (v := z_419) (by rw [bx_tag hj 2]; exact (show (0 : Int) ≤ (z_419 : Int32).toInt ∧ (z_419 : Int32).toInt ≤ 127 from ⟨by omega, by omega⟩))
                    refine h_puti (ty := .int) (ci := 9) (C := RX9) (F := TX9) (N := 4) hx hb hts in9 tyX9 tyX9_ok nmX9 hown hK hH hS (lt_nK (by omega)) (kd_tag hj) (by decide) rfl 2 (by decide) wd0 (fun _ h9 => h9) rfl (by decide +kernel) rfl rfl (by decide) rfl dX9_one_160 (fun H locs hH hS => ?_)
                    refine lv_iload hx hb dX9_one_163 (lv_at hl 0 rfl) ?_
                    refine lv_iload_n hx hb dX9_one_165 rfl (lv_at hl 2 rfl) ?_
                    refine lv_icmp_ne (tgt := 173) hx hb dX9_one_166 (by decide) (fun c_421 => ?_) (fun c_421 => ?_)
                    · skip
                      have h_422 := s_ne (rfl : r_381.toInt = _) (rfl : u.toInt = _) c_421
                      refine lv_iconst (v := 0) hx hb dX9_one_173 (by decide) ?_
                      have hlv_423 : (0 : Int32).toInt = 0 := rfl
                      have hz1 : (1 : Int32).toInt = 1 := rfl
                      have hz0 : (0 : Int32).toInt = 0 := rfl
                      have hw_424 : ((up2 (up2 im_383 (357 + 2 * j) 3 0) (357 + 2 * j) 2 z_419) (357 + 2 * j) 1).toInt = ((im_383 (357 + 2 * j) 1) : Int32).toInt := congrArg Int32.toInt (((up2_k _ _ (by decide)).trans (up2_k _ _ (by decide))))
                      have hw_425 : ((up2 (up2 im_383 (357 + 2 * j) 3 0) (357 + 2 * j) 2 z_419) (357 + 2 * j) 2).toInt = (z_419 : Int32).toInt := congrArg Int32.toInt ((up2_at _ _ _ _))
                      have hw_426 : ((up2 (up2 im_383 (357 + 2 * j) 3 0) (357 + 2 * j) 2 z_419) (357 + 2 * j) 3).toInt = (0 : Int32).toInt := congrArg Int32.toInt (((up2_k _ _ (by decide)).trans (up2_at _ _ _ _)))
                      have hz1 : (1 : Int32).toInt = 1 := rfl
                      have hz0 : (0 : Int32).toInt = 0 := rfl
                      have hw_427 : ((up2 (up2 im_383 (357 + 2 * j) 3 0) (357 + 2 * j) 2 z_419) (357 + 2 * j) 1).toInt = ((im_383 (357 + 2 * j) 1) : Int32).toInt := congrArg Int32.toInt (((up2_k _ _ (by decide)).trans (up2_k _ _ (by decide))))
                      have hw_428 : ((up2 (up2 im_383 (357 + 2 * j) 3 0) (357 + 2 * j) 2 z_419) (357 + 2 * j) 2).toInt = (z_419 : Int32).toInt := congrArg Int32.toInt ((up2_at _ _ _ _))
                      have hw_429 : ((up2 (up2 im_383 (357 + 2 * j) 3 0) (357 + 2 * j) 2 z_419) (357 + 2 * j) 3).toInt = (0 : Int32).toInt := congrArg Int32.toInt (((up2_k _ _ (by decide)).trans (up2_at _ _ _ _)))
                      have hbn : (j1 (357 + 2 * j) 2).toInt.toNat < n := by omega
                      have hcb : ff (j1 (357 + 2 * j) 2).toInt.toNat = i (357 + 2 * j + 1) (j1 (357 + 2 * j) 2).toInt.toNat := by rw [hff]
                      have hci := congrArg Int32.toInt hcb
                      exact sj_zret hx hb hr hlocks (by decide +kernel) hS (up2 (up2 im_383 (357 + 2 * j) 3 0) (357 + 2 * j) 2 z_419) ⟨hO_420, (fun a ha => ((up2_n _ _ (by omega)).trans ((up2_n _ _ (by omega)).trans ((hfr_384 a (by omega)).trans ((up2_n _ _ (by omega)).trans (hfr_j1 a (by omega))))))), ⟨by decide, by decide⟩, (by refine ⟨?_, ?_, ?_, ?_⟩ <;> omega), (fun hF => by
      have hA := hx2_388 (by omega)
      refine Or.inr ⟨by omega, ?_⟩
      rcases hA with ⟨c9, g1, g2, g3, g4, g5, g6⟩ | ⟨g1, g2⟩
      · refine one_parY hB9 hbn (by omega) g5 ?_
        by_cases hcn : n ≤ c9
        · exact Or.inl hcn
        · have hcc : ff c9 = i (357 + 2 * j + 1) (im_383 (357 + 2 * j) 2).toInt.toNat := by rw [hff, show (im_383 (357 + 2 * j) 2).toInt.toNat = c9 by omega]
          have hcc2 := congrArg Int32.toInt hcc
          have := hNB c9 (by omega)
          exact Or.inr ⟨by omega, by omega, by omega, by omega⟩
      · exact one_parX hB9 hbn (by omega) g2)⟩ hH (sj_Knil hK) (Nat.le_of_ble_eq_true rfl) (Nat.le_of_ble_eq_true rfl) dX9_one_174
                    · skip
                      have h_430 := s_eq (rfl : r_381.toInt = _) (rfl : u.toInt = _) c_421
                      refine lv_iconst (v := 1) hx hb dX9_one_169 (by decide) ?_
                      refine lv_goto (tgt := 174) hx hb dX9_one_170 (by decide) ?_
                      have hlv_431 : (1 : Int32).toInt = 1 := rfl
                      have hz1 : (1 : Int32).toInt = 1 := rfl
                      have hz0 : (0 : Int32).toInt = 0 := rfl
                      have hw_432 : ((up2 (up2 im_383 (357 + 2 * j) 3 0) (357 + 2 * j) 2 z_419) (357 + 2 * j) 1).toInt = ((im_383 (357 + 2 * j) 1) : Int32).toInt := congrArg Int32.toInt (((up2_k _ _ (by decide)).trans (up2_k _ _ (by decide))))
                      have hw_433 : ((up2 (up2 im_383 (357 + 2 * j) 3 0) (357 + 2 * j) 2 z_419) (357 + 2 * j) 2).toInt = (z_419 : Int32).toInt := congrArg Int32.toInt ((up2_at _ _ _ _))
                      have hw_434 : ((up2 (up2 im_383 (357 + 2 * j) 3 0) (357 + 2 * j) 2 z_419) (357 + 2 * j) 3).toInt = (0 : Int32).toInt := congrArg Int32.toInt (((up2_k _ _ (by decide)).trans (up2_at _ _ _ _)))
                      have hz1 : (1 : Int32).toInt = 1 := rfl
                      have hz0 : (0 : Int32).toInt = 0 := rfl
                      have hw_435 : ((up2 (up2 im_383 (357 + 2 * j) 3 0) (357 + 2 * j) 2 z_419) (357 + 2 * j) 1).toInt = ((im_383 (357 + 2 * j) 1) : Int32).toInt := congrArg Int32.toInt (((up2_k _ _ (by decide)).trans (up2_k _ _ (by decide))))
                      have hw_436 : ((up2 (up2 im_383 (357 + 2 * j) 3 0) (357 + 2 * j) 2 z_419) (357 + 2 * j) 2).toInt = (z_419 : Int32).toInt := congrArg Int32.toInt ((up2_at _ _ _ _))
                      have hw_437 : ((up2 (up2 im_383 (357 + 2 * j) 3 0) (357 + 2 * j) 2 z_419) (357 + 2 * j) 3).toInt = (0 : Int32).toInt := congrArg Int32.toInt (((up2_k _ _ (by decide)).trans (up2_at _ _ _ _)))
                      have hbn : (j1 (357 + 2 * j) 2).toInt.toNat < n := by omega
                      have hcb : ff (j1 (357 + 2 * j) 2).toInt.toNat = i (357 + 2 * j + 1) (j1 (357 + 2 * j) 2).toInt.toNat := by rw [hff]
                      have hci := congrArg Int32.toInt hcb
                      exact sj_zret hx hb hr hlocks (by decide +kernel) hS (up2 (up2 im_383 (357 + 2 * j) 3 0) (357 + 2 * j) 2 z_419) ⟨hO_420, (fun a ha => ((up2_n _ _ (by omega)).trans ((up2_n _ _ (by omega)).trans ((hfr_384 a (by omega)).trans ((up2_n _ _ (by omega)).trans (hfr_j1 a (by omega))))))), ⟨by decide, by decide⟩, (by refine ⟨?_, ?_, ?_, ?_⟩ <;> omega), (fun hF => by
      have hA := hx2_388 (by omega)
      refine Or.inr ⟨by omega, ?_⟩
      rcases hA with ⟨c9, g1, g2, g3, g4, g5, g6⟩ | ⟨g1, g2⟩
      · refine one_parY hB9 hbn (by omega) g5 ?_
        by_cases hcn : n ≤ c9
        · exact Or.inl hcn
        · have hcc : ff c9 = i (357 + 2 * j + 1) (im_383 (357 + 2 * j) 2).toInt.toNat := by rw [hff, show (im_383 (357 + 2 * j) 2).toInt.toNat = c9 by omega]
          have hcc2 := congrArg Int32.toInt hcc
          have := hNB c9 (by omega)
          exact Or.inr ⟨by omega, by omega, by omega, by omega⟩
      · exact one_parX hB9 hbn (by omega) g2)⟩ hH (sj_Knil hK) (Nat.le_of_ble_eq_true rfl) (Nat.le_of_ble_eq_true rfl) dX9_one_174
                  · skip
                    have h_438 := s_nle (rfl : (im_383 (357 + 2 * j) 1).toInt = _) (rfl : (im_383 (357 + 2 * j) 2).toInt = _) c_416
                    refine lv_aload_n hx hb dX9_one_131 rfl (lv_at hl 3 rfl) ?_
                    refine h_getr (ci := 9) (C := RX9) (F := TX9) (N := 4) hx hb hts in9 hown hK hH (lt_nK (by omega)) (kd_tag hj) (by decide) rfl 0 (by decide) wd3 (fun _ h9 => h9) (by decide) rfl (t := (357 + 2 * j + 1)) ((hR _ _ (by unfold dyn; simp <;> omega)).trans (sr_tag (by omega))) (lt_nK (by omega)) dX9_one_132 ?_
                    refine lv_aload_n hx hb dX9_one_135 rfl (lv_at hl 3 rfl) ?_
                    refine h_geti (ci := 9) (C := RX9) (F := TX9) (N := 4) hx hb hts in9 hown hK hH (lt_nK (by omega)) (kd_tag hj) (by decide) rfl 2 (by decide) wd0 (fun _ h9 => h9) (by decide) rfl dX9_one_136 ?_
                    have bx_439 : (0 : Int) ≤ (i (357 + 2 * j + 1) ((im_383 (357 + 2 * j) 2).toInt).toNat).toInt ∧ (i (357 + 2 * j + 1) ((im_383 (357 + 2 * j) 2).toInt).toNat).toInt ≤ 65535 := by have h9 := hO (357 + 2 * j + 1) ((im_383 (357 + 2 * j) 2).toInt).toNat; rw [bx_taga hj ((im_383 (357 + 2 * j) 2).toInt).toNat] at h9; exact h9
                    refine h_cald hx hb hK hH (lt_nK (by omega)) (kd_taga hj) (s_vin (N := 40) (rfl : (im_383 (357 + 2 * j) 2).toInt = _) (ln_taga hj) (by omega) (by omega)) dX9_one_139 ?_
                    have ek_440 : (im_383 (357 + 2 * j) 2).toNatClampNeg = ((im_383 (357 + 2 * j) 2).toInt).toNat := (s_cl (show (im_383 (357 + 2 * j) 2).toInt = (im_383 (357 + 2 * j) 2).toInt by omega))
                    refine sj_i (y := (i (357 + 2 * j + 1) ((im_383 (357 + 2 * j) 2).toInt).toNat)) (by rw [ek_440]; exact ((congrFun (hfr_384 (357 + 2 * j + 1) (by omega)) _).trans ((congrFun (up2_n _ _ (by omega)) _).trans (congrFun (hfr_j1 (357 + 2 * j + 1) (by omega)) _)))) ?_
                    refine lv_bipush (v := 41) hx hb dX9_one_140 (by decide) ?_
                    refine lv_icmp_ne (tgt := 149) hx hb dX9_one_142 (by decide) (fun c_441 => ?_) (fun c_441 => ?_)
                    · skip
                      have h_442 := s_ne (rfl : (i (357 + 2 * j + 1) ((im_383 (357 + 2 * j) 2).toInt).toNat).toInt = _) (show (41 : Int32).toInt = 41 from rfl) c_441
                      refine lv_iconst (v := 0) hx hb dX9_one_149 (by decide) ?_
                      have hO_443 := okp hO_385 (n := (357 + 2 * j)) (k := 3) (v := 0) (by rw [bx_tag hj 3]; exact (show (0 : Int) ≤ (0 : Int32).toInt ∧ (0 : Int32).toInt ≤ 1 from ⟨by decide, by decide⟩))
                      refine h_puti (ty := .boolean) (ci := 9) (C := RX9) (F := TX9) (N := 4) hx hb hts in9 tyX9 tyX9_ok nmX9 hown hK hH hS (lt_nK (by omega)) (kd_tag hj) (by decide) rfl 3 (by decide) wd2 (fun _ h9 => h9) rfl (by decide +kernel) (by decide +kernel) (by decide +kernel) (by decide) rfl dX9_one_150 (fun H locs hH hS => ?_)
                      refine lv_aload_n hx hb dX9_one_153 rfl (lv_at hl 3 rfl) ?_
                      refine lv_dup hx hb dX9_one_154 rfl ?_
                      refine h_geti (ci := 9) (C := RX9) (F := TX9) (N := 4) hx hb hts in9 hown hK hH (lt_nK (by omega)) (kd_tag hj) (by decide) rfl 2 (by decide) wd0 (fun _ h9 => h9) (by decide) rfl dX9_one_155 ?_
                      refine sj_i (y := (im_383 (357 + 2 * j) 2)) (up2_k _ _ (by decide)) ?_
                      refine lv_iconst (v := 1) hx hb dX9_one_158 (by decide) ?_
                      refine lv_iadd hx hb dX9_one_159 ?_
                      obtain ⟨z_444, ez_444, hz_444⟩ := s_add (rfl : (im_383 (357 + 2 * j) 2).toInt = _) (show (1 : Int32).toInt = 1 from rfl) (by omega) (by omega)
                      refine sj_i ez_444 ?_
                      have hO_445 := okp hO_443 (n := (357 + 2 * j)) (k := 2) (v := z_444) (by rw [bx_tag hj 2]; exact (show (0 : Int) ≤ (z_444 : Int32).toInt ∧ (z_444 : Int32).toInt ≤ 127 from ⟨by omega, by omega⟩))
                      refine h_puti (ty := .int) (ci := 9) (C := RX9) (F := TX9) (N := 4) hx hb hts in9 tyX9 tyX9_ok nmX9 hown hK hH hS (lt_nK (by omega)) (kd_tag hj) (by decide) rfl 2 (by decide) wd0 (fun _ h9 => h9) rfl (by decide +kernel) rfl rfl (by decide) rfl dX9_one_160 (fun H locs hH hS => ?_)
                      refine lv_iload hx hb dX9_one_163 (lv_at hl 0 rfl) ?_
                      refine lv_iload_n hx hb dX9_one_165 rfl (lv_at hl 2 rfl) ?_
                      refine lv_icmp_ne (tgt := 173) hx hb dX9_one_166 (by decide) (fun c_446 => ?_) (fun c_446 => ?_)
                      · skip
                        have h_447 := s_ne (rfl : r_381.toInt = _) (rfl : u.toInt = _) c_446
                        refine lv_iconst (v := 0) hx hb dX9_one_173 (by decide) ?_
                        have hlv_448 : (0 : Int32).toInt = 0 := rfl
                        have hz1 : (1 : Int32).toInt = 1 := rfl
                        have hz0 : (0 : Int32).toInt = 0 := rfl
                        have hw_449 : ((up2 (up2 im_383 (357 + 2 * j) 3 0) (357 + 2 * j) 2 z_444) (357 + 2 * j) 1).toInt = ((im_383 (357 + 2 * j) 1) : Int32).toInt := congrArg Int32.toInt (((up2_k _ _ (by decide)).trans (up2_k _ _ (by decide))))
                        have hw_450 : ((up2 (up2 im_383 (357 + 2 * j) 3 0) (357 + 2 * j) 2 z_444) (357 + 2 * j) 2).toInt = (z_444 : Int32).toInt := congrArg Int32.toInt ((up2_at _ _ _ _))
                        have hw_451 : ((up2 (up2 im_383 (357 + 2 * j) 3 0) (357 + 2 * j) 2 z_444) (357 + 2 * j) 3).toInt = (0 : Int32).toInt := congrArg Int32.toInt (((up2_k _ _ (by decide)).trans (up2_at _ _ _ _)))
                        have hz1 : (1 : Int32).toInt = 1 := rfl
                        have hz0 : (0 : Int32).toInt = 0 := rfl
                        have hw_452 : ((up2 (up2 im_383 (357 + 2 * j) 3 0) (357 + 2 * j) 2 z_444) (357 + 2 * j) 1).toInt = ((im_383 (357 + 2 * j) 1) : Int32).toInt := congrArg Int32.toInt (((up2_k _ _ (by decide)).trans (up2_k _ _ (by decide))))
                        have hw_453 : ((up2 (up2 im_383 (357 + 2 * j) 3 0) (357 + 2 * j) 2 z_444) (357 + 2 * j) 2).toInt = (z_444 : Int32).toInt := congrArg Int32.toInt ((up2_at _ _ _ _))
                        have hw_454 : ((up2 (up2 im_383 (357 + 2 * j) 3 0) (357 + 2 * j) 2 z_444) (357 + 2 * j) 3).toInt = (0 : Int32).toInt := congrArg Int32.toInt (((up2_k _ _ (by decide)).trans (up2_at _ _ _ _)))
                        have hbn : (j1 (357 + 2 * j) 2).toInt.toNat < n := by omega
                        have hcb : ff (j1 (357 + 2 * j) 2).toInt.toNat = i (357 + 2 * j + 1) (j1 (357 + 2 * j) 2).toInt.toNat := by rw [hff]
                        have hci := congrArg Int32.toInt hcb
                        exact sj_zret hx hb hr hlocks (by decide +kernel) hS (up2 (up2 im_383 (357 + 2 * j) 3 0) (357 + 2 * j) 2 z_444) ⟨hO_445, (fun a ha => ((up2_n _ _ (by omega)).trans ((up2_n _ _ (by omega)).trans ((hfr_384 a (by omega)).trans ((up2_n _ _ (by omega)).trans (hfr_j1 a (by omega))))))), ⟨by decide, by decide⟩, (by refine ⟨?_, ?_, ?_, ?_⟩ <;> omega), (fun hF => by
      have hA := hx2_388 (by omega)
      refine Or.inr ⟨by omega, ?_⟩
      rcases hA with ⟨c9, g1, g2, g3, g4, g5, g6⟩ | ⟨g1, g2⟩
      · refine one_parY hB9 hbn (by omega) g5 ?_
        by_cases hcn : n ≤ c9
        · exact Or.inl hcn
        · have hcc : ff c9 = i (357 + 2 * j + 1) (im_383 (357 + 2 * j) 2).toInt.toNat := by rw [hff, show (im_383 (357 + 2 * j) 2).toInt.toNat = c9 by omega]
          have hcc2 := congrArg Int32.toInt hcc
          have := hNB c9 (by omega)
          exact Or.inr ⟨by omega, by omega, by omega, by omega⟩
      · exact one_parX hB9 hbn (by omega) g2)⟩ hH (sj_Knil hK) (Nat.le_of_ble_eq_true rfl) (Nat.le_of_ble_eq_true rfl) dX9_one_174
                      · skip
                        have h_455 := s_eq (rfl : r_381.toInt = _) (rfl : u.toInt = _) c_446
                        refine lv_iconst (v := 1) hx hb dX9_one_169 (by decide) ?_
                        refine lv_goto (tgt := 174) hx hb dX9_one_170 (by decide) ?_
                        have hlv_456 : (1 : Int32).toInt = 1 := rfl
                        have hz1 : (1 : Int32).toInt = 1 := rfl
                        have hz0 : (0 : Int32).toInt = 0 := rfl
                        have hw_457 : ((up2 (up2 im_383 (357 + 2 * j) 3 0) (357 + 2 * j) 2 z_444) (357 + 2 * j) 1).toInt = ((im_383 (357 + 2 * j) 1) : Int32).toInt := congrArg Int32.toInt (((up2_k _ _ (by decide)).trans (up2_k _ _ (by decide))))
                        have hw_458 : ((up2 (up2 im_383 (357 + 2 * j) 3 0) (357 + 2 * j) 2 z_444) (357 + 2 * j) 2).toInt = (z_444 : Int32).toInt := congrArg Int32.toInt ((up2_at _ _ _ _))
                        have hw_459 : ((up2 (up2 im_383 (357 + 2 * j) 3 0) (357 + 2 * j) 2 z_444) (357 + 2 * j) 3).toInt = (0 : Int32).toInt := congrArg Int32.toInt (((up2_k _ _ (by decide)).trans (up2_at _ _ _ _)))
                        have hz1 : (1 : Int32).toInt = 1 := rfl
                        have hz0 : (0 : Int32).toInt = 0 := rfl
                        have hw_460 : ((up2 (up2 im_383 (357 + 2 * j) 3 0) (357 + 2 * j) 2 z_444) (357 + 2 * j) 1).toInt = ((im_383 (357 + 2 * j) 1) : Int32).toInt := congrArg Int32.toInt (((up2_k _ _ (by decide)).trans (up2_k _ _ (by decide))))
                        have hw_461 : ((up2 (up2 im_383 (357 + 2 * j) 3 0) (357 + 2 * j) 2 z_444) (357 + 2 * j) 2).toInt = (z_444 : Int32).toInt := congrArg Int32.toInt ((up2_at _ _ _ _))
                        have hw_462 : ((up2 (up2 im_383 (357 + 2 * j) 3 0) (357 + 2 * j) 2 z_444) (357 + 2 * j) 3).toInt = (0 : Int32).toInt := congrArg Int32.toInt (((up2_k _ _ (by decide)).trans (up2_at _ _ _ _)))
                        have hbn : (j1 (357 + 2 * j) 2).toInt.toNat < n := by omega
                        have hcb : ff (j1 (357 + 2 * j) 2).toInt.toNat = i (357 + 2 * j + 1) (j1 (357 + 2 * j) 2).toInt.toNat := by rw [hff]
                        have hci := congrArg Int32.toInt hcb
                        exact sj_zret hx hb hr hlocks (by decide +kernel) hS (up2 (up2 im_383 (357 + 2 * j) 3 0) (357 + 2 * j) 2 z_444) ⟨hO_445, (fun a ha => ((up2_n _ _ (by omega)).trans ((up2_n _ _ (by omega)).trans ((hfr_384 a (by omega)).trans ((up2_n _ _ (by omega)).trans (hfr_j1 a (by omega))))))), ⟨by decide, by decide⟩, (by refine ⟨?_, ?_, ?_, ?_⟩ <;> omega), (fun hF => by
      have hA := hx2_388 (by omega)
      refine Or.inr ⟨by omega, ?_⟩
      rcases hA with ⟨c9, g1, g2, g3, g4, g5, g6⟩ | ⟨g1, g2⟩
      · refine one_parY hB9 hbn (by omega) g5 ?_
        by_cases hcn : n ≤ c9
        · exact Or.inl hcn
        · have hcc : ff c9 = i (357 + 2 * j + 1) (im_383 (357 + 2 * j) 2).toInt.toNat := by rw [hff, show (im_383 (357 + 2 * j) 2).toInt.toNat = c9 by omega]
          have hcc2 := congrArg Int32.toInt hcc
          have := hNB c9 (by omega)
          exact Or.inr ⟨by omega, by omega, by omega, by omega⟩
      · exact one_parX hB9 hbn (by omega) g2)⟩ hH (sj_Knil hK) (Nat.le_of_ble_eq_true rfl) (Nat.le_of_ble_eq_true rfl) dX9_one_174
                    · skip
                      have h_463 := s_eq (rfl : (i (357 + 2 * j + 1) ((im_383 (357 + 2 * j) 2).toInt).toNat).toInt = _) (show (41 : Int32).toInt = 41 from rfl) c_441
                      refine lv_iconst (v := 1) hx hb dX9_one_145 (by decide) ?_
                      refine lv_goto (tgt := 150) hx hb dX9_one_146 (by decide) ?_
                      have hO_464 := okp hO_385 (n := (357 + 2 * j)) (k := 3) (v := 1) (by rw [bx_tag hj 3]; exact (show (0 : Int) ≤ (1 : Int32).toInt ∧ (1 : Int32).toInt ≤ 1 from ⟨by decide, by decide⟩))
                      refine h_puti (ty := .boolean) (ci := 9) (C := RX9) (F := TX9) (N := 4) hx hb hts in9 tyX9 tyX9_ok nmX9 hown hK hH hS (lt_nK (by omega)) (kd_tag hj) (by decide) rfl 3 (by decide) wd2 (fun _ h9 => h9) rfl (by decide +kernel) (by decide +kernel) (by decide +kernel) (by decide) rfl dX9_one_150 (fun H locs hH hS => ?_)
                      refine lv_aload_n hx hb dX9_one_153 rfl (lv_at hl 3 rfl) ?_
                      refine lv_dup hx hb dX9_one_154 rfl ?_
                      refine h_geti (ci := 9) (C := RX9) (F := TX9) (N := 4) hx hb hts in9 hown hK hH (lt_nK (by omega)) (kd_tag hj) (by decide) rfl 2 (by decide) wd0 (fun _ h9 => h9) (by decide) rfl dX9_one_155 ?_
                      refine sj_i (y := (im_383 (357 + 2 * j) 2)) (up2_k _ _ (by decide)) ?_
                      refine lv_iconst (v := 1) hx hb dX9_one_158 (by decide) ?_
                      refine lv_iadd hx hb dX9_one_159 ?_
                      obtain ⟨z_465, ez_465, hz_465⟩ := s_add (rfl : (im_383 (357 + 2 * j) 2).toInt = _) (show (1 : Int32).toInt = 1 from rfl) (by omega) (by omega)
                      refine sj_i ez_465 ?_
                      have hO_466 := okp hO_464 (n := (357 + 2 * j)) (k := 2) (v := z_465) (by rw [bx_tag hj 2]; exact (show (0 : Int) ≤ (z_465 : Int32).toInt ∧ (z_465 : Int32).toInt ≤ 127 from ⟨by omega, by omega⟩))
                      refine h_puti (ty := .int) (ci := 9) (C := RX9) (F := TX9) (N := 4) hx hb hts in9 tyX9 tyX9_ok nmX9 hown hK hH hS (lt_nK (by omega)) (kd_tag hj) (by decide) rfl 2 (by decide) wd0 (fun _ h9 => h9) rfl (by decide +kernel) rfl rfl (by decide) rfl dX9_one_160 (fun H locs hH hS => ?_)
                      refine lv_iload hx hb dX9_one_163 (lv_at hl 0 rfl) ?_
                      refine lv_iload_n hx hb dX9_one_165 rfl (lv_at hl 2 rfl) ?_
                      refine lv_icmp_ne (tgt := 173) hx hb dX9_one_166 (by decide) (fun c_467 => ?_) (fun c_467 => ?_)
                      · skip
                        have h_468 := s_ne (rfl : r_381.toInt = _) (rfl : u.toInt = _) c_467
                        refine lv_iconst (v := 0) hx hb dX9_one_173 (by decide) ?_
                        have hlv_469 : (0 : Int32).toInt = 0 := rfl
                        have hz1 : (1 : Int32).toInt = 1 := rfl
                        have hz0 : (0 : Int32).toInt = 0 := rfl
                        have hw_470 : ((up2 (up2 im_383 (357 + 2 * j) 3 1) (357 + 2 * j) 2 z_465) (357 + 2 * j) 1).toInt = ((im_383 (357 + 2 * j) 1) : Int32).toInt := congrArg Int32.toInt (((up2_k _ _ (by decide)).trans (up2_k _ _ (by decide))))
                        have hw_471 : ((up2 (up2 im_383 (357 + 2 * j) 3 1) (357 + 2 * j) 2 z_465) (357 + 2 * j) 2).toInt = (z_465 : Int32).toInt := congrArg Int32.toInt ((up2_at _ _ _ _))
                        have hw_472 : ((up2 (up2 im_383 (357 + 2 * j) 3 1) (357 + 2 * j) 2 z_465) (357 + 2 * j) 3).toInt = (1 : Int32).toInt := congrArg Int32.toInt (((up2_k _ _ (by decide)).trans (up2_at _ _ _ _)))
                        have hz1 : (1 : Int32).toInt = 1 := rfl
                        have hz0 : (0 : Int32).toInt = 0 := rfl
                        have hw_473 : ((up2 (up2 im_383 (357 + 2 * j) 3 1) (357 + 2 * j) 2 z_465) (357 + 2 * j) 1).toInt = ((im_383 (357 + 2 * j) 1) : Int32).toInt := congrArg Int32.toInt (((up2_k _ _ (by decide)).trans (up2_k _ _ (by decide))))
                        have hw_474 : ((up2 (up2 im_383 (357 + 2 * j) 3 1) (357 + 2 * j) 2 z_465) (357 + 2 * j) 2).toInt = (z_465 : Int32).toInt := congrArg Int32.toInt ((up2_at _ _ _ _))
                        have hw_475 : ((up2 (up2 im_383 (357 + 2 * j) 3 1) (357 + 2 * j) 2 z_465) (357 + 2 * j) 3).toInt = (1 : Int32).toInt := congrArg Int32.toInt (((up2_k _ _ (by decide)).trans (up2_at _ _ _ _)))
                        have hbn : (j1 (357 + 2 * j) 2).toInt.toNat < n := by omega
                        have hcb : ff (j1 (357 + 2 * j) 2).toInt.toNat = i (357 + 2 * j + 1) (j1 (357 + 2 * j) 2).toInt.toNat := by rw [hff]
                        have hci := congrArg Int32.toInt hcb
                        exact sj_zret hx hb hr hlocks (by decide +kernel) hS (up2 (up2 im_383 (357 + 2 * j) 3 1) (357 + 2 * j) 2 z_465) ⟨hO_466, (fun a ha => ((up2_n _ _ (by omega)).trans ((up2_n _ _ (by omega)).trans ((hfr_384 a (by omega)).trans ((up2_n _ _ (by omega)).trans (hfr_j1 a (by omega))))))), ⟨by decide, by decide⟩, (by refine ⟨?_, ?_, ?_, ?_⟩ <;> omega), (fun hF => by
      have hA := hx2_388 (by omega)
      rcases hA with ⟨c9, g1, g2, g3, g4, g5, g6⟩ | ⟨g1, g2⟩
      · have hcc : ff c9 = i (357 + 2 * j + 1) (im_383 (357 + 2 * j) 2).toInt.toNat := by rw [hff, show (im_383 (357 + 2 * j) 2).toInt.toNat = c9 by omega]
        have hcc2 := congrArg Int32.toInt hcc
        have hR9 := one_par (T := tb x) hB9 hbn (by omega) g5 (by omega) (by omega)
        rw [flp_v (v := (0 : Int32).toInt) hk9 (by omega) (by omega)] at hR9
        exact Or.inl ⟨c9 + 1, by omega, by omega, by omega, by omega, hR9⟩
      · exfalso; omega)⟩ hH (sj_Knil hK) (Nat.le_of_ble_eq_true rfl) (Nat.le_of_ble_eq_true rfl) dX9_one_174
                      · skip
                        have h_476 := s_eq (rfl : r_381.toInt = _) (rfl : u.toInt = _) c_467
                        refine lv_iconst (v := 1) hx hb dX9_one_169 (by decide) ?_
                        refine lv_goto (tgt := 174) hx hb dX9_one_170 (by decide) ?_
                        have hlv_477 : (1 : Int32).toInt = 1 := rfl
                        have hz1 : (1 : Int32).toInt = 1 := rfl
                        have hz0 : (0 : Int32).toInt = 0 := rfl
                        have hw_478 : ((up2 (up2 im_383 (357 + 2 * j) 3 1) (357 + 2 * j) 2 z_465) (357 + 2 * j) 1).toInt = ((im_383 (357 + 2 * j) 1) : Int32).toInt := congrArg Int32.toInt (((up2_k _ _ (by decide)).trans (up2_k _ _ (by decide))))
                        have hw_479 : ((up2 (up2 im_383 (357 + 2 * j) 3 1) (357 + 2 * j) 2 z_465) (357 + 2 * j) 2).toInt = (z_465 : Int32).toInt := congrArg Int32.toInt ((up2_at _ _ _ _))
                        have hw_480 : ((up2 (up2 im_383 (357 + 2 * j) 3 1) (357 + 2 * j) 2 z_465) (357 + 2 * j) 3).toInt = (1 : Int32).toInt := congrArg Int32.toInt (((up2_k _ _ (by decide)).trans (up2_at _ _ _ _)))
                        have hz1 : (1 : Int32).toInt = 1 := rfl
                        have hz0 : (0 : Int32).toInt = 0 := rfl
                        have hw_481 : ((up2 (up2 im_383 (357 + 2 * j) 3 1) (357 + 2 * j) 2 z_465) (357 + 2 * j) 1).toInt = ((im_383 (357 + 2 * j) 1) : Int32).toInt := congrArg Int32.toInt (((up2_k _ _ (by decide)).trans (up2_k _ _ (by decide))))
                        have hw_482 : ((up2 (up2 im_383 (357 + 2 * j) 3 1) (357 + 2 * j) 2 z_465) (357 + 2 * j) 2).toInt = (z_465 : Int32).toInt := congrArg Int32.toInt ((up2_at _ _ _ _))
                        have hw_483 : ((up2 (up2 im_383 (357 + 2 * j) 3 1) (357 + 2 * j) 2 z_465) (357 + 2 * j) 3).toInt = (1 : Int32).toInt := congrArg Int32.toInt (((up2_k _ _ (by decide)).trans (up2_at _ _ _ _)))
                        have hbn : (j1 (357 + 2 * j) 2).toInt.toNat < n := by omega
                        have hcb : ff (j1 (357 + 2 * j) 2).toInt.toNat = i (357 + 2 * j + 1) (j1 (357 + 2 * j) 2).toInt.toNat := by rw [hff]
                        have hci := congrArg Int32.toInt hcb
                        exact sj_zret hx hb hr hlocks (by decide +kernel) hS (up2 (up2 im_383 (357 + 2 * j) 3 1) (357 + 2 * j) 2 z_465) ⟨hO_466, (fun a ha => ((up2_n _ _ (by omega)).trans ((up2_n _ _ (by omega)).trans ((hfr_384 a (by omega)).trans ((up2_n _ _ (by omega)).trans (hfr_j1 a (by omega))))))), ⟨by decide, by decide⟩, (by refine ⟨?_, ?_, ?_, ?_⟩ <;> omega), (fun hF => by
      have hA := hx2_388 (by omega)
      rcases hA with ⟨c9, g1, g2, g3, g4, g5, g6⟩ | ⟨g1, g2⟩
      · have hcc : ff c9 = i (357 + 2 * j + 1) (im_383 (357 + 2 * j) 2).toInt.toNat := by rw [hff, show (im_383 (357 + 2 * j) 2).toInt.toNat = c9 by omega]
        have hcc2 := congrArg Int32.toInt hcc
        have hR9 := one_par (T := tb x) hB9 hbn (by omega) g5 (by omega) (by omega)
        rw [flp_v (v := (1 : Int32).toInt) hk9 (by omega) (by omega)] at hR9
        exact Or.inl ⟨c9 + 1, by omega, by omega, by omega, by omega, hR9⟩
      · exfalso; omega)⟩ hH (sj_Knil hK) (Nat.le_of_ble_eq_true rfl) (Nat.le_of_ble_eq_true rfl) dX9_one_174
            · skip
              have h_484 := s_nlt (rfl : y.toInt = _) (show (40 : Int32).toInt = 40 from rfl) c_264
              refine lv_aload_n hx hb dX9_one_67 rfl (lv_at hl 1 rfl) ?_
              refine lv_iconst (v := 0) hx hb dX9_one_68 (by decide) ?_
              have hO_485 := okp hO_j1 (n := (357 + 2 * j)) (k := 3) (v := 0) (by rw [bx_tag hj 3]; exact (show (0 : Int) ≤ (0 : Int32).toInt ∧ (0 : Int32).toInt ≤ 1 from ⟨by decide, by decide⟩))
              refine h_puti (ty := .boolean) (ci := 9) (C := RX9) (F := TX9) (N := 4) hx hb hts in9 tyX9 tyX9_ok nmX9 hown hK hH hS (lt_nK (by omega)) (kd_tag hj) (by decide) rfl 3 (by decide) wd2 (fun _ h9 => h9) rfl (by decide +kernel) (by decide +kernel) (by decide +kernel) (by decide) rfl dX9_one_69 (fun H locs hH hS => ?_)
              refine lv_iconst (v := 0) hx hb dX9_one_72 (by decide) ?_
              have hlv_486 : (0 : Int32).toInt = 0 := rfl
              have hz1 : (1 : Int32).toInt = 1 := rfl
              have hz0 : (0 : Int32).toInt = 0 := rfl
              have hw_487 : ((up2 j1 (357 + 2 * j) 3 0) (357 + 2 * j) 1).toInt = ((j1 (357 + 2 * j) 1) : Int32).toInt := congrArg Int32.toInt ((up2_k _ _ (by decide)))
              have hw_488 : ((up2 j1 (357 + 2 * j) 3 0) (357 + 2 * j) 2).toInt = ((j1 (357 + 2 * j) 2) : Int32).toInt := congrArg Int32.toInt ((up2_k _ _ (by decide)))
              have hw_489 : ((up2 j1 (357 + 2 * j) 3 0) (357 + 2 * j) 3).toInt = (0 : Int32).toInt := congrArg Int32.toInt ((up2_at _ _ _ _))
              have hz1 : (1 : Int32).toInt = 1 := rfl
              have hz0 : (0 : Int32).toInt = 0 := rfl
              have hw_490 : ((up2 j1 (357 + 2 * j) 3 0) (357 + 2 * j) 1).toInt = ((j1 (357 + 2 * j) 1) : Int32).toInt := congrArg Int32.toInt ((up2_k _ _ (by decide)))
              have hw_491 : ((up2 j1 (357 + 2 * j) 3 0) (357 + 2 * j) 2).toInt = ((j1 (357 + 2 * j) 2) : Int32).toInt := congrArg Int32.toInt ((up2_k _ _ (by decide)))
              have hw_492 : ((up2 j1 (357 + 2 * j) 3 0) (357 + 2 * j) 3).toInt = (0 : Int32).toInt := congrArg Int32.toInt ((up2_at _ _ _ _))
              exact sj_zret hx hb hr hlocks (by decide +kernel) hS (up2 j1 (357 + 2 * j) 3 0) ⟨hO_485, (fun a ha => ((up2_n _ _ (by omega)).trans (hfr_j1 a (by omega)))), ⟨by decide, by decide⟩, (by refine ⟨?_, ?_, ?_, ?_⟩ <;> omega), (fun hF => by first | exact Or.inr ⟨by omega, one_end hB9 (by omega)⟩ | (exfalso; have := hdp hF; omega))⟩ hH (sj_Knil hK) (Nat.le_of_ble_eq_true rfl) (Nat.le_of_ble_eq_true rfl) dX9_one_73
        · skip
          have h_493 := s_eq (rfl : (i (357 + 2 * j + 1) ((j1 (357 + 2 * j) 2).toInt).toNat).toInt = _) (show (33 : Int32).toInt = 33 from rfl) c_251
          refine lv_aload_n hx hb dX9_one_27 rfl (lv_at hl 1 rfl) ?_
          refine lv_dup hx hb dX9_one_28 rfl ?_
          refine h_geti (ci := 9) (C := RX9) (F := TX9) (N := 4) hx hb hts in9 hown hK hH (lt_nK (by omega)) (kd_tag hj) (by decide) rfl 2 (by decide) wd0 (fun _ h9 => h9) (by decide) rfl dX9_one_29 ?_
          refine lv_iconst (v := 1) hx hb dX9_one_32 (by decide) ?_
          refine lv_iadd hx hb dX9_one_33 ?_
          obtain ⟨z_494, ez_494, hz_494⟩ := s_add (rfl : (j1 (357 + 2 * j) 2).toInt = _) (show (1 : Int32).toInt = 1 from rfl) (by omega) (by omega)
          refine sj_i ez_494 ?_
          have hO_495 := okp hO_j1 (n := (357 + 2 * j)) (k := 2) (v := z_494) (by rw [bx_tag hj 2]; exact (show (0 : Int) ≤ (z_494 : Int32).toInt ∧ (z_494 : Int32).toInt ≤ 127 from ⟨by omega, by omega⟩))
          refine h_puti (ty := .int) (ci := 9) (C := RX9) (F := TX9) (N := 4) hx hb hts in9 tyX9 tyX9_ok nmX9 hown hK hH hS (lt_nK (by omega)) (kd_tag hj) (by decide) rfl 2 (by decide) wd0 (fun _ h9 => h9) rfl (by decide +kernel) rfl rfl (by decide) rfl dX9_one_34 (fun H locs hH hS => ?_)
          refine lv_iload_n hx hb dX9_one_37 rfl (lv_at hl 0 rfl) ?_
          refine lv_if_ne (tgt := 45) hx hb dX9_one_38 (by decide) (fun c_496 => ?_) (fun c_496 => ?_)
          · skip
            have h_497 := s_ne (rfl : u.toInt = _) (show (0 : Int32).toInt = 0 from rfl) c_496
            refine lv_iconst (v := 0) hx hb dX9_one_45 (by decide) ?_
            refine lv_istore_n (lv' := [(3, .int 0), (0, .ref (g (357 + 2 * j))), (1, .int x), (2, .int y)]) hx hb dX9_one_46 rfl hl (by decide) rfl (fun ls hl => ?_)
            refine lv_goto (tgt := 2) hx hb dX9_one_47 (by decide) ?_
            have hl_498 : (0 : Int32).toInt = 0 := rfl
            have hz1 : (1 : Int32).toInt = 1 := rfl
            have hz0 : (0 : Int32).toInt = 0 := rfl
            have hw_499 : ((up2 j1 (357 + 2 * j) 2 z_494) (357 + 2 * j) 1).toInt = ((j1 (357 + 2 * j) 1) : Int32).toInt := congrArg Int32.toInt ((up2_k _ _ (by decide)))
            have hw_500 : ((up2 j1 (357 + 2 * j) 2 z_494) (357 + 2 * j) 2).toInt = (z_494 : Int32).toInt := congrArg Int32.toInt ((up2_at _ _ _ _))
            have hw_501 : ((up2 j1 (357 + 2 * j) 2 z_494) (357 + 2 * j) 3).toInt = ((j1 (357 + 2 * j) 3) : Int32).toInt := congrArg Int32.toInt ((up2_k _ _ (by decide)))
            have hch : (ff (j1 (357 + 2 * j) 2).toInt.toNat).toInt = 33 := by rw [← hff]; omega
            exact ih_lp_2 0 _ _ _ ls (by omega) (by omega) (by omega) (by omega) (by omega) ⟨k9 + 1, by omega, by rw [show ((up2 j1 (357 + 2 * j) 2 z_494) (357 + 2 * j) 2).toInt.toNat = (j1 (357 + 2 * j) 2).toInt.toNat + 1 by omega]; exact tgB_s hB9 (by omega) hch⟩ hO_495 (fun a ha => ((up2_n _ _ (by omega)).trans (hfr_j1 a (by omega)))) (lv_sub hl [0, 1, 2, 3] rfl) hH hS
          · skip
            have h_502 := s_eq (rfl : u.toInt = _) (show (0 : Int32).toInt = 0 from rfl) c_496
            refine lv_iconst (v := 1) hx hb dX9_one_41 (by decide) ?_
            refine lv_goto (tgt := 46) hx hb dX9_one_42 (by decide) ?_
            refine lv_istore_n (lv' := [(3, .int 1), (0, .ref (g (357 + 2 * j))), (1, .int x), (2, .int y)]) hx hb dX9_one_46 rfl hl (by decide) rfl (fun ls hl => ?_)
            refine lv_goto (tgt := 2) hx hb dX9_one_47 (by decide) ?_
            have hl_503 : (1 : Int32).toInt = 1 := rfl
            have hz1 : (1 : Int32).toInt = 1 := rfl
            have hz0 : (0 : Int32).toInt = 0 := rfl
            have hw_504 : ((up2 j1 (357 + 2 * j) 2 z_494) (357 + 2 * j) 1).toInt = ((j1 (357 + 2 * j) 1) : Int32).toInt := congrArg Int32.toInt ((up2_k _ _ (by decide)))
            have hw_505 : ((up2 j1 (357 + 2 * j) 2 z_494) (357 + 2 * j) 2).toInt = (z_494 : Int32).toInt := congrArg Int32.toInt ((up2_at _ _ _ _))
            have hw_506 : ((up2 j1 (357 + 2 * j) 2 z_494) (357 + 2 * j) 3).toInt = ((j1 (357 + 2 * j) 3) : Int32).toInt := congrArg Int32.toInt ((up2_k _ _ (by decide)))
            have hch : (ff (j1 (357 + 2 * j) 2).toInt.toNat).toInt = 33 := by rw [← hff]; omega
            exact ih_lp_2 1 _ _ _ ls (by omega) (by omega) (by omega) (by omega) (by omega) ⟨k9 + 1, by omega, by rw [show ((up2 j1 (357 + 2 * j) 2 z_494) (357 + 2 * j) 2).toInt.toNat = (j1 (357 + 2 * j) 2).toInt.toNat + 1 by omega]; exact tgB_s hB9 (by omega) hch⟩ hO_495 (fun a ha => ((up2_n _ _ (by omega)).trans (hfr_j1 a (by omega)))) (lv_sub hl [0, 1, 2, 3] rfl) hH hS
  have hl_507 : (1 : Int32).toInt = 1 := rfl
  have hz1 : (1 : Int32).toInt = 1 := rfl
  have hz0 : (0 : Int32).toInt = 0 := rfl
  exact lp_2 _ 1 _ _ _ ls (Nat.lt_succ_self _) (by omega) (by omega) (by omega) (by omega) ⟨0, Or.inl ⟨rfl, rfl⟩, by rw [show ((i (357 + 2 * j) 2).toInt).toNat = a by omega]; exact tgB_0⟩ hO (fun a ha => rfl) (lv_sub hl [0, 1, 2, 3] rfl) hH hS
set_option maxHeartbeats 2000000 in
set_option maxRecDepth 100000 in
theorem k_tall (l : Launch) (D : va_G) (g : Nat → Nat) (ka : Nat → ClassId) (ad : Nat → Nat) (i : Nat → Nat → Int32) (r : Nat → Nat → Nat) (L : Nat → Nat → Int64) (d : Nat → Nat → UInt64) (j : Nat) (ff : Nat → Int32) (n : Nat) (a : Nat) (lv : Nat) (x : Int32) (y : Int32) (hO : OkI i) (hR : RS r) (sz : Nat) (hj : j < 11) (hff : i (357 + 2 * j + 1) = ff) (hn : (i (357 + 2 * j) 1).toInt = (n : Int)) (hn40 : n ≤ 40) (ha : (i (357 + 2 * j) 2).toInt = (a : Int)) (han : a ≤ n) (hdp : (i (357 + 2 * j) 3).toInt = 1 → y.toInt ≤ (a : Int)) (hm : y.toInt + (lv : Int) = 40) (hy : 0 ≤ y.toInt) (hNB : ∀ k : Nat, k < n → (ff k).toInt ≠ 32) (hrec : ∀ m9, lv = m9 + 1 → anyS l D g ka ad m9) : Met l yX9_allOf wsX9_allOf ({ frames := 3 * lv + 1, cells := 0, slots := 0, locals := 120 * lv + 40 }) (va_Pc [.ref (g (357 + 2 * j)), .int x, .int y] (sj_B D (hwc g ka i r L d) (hT ka) sz (gx ad (va_A (hwc g ka i r L d) sz)))) (sj_Qi (S := (Nat → Nat → Int32)) D (fun v u => OkI u ∧ (∀ a, ¬ (a = 357 + 2 * j) → u a = i a) ∧ ((0 : Int) ≤ v.toInt ∧ v.toInt ≤ 1) ∧ ((u (357 + 2 * j) 1).toInt = (i (357 + 2 * j) 1).toInt ∧ (i (357 + 2 * j) 2).toInt ≤ (u (357 + 2 * j) 2).toInt ∧ (u (357 + 2 * j) 2).toInt ≤ (n : Int) + 41 - y.toInt ∧ ((i (357 + 2 * j) 3).toInt = 0 → (u (357 + 2 * j) 3).toInt = 0)) ∧ (tgP (i (357 + 2 * j) 3).toInt ((∃ b : Nat, (u (357 + 2 * j) 3).toInt = 1 ∧ (u (357 + 2 * j) 2).toInt = (b : Int) ∧ a < b ∧ b ≤ n ∧ tgR (tb x) 1 ff n a b (decide (v.toInt = 1)) ∧ (n ≤ b ∨ (ff b).toInt ≠ 38)) ∨ ((u (357 + 2 * j) 3).toInt = 0 ∧ tgX (tb x) 1 ff n a)))) (fun u => hwc g ka u r L d) (fun _ => []) (va_A (hwc g ka i r L d) sz)) 0 0 (va_A (hwc g ka i r L d) sz) := by
  refine x_met (Ex := gx ad) (cc := cX9_allOf) (maxL := 5) (ret := (some .boolean)) (by decide) rfl (Nat.le_of_ble_eq_true rfl) ?_
  intro p e s m below meth c A ls hx hb hr hml hts hown hlocks hA hS hH hK hE hl
  have hown : s.vm.findClass RX9 = some m.cls := hown
  have in9 : ∀ w ∈ wsX90, w ∈ wsX9_allOf := (fun _ h => (List.mem_cons_of_mem _ (List.mem_append_right _ h)))
  have wd0 := hts (.fieldLink RX9 33 "StoryDesk$TagExpression" "at" "I") (List.mem_cons_of_mem _ (List.mem_append_left _ lm0))
  have wd1 := hts (.fieldLink RX9 13 "StoryDesk$TagExpression" "count" "I") (List.mem_cons_of_mem _ (List.mem_append_left _ lm1))
  have wd2 := hts (.fieldLink RX9 9 "StoryDesk$TagExpression" "signs" "[C") (List.mem_cons_of_mem _ (List.mem_append_left _ lm2))
  have hl : lv_has ls 5 [(0, .ref (g (357 + 2 * j))), (1, .int x), (2, .int y)] := hl
  have hK : va_K D vwCl (hT ka) s := hK
  have hg_1 := s_rng x
  have hbF : (0 : Int) ≤ (i (357 + 2 * j) 3).toInt ∧ (i (357 + 2 * j) 3).toInt ≤ 1 := by have h9 := hO (357 + 2 * j) 3; rw [bx_tag hj 3] at h9; exact h9
  refine lv_aload_n hx hb dX9_allOf_0 rfl (lv_at hl 0 rfl) ?_
  refine lv_iload_n hx hb dX9_allOf_1 rfl (lv_at hl 1 rfl) ?_
  refine lv_iload_n hx hb dX9_allOf_2 rfl (lv_at hl 2 rfl) ?_
  have hz1 : (1 : Int32).toInt = 1 := rfl
  have hz0 : (0 : Int32).toInt = 0 := rfl
  refine x_calli (va_runV (As := [.int x, .int y]) (rest := []) ⟨hx, hb, hml, hown, hts⟩ (k_tone l D g ka ad i r L d j ff n a lv x y hO hR s.heap.size (by first | omega | decide) hff (by first | omega | decide) (by first | omega | decide) (by first | omega | decide) (by first | omega | decide) (fun hF => by omega) (by first | omega | decide) (by first | omega | decide) hNB hrec) (cwV 2 hts gX9_allOf_X9_one rfl rfl rfl (by decide +kernel) ⟨(show 3 * lv + 1 ≤ 3 * lv + 1 by omega), (show 8 + (6 + 11) + (120 * lv) ≤ 120 * lv + 40 by omega)⟩) (x_preV (q := (RX9, TX9, 4)) hH hK (q_obj (lt_nK (by omega)) (kd_tag hj) (by decide)) rfl gxb (gxw hE hS (x_F hH hS hA))) rfl rfl hl.1 rfl (lv_room (Nat.le_of_ble_eq_true rfl)) dX9_allOf_3 ⟨(Nat.le_of_ble_eq_true rfl), (Nat.le_of_ble_eq_true rfl)⟩) hH hS hA rfl rfl (fun r_2 im_4 H locs hw_3 hH hS => ?_)
  have hH : sj_H D A (hwc g ka im_4 r L d) H := hH
  obtain ⟨hO_6, hfr_5, hr_7, he_8, hx2_9⟩ := hw_3
  have hr_7 : (0 : Int) ≤ r_2.toInt ∧ r_2.toInt ≤ 1 := hr_7
  refine lv_istore_n (lv' := [(3, .int r_2), (0, .ref (g (357 + 2 * j))), (1, .int x), (2, .int y)]) hx hb dX9_allOf_6 rfl hl (by decide) rfl (fun ls hl => ?_)
  -- loop at 7
  have lp_10 : ∀ (fuel_lp_10 : Nat) (u : Int32) (j1 : Nat → Nat → Int32) (H : Heap) (locs : List Loc) (ls : Array Slot), ((n : Int) + 41 - (j1 (357 + 2 * j) 2).toInt).toNat < fuel_lp_10 → (0 : Int) ≤ u.toInt ∧ u.toInt ≤ 1 → (j1 (357 + 2 * j) 1).toInt = (i (357 + 2 * j) 1).toInt → (a : Int) ≤ (j1 (357 + 2 * j) 2).toInt ∧ (j1 (357 + 2 * j) 2).toInt ≤ (n : Int) + 41 - y.toInt → ((i (357 + 2 * j) 3).toInt = 0 → (j1 (357 + 2 * j) 3).toInt = 0) → (tgP (i (357 + 2 * j) 3).toInt ((∃ b : Nat, (j1 (357 + 2 * j) 3).toInt = 1 ∧ (j1 (357 + 2 * j) 2).toInt = (b : Int) ∧ a < b ∧ b ≤ n ∧ tgR (tb x) 1 ff n a b (decide (u.toInt = 1))) ∨ ((j1 (357 + 2 * j) 3).toInt = 0 ∧ tgX (tb x) 1 ff n a))) → OkI j1 → (∀ a, ¬ (a = 357 + 2 * j) → j1 a = im_4 a) → lv_has ls 5 [(3, .int u), (0, .ref (g (357 + 2 * j))), (1, .int x), (2, .int y)] → sj_H D A (hwc g ka j1 r L d) H → va_S A s.heap H locs → W p l e (headSpec wsX9_allOf ({ frames := 3 * lv + 1, cells := 0, slots := 0, locals := 120 * lv + 40 })).room s m ([.ref (g (357 + 2 * j)), .int x, .int y] : List Value).toArray below meth c H locs 0 0 (MQ below (sj_Qi (S := (Nat → Nat → Int32)) D (fun v u => OkI u ∧ (∀ a, ¬ (a = 357 + 2 * j) → u a = i a) ∧ ((0 : Int) ≤ v.toInt ∧ v.toInt ≤ 1) ∧ ((u (357 + 2 * j) 1).toInt = (i (357 + 2 * j) 1).toInt ∧ (i (357 + 2 * j) 2).toInt ≤ (u (357 + 2 * j) 2).toInt ∧ (u (357 + 2 * j) 2).toInt ≤ (n : Int) + 41 - y.toInt ∧ ((i (357 + 2 * j) 3).toInt = 0 → (u (357 + 2 * j) 3).toInt = 0)) ∧ (tgP (i (357 + 2 * j) 3).toInt ((∃ b : Nat, (u (357 + 2 * j) 3).toInt = 1 ∧ (u (357 + 2 * j) 2).toInt = (b : Int) ∧ a < b ∧ b ≤ n ∧ tgR (tb x) 1 ff n a b (decide (v.toInt = 1)) ∧ (n ≤ b ∨ (ff b).toInt ≠ 38)) ∨ ((u (357 + 2 * j) 3).toInt = 0 ∧ tgX (tb x) 1 ff n a)))) (fun u => hwc g ka u r L d) (fun _ => []) A) ([.ref (g (357 + 2 * j)), .int x, .int y] : List Value).toArray s 0 0 A) (F0 m 7 ls []) := by
    intro fuel_lp_10
    induction fuel_lp_10 with
    | zero => intros; omega
    | succ fuel_lp_10 ih_lp_10 =>
      intro u j1 H locs ls hm hr_u hi_lp_10_0 hi_lp_10_1 hi_lp_10_2 hi_lp_10_3 hO_j1 hfr_j1 hl hH hS
      refine lv_aload_n hx hb dX9_allOf_7 rfl (lv_at hl 1 rfl) ?_
      have bx_11 : (0 : Int) ≤ (j1 (357 + 2 * j) 2).toInt ∧ (j1 (357 + 2 * j) 2).toInt ≤ 127 := by have h9 := hO_j1 (357 + 2 * j) 2; rw [bx_tag hj 2] at h9; exact h9
      refine h_geti (ci := 9) (C := RX9) (F := TX9) (N := 4) hx hb hts in9 hown hK hH (lt_nK (by omega)) (kd_tag hj) (by decide) rfl 2 (by decide) wd0 (fun _ h9 => h9) (by decide) rfl dX9_allOf_8 ?_
      refine lv_aload_n hx hb dX9_allOf_11 rfl (lv_at hl 1 rfl) ?_
      have bx_12 : (0 : Int) ≤ (j1 (357 + 2 * j) 1).toInt ∧ (j1 (357 + 2 * j) 1).toInt ≤ 40 := by have h9 := hO_j1 (357 + 2 * j) 1; rw [bx_tag hj 1] at h9; exact h9
      refine h_geti (ci := 9) (C := RX9) (F := TX9) (N := 4) hx hb hts in9 hown hK hH (lt_nK (by omega)) (kd_tag hj) (by decide) rfl 1 (by decide) wd1 (fun _ h9 => h9) (by decide) rfl dX9_allOf_12 ?_
      refine lv_icmp_ge (tgt := 68) hx hb dX9_allOf_15 (by decide) (fun c_13 => ?_) (fun c_13 => ?_)
      · skip
        have h_14 := s_le (rfl : (j1 (357 + 2 * j) 1).toInt = _) (rfl : (j1 (357 + 2 * j) 2).toInt = _) c_13
        refine lv_iload_n hx hb dX9_allOf_68 rfl (lv_at hl 0 rfl) ?_
        have hz1 : (1 : Int32).toInt = 1 := rfl
        have hz0 : (0 : Int32).toInt = 0 := rfl
        have hz1 : (1 : Int32).toInt = 1 := rfl
        have hz0 : (0 : Int32).toInt = 0 := rfl
        exact sj_zret hx hb hr hlocks (s_nz ⟨by omega, by omega⟩) hS j1 ⟨hO_j1, (fun a ha => ((hfr_j1 a (by omega)).trans (hfr_5 a (by omega)))), ⟨by omega, by omega⟩, (by refine ⟨?_, ?_, ?_, ?_⟩ <;> omega), (fun hF => by
      rcases hi_lp_10_3 hF with ⟨b9, e1, e2, e3, e4, e5⟩ | ⟨e1, e2⟩
      · exact Or.inl ⟨b9, by omega, by omega, by omega, by omega, e5, by
          by_cases hcn : n ≤ b9
          · exact Or.inl hcn
          · have hcb : ff b9 = i (357 + 2 * j + 1) (j1 (357 + 2 * j) 2).toInt.toNat := by rw [hff, show (j1 (357 + 2 * j) 2).toInt.toNat = b9 by omega]
            have hci := congrArg Int32.toInt hcb
            exact Or.inr (by omega)⟩
      · exact Or.inr ⟨by omega, e2⟩)⟩ hH (sj_Knil hK) (Nat.le_of_ble_eq_true rfl) (Nat.le_of_ble_eq_true rfl) dX9_allOf_69
      · skip
        have h_15 := s_nle (rfl : (j1 (357 + 2 * j) 1).toInt = _) (rfl : (j1 (357 + 2 * j) 2).toInt = _) c_13
        refine lv_aload_n hx hb dX9_allOf_18 rfl (lv_at hl 1 rfl) ?_
        refine h_getr (ci := 9) (C := RX9) (F := TX9) (N := 4) hx hb hts in9 hown hK hH (lt_nK (by omega)) (kd_tag hj) (by decide) rfl 0 (by decide) wd2 (fun _ h9 => h9) (by decide) rfl (t := (357 + 2 * j + 1)) ((hR _ _ (by unfold dyn; simp <;> omega)).trans (sr_tag (by omega))) (lt_nK (by omega)) dX9_allOf_19 ?_
        refine lv_aload_n hx hb dX9_allOf_22 rfl (lv_at hl 1 rfl) ?_
        refine h_geti (ci := 9) (C := RX9) (F := TX9) (N := 4) hx hb hts in9 hown hK hH (lt_nK (by omega)) (kd_tag hj) (by decide) rfl 2 (by decide) wd0 (fun _ h9 => h9) (by decide) rfl dX9_allOf_23 ?_
        have bx_16 : (0 : Int) ≤ (i (357 + 2 * j + 1) ((j1 (357 + 2 * j) 2).toInt).toNat).toInt ∧ (i (357 + 2 * j + 1) ((j1 (357 + 2 * j) 2).toInt).toNat).toInt ≤ 65535 := by have h9 := hO (357 + 2 * j + 1) ((j1 (357 + 2 * j) 2).toInt).toNat; rw [bx_taga hj ((j1 (357 + 2 * j) 2).toInt).toNat] at h9; exact h9
        refine h_cald hx hb hK hH (lt_nK (by omega)) (kd_taga hj) (s_vin (N := 40) (rfl : (j1 (357 + 2 * j) 2).toInt = _) (ln_taga hj) (by omega) (by omega)) dX9_allOf_26 ?_
        have ek_17 : (j1 (357 + 2 * j) 2).toNatClampNeg = ((j1 (357 + 2 * j) 2).toInt).toNat := (s_cl (show (j1 (357 + 2 * j) 2).toInt = (j1 (357 + 2 * j) 2).toInt by omega))
        refine sj_i (y := (i (357 + 2 * j + 1) ((j1 (357 + 2 * j) 2).toInt).toNat)) (by rw [ek_17]; exact ((congrFun (hfr_j1 (357 + 2 * j + 1) (by omega)) _).trans (congrFun (hfr_5 (357 + 2 * j + 1) (by omega)) _))) ?_
        refine lv_bipush (v := 38) hx hb dX9_allOf_27 (by decide) ?_
        refine lv_icmp_ne (tgt := 68) hx hb dX9_allOf_29 (by decide) (fun c_18 => ?_) (fun c_18 => ?_)
        · skip
          have h_19 := s_ne (rfl : (i (357 + 2 * j + 1) ((j1 (357 + 2 * j) 2).toInt).toNat).toInt = _) (show (38 : Int32).toInt = 38 from rfl) c_18
          refine lv_iload_n hx hb dX9_allOf_68 rfl (lv_at hl 0 rfl) ?_
          have hz1 : (1 : Int32).toInt = 1 := rfl
          have hz0 : (0 : Int32).toInt = 0 := rfl
          have hz1 : (1 : Int32).toInt = 1 := rfl
          have hz0 : (0 : Int32).toInt = 0 := rfl
          exact sj_zret hx hb hr hlocks (s_nz ⟨by omega, by omega⟩) hS j1 ⟨hO_j1, (fun a ha => ((hfr_j1 a (by omega)).trans (hfr_5 a (by omega)))), ⟨by omega, by omega⟩, (by refine ⟨?_, ?_, ?_, ?_⟩ <;> omega), (fun hF => by
      rcases hi_lp_10_3 hF with ⟨b9, e1, e2, e3, e4, e5⟩ | ⟨e1, e2⟩
      · exact Or.inl ⟨b9, by omega, by omega, by omega, by omega, e5, by
          by_cases hcn : n ≤ b9
          · exact Or.inl hcn
          · have hcb : ff b9 = i (357 + 2 * j + 1) (j1 (357 + 2 * j) 2).toInt.toNat := by rw [hff, show (j1 (357 + 2 * j) 2).toInt.toNat = b9 by omega]
            have hci := congrArg Int32.toInt hcb
            exact Or.inr (by omega)⟩
      · exact Or.inr ⟨by omega, e2⟩)⟩ hH (sj_Knil hK) (Nat.le_of_ble_eq_true rfl) (Nat.le_of_ble_eq_true rfl) dX9_allOf_69
        · skip
          have h_20 := s_eq (rfl : (i (357 + 2 * j + 1) ((j1 (357 + 2 * j) 2).toInt).toNat).toInt = _) (show (38 : Int32).toInt = 38 from rfl) c_18
          refine lv_aload_n hx hb dX9_allOf_32 rfl (lv_at hl 1 rfl) ?_
          refine lv_dup hx hb dX9_allOf_33 rfl ?_
          refine h_geti (ci := 9) (C := RX9) (F := TX9) (N := 4) hx hb hts in9 hown hK hH (lt_nK (by omega)) (kd_tag hj) (by decide) rfl 2 (by decide) wd0 (fun _ h9 => h9) (by decide) rfl dX9_allOf_34 ?_
          refine lv_iconst (v := 1) hx hb dX9_allOf_37 (by decide) ?_
          refine lv_iadd hx hb dX9_allOf_38 ?_
          obtain ⟨z_21, ez_21, hz_21⟩ := s_add (rfl : (j1 (357 + 2 * j) 2).toInt = _) (show (1 : Int32).toInt = 1 from rfl) (by omega) (by omega)
          refine sj_i ez_21 ?_
          have hO_22 := okp hO_j1 (n := (357 + 2 * j)) (k := 2) (v := z_21) (by rw [bx_tag hj 2]; exact (show (0 : Int) ≤ (z_21 : Int32).toInt ∧ (z_21 : Int32).toInt ≤ 127 from ⟨by omega, by omega⟩))
          refine h_puti (ty := .int) (ci := 9) (C := RX9) (F := TX9) (N := 4) hx hb hts in9 tyX9 tyX9_ok nmX9 hown hK hH hS (lt_nK (by omega)) (kd_tag hj) (by decide) rfl 2 (by decide) wd0 (fun _ h9 => h9) rfl (by decide +kernel) rfl rfl (by decide) rfl dX9_allOf_39 (fun H locs hH hS => ?_)
          refine lv_aload_n hx hb dX9_allOf_42 rfl (lv_at hl 1 rfl) ?_
          refine lv_iload_n hx hb dX9_allOf_43 rfl (lv_at hl 2 rfl) ?_
          refine lv_iload_n hx hb dX9_allOf_44 rfl (lv_at hl 3 rfl) ?_
          have hz1 : (1 : Int32).toInt = 1 := rfl
          have hz0 : (0 : Int32).toInt = 0 := rfl
          have hw_23 : ((up2 j1 (357 + 2 * j) 2 z_21) (357 + 2 * j) 1).toInt = ((j1 (357 + 2 * j) 1) : Int32).toInt := congrArg Int32.toInt ((up2_k _ _ (by decide)))
          have hw_24 : ((up2 j1 (357 + 2 * j) 2 z_21) (357 + 2 * j) 2).toInt = (z_21 : Int32).toInt := congrArg Int32.toInt ((up2_at _ _ _ _))
          have hw_25 : ((up2 j1 (357 + 2 * j) 2 z_21) (357 + 2 * j) 3).toInt = ((j1 (357 + 2 * j) 3) : Int32).toInt := congrArg Int32.toInt ((up2_k _ _ (by decide)))
          refine x_calli (va_runV (As := [.int x, .int y]) (rest := []) ⟨hx, hb, hml, hown, hts⟩ (k_tone l D g ka ad (up2 j1 (357 + 2 * j) 2 z_21) r L d j ff n ((j1 (357 + 2 * j) 2).toInt.toNat + 1) lv x y hO_22 hR H.size (by first | omega | decide) (((up2_n _ _ (by omega)).trans ((hfr_j1 (357 + 2 * j + 1) (by omega)).trans (hfr_5 (357 + 2 * j + 1) (by omega)))).trans hff) (by first | omega | decide) (by first | omega | decide) (by first | omega | decide) (by first | omega | decide) (fun hF => by omega) (by first | omega | decide) (by first | omega | decide) hNB hrec) (cwV 2 hts gX9_allOf_X9_one rfl rfl rfl (by decide +kernel) ⟨(show 3 * lv + 1 ≤ 3 * lv + 1 by omega), (show 8 + (6 + 11) + (120 * lv) ≤ 120 * lv + 40 by omega)⟩) (x_preV (q := (RX9, TX9, 4)) hH hK (q_obj (lt_nK (by omega)) (kd_tag hj) (by decide)) rfl gxb (gxw hE hS (x_F hH hS hA))) rfl rfl hl.1 rfl (lv_room (Nat.le_of_ble_eq_true rfl)) dX9_allOf_45 ⟨(Nat.le_of_ble_eq_true rfl), (Nat.le_of_ble_eq_true rfl)⟩) hH hS hA rfl rfl (fun r_26 im_28 H locs hw_27 hH hS => ?_)
          have hH : sj_H D A (hwc g ka im_28 r L d) H := hH
          obtain ⟨hO_30, hfr_29, hr_31, he_32, hx2_33⟩ := hw_27
          have hr_31 : (0 : Int) ≤ r_26.toInt ∧ r_26.toInt ≤ 1 := hr_31
          refine lv_istore (lv' := [(4, .int r_26), (3, .int u), (0, .ref (g (357 + 2 * j))), (1, .int x), (2, .int y)]) hx hb dX9_allOf_48 hl (by decide) rfl (fun ls hl => ?_)
          refine lv_iload_n hx hb dX9_allOf_50 rfl (lv_at hl 1 rfl) ?_
          refine lv_if_eq (tgt := 63) hx hb dX9_allOf_51 (by decide) (fun c_34 => ?_) (fun c_34 => ?_)
          · skip
            have h_35 := s_eq (rfl : u.toInt = _) (show (0 : Int32).toInt = 0 from rfl) c_34
            refine lv_iconst (v := 0) hx hb dX9_allOf_63 (by decide) ?_
            refine lv_istore_n (lv' := [(3, .int 0), (4, .int r_26), (0, .ref (g (357 + 2 * j))), (1, .int x), (2, .int y)]) hx hb dX9_allOf_64 rfl hl (by decide) rfl (fun ls hl => ?_)
            refine lv_goto (tgt := 7) hx hb dX9_allOf_65 (by decide) ?_
            have hl_36 : (0 : Int32).toInt = 0 := rfl
            have hz1 : (1 : Int32).toInt = 1 := rfl
            have hz0 : (0 : Int32).toInt = 0 := rfl
            exact ih_lp_10 0 _ _ _ ls (by omega) (by omega) (by omega) (by omega) (by omega) (fun hF => by
      have hcb : ff (j1 (357 + 2 * j) 2).toInt.toNat = i (357 + 2 * j + 1) (j1 (357 + 2 * j) 2).toInt.toNat := by rw [hff]
      have hci := congrArg Int32.toInt hcb
      have hcf : (ff (j1 (357 + 2 * j) 2).toInt.toNat).toInt = 38 := by omega
      rcases hi_lp_10_3 hF with ⟨b9, e1, e2, e3, e4, e5⟩ | ⟨e1, e2⟩
      · have eb : (j1 (357 + 2 * j) 2).toInt.toNat = b9 := by omega
        rw [eb] at hcf
        rcases hx2_33 (by omega) with ⟨c9, g1, g2, g3, g4, g5⟩ | ⟨g1, g2⟩
        · have hd : (decide (u.toInt = 1) && decide (r_26.toInt = 1)) = decide ((0 : Int32).toInt = 1) := by
            by_cases q1 : u.toInt = 1 <;> by_cases q2 : r_26.toInt = 1 <;> simp only [q1, q2] <;> first | rfl | (rw [eq_comm]; simp only [decide_eq_true_eq, decide_eq_false_iff_not]; omega) | (simp; omega)
          rw [eb] at g5
          have hR9 := all_step (T := tb x) e5 (by omega) hcf g5
          rw [hd] at hR9
          exact Or.inl ⟨c9, by omega, by omega, by omega, by omega, hR9⟩
        · rw [eb] at g2
          exact Or.inr ⟨by omega, all_X e5 (by omega) hcf g2⟩
      · exact Or.inr ⟨by omega, e2⟩) hO_30 (fun a ha => ((hfr_29 a (by omega)).trans ((up2_n _ _ (by omega)).trans (hfr_j1 a (by omega))))) (lv_sub hl [0, 2, 3, 4] rfl) hH hS
          · skip
            have h_37 := s_ne (rfl : u.toInt = _) (show (0 : Int32).toInt = 0 from rfl) c_34
            refine lv_iload hx hb dX9_allOf_54 (lv_at hl 0 rfl) ?_
            refine lv_if_eq (tgt := 63) hx hb dX9_allOf_56 (by decide) (fun c_38 => ?_) (fun c_38 => ?_)
            · skip
              have h_39 := s_eq (rfl : r_26.toInt = _) (show (0 : Int32).toInt = 0 from rfl) c_38
              refine lv_iconst (v := 0) hx hb dX9_allOf_63 (by decide) ?_
              refine lv_istore_n (lv' := [(3, .int 0), (4, .int r_26), (0, .ref (g (357 + 2 * j))), (1, .int x), (2, .int y)]) hx hb dX9_allOf_64 rfl hl (by decide) rfl (fun ls hl => ?_)
              refine lv_goto (tgt := 7) hx hb dX9_allOf_65 (by decide) ?_
              have hl_40 : (0 : Int32).toInt = 0 := rfl
              have hz1 : (1 : Int32).toInt = 1 := rfl
              have hz0 : (0 : Int32).toInt = 0 := rfl
              exact ih_lp_10 0 _ _ _ ls (by omega) (by omega) (by omega) (by omega) (by omega) (fun hF => by
      have hcb : ff (j1 (357 + 2 * j) 2).toInt.toNat = i (357 + 2 * j + 1) (j1 (357 + 2 * j) 2).toInt.toNat := by rw [hff]
      have hci := congrArg Int32.toInt hcb
      have hcf : (ff (j1 (357 + 2 * j) 2).toInt.toNat).toInt = 38 := by omega
      rcases hi_lp_10_3 hF with ⟨b9, e1, e2, e3, e4, e5⟩ | ⟨e1, e2⟩
      · have eb : (j1 (357 + 2 * j) 2).toInt.toNat = b9 := by omega
        rw [eb] at hcf
        rcases hx2_33 (by omega) with ⟨c9, g1, g2, g3, g4, g5⟩ | ⟨g1, g2⟩
        · have hd : (decide (u.toInt = 1) && decide (r_26.toInt = 1)) = decide ((0 : Int32).toInt = 1) := by
            by_cases q1 : u.toInt = 1 <;> by_cases q2 : r_26.toInt = 1 <;> simp only [q1, q2] <;> first | rfl | (rw [eq_comm]; simp only [decide_eq_true_eq, decide_eq_false_iff_not]; omega) | (simp; omega)
          rw [eb] at g5
          have hR9 := all_step (T := tb x) e5 (by omega) hcf g5
          rw [hd] at hR9
          exact Or.inl ⟨c9, by omega, by omega, by omega, by omega, hR9⟩
        · rw [eb] at g2
          exact Or.inr ⟨by omega, all_X e5 (by omega) hcf g2⟩
      · exact Or.inr ⟨by omega, e2⟩) hO_30 (fun a ha => ((hfr_29 a (by omega)).trans ((up2_n _ _ (by omega)).trans (hfr_j1 a (by omega))))) (lv_sub hl [0, 2, 3, 4] rfl) hH hS
            · skip
              have h_41 := s_ne (rfl : r_26.toInt = _) (show (0 : Int32).toInt = 0 from rfl) c_38
              refine lv_iconst (v := 1) hx hb dX9_allOf_59 (by decide) ?_
              refine lv_goto (tgt := 64) hx hb dX9_allOf_60 (by decide) ?_
              refine lv_istore_n (lv' := [(3, .int 1), (4, .int r_26), (0, .ref (g (357 + 2 * j))), (1, .int x), (2, .int y)]) hx hb dX9_allOf_64 rfl hl (by decide) rfl (fun ls hl => ?_)
              refine lv_goto (tgt := 7) hx hb dX9_allOf_65 (by decide) ?_
              have hl_42 : (1 : Int32).toInt = 1 := rfl
              have hz1 : (1 : Int32).toInt = 1 := rfl
              have hz0 : (0 : Int32).toInt = 0 := rfl
              exact ih_lp_10 1 _ _ _ ls (by omega) (by omega) (by omega) (by omega) (by omega) (fun hF => by
      have hcb : ff (j1 (357 + 2 * j) 2).toInt.toNat = i (357 + 2 * j + 1) (j1 (357 + 2 * j) 2).toInt.toNat := by rw [hff]
      have hci := congrArg Int32.toInt hcb
      have hcf : (ff (j1 (357 + 2 * j) 2).toInt.toNat).toInt = 38 := by omega
      rcases hi_lp_10_3 hF with ⟨b9, e1, e2, e3, e4, e5⟩ | ⟨e1, e2⟩
      · have eb : (j1 (357 + 2 * j) 2).toInt.toNat = b9 := by omega
        rw [eb] at hcf
        rcases hx2_33 (by omega) with ⟨c9, g1, g2, g3, g4, g5⟩ | ⟨g1, g2⟩
        · have hd : (decide (u.toInt = 1) && decide (r_26.toInt = 1)) = decide ((1 : Int32).toInt = 1) := by
            by_cases q1 : u.toInt = 1 <;> by_cases q2 : r_26.toInt = 1 <;> simp only [q1, q2] <;> first | rfl | (rw [eq_comm]; simp only [decide_eq_true_eq, decide_eq_false_iff_not]; omega) | (simp; omega)
          rw [eb] at g5
          have hR9 := all_step (T := tb x) e5 (by omega) hcf g5
          rw [hd] at hR9
          exact Or.inl ⟨c9, by omega, by omega, by omega, by omega, hR9⟩
        · rw [eb] at g2
          exact Or.inr ⟨by omega, all_X e5 (by omega) hcf g2⟩
      · exact Or.inr ⟨by omega, e2⟩) hO_30 (fun a ha => ((hfr_29 a (by omega)).trans ((up2_n _ _ (by omega)).trans (hfr_j1 a (by omega))))) (lv_sub hl [0, 2, 3, 4] rfl) hH hS
  have hz1 : (1 : Int32).toInt = 1 := rfl
  have hz0 : (0 : Int32).toInt = 0 := rfl
  exact lp_10 _ r_2 _ _ _ ls (Nat.lt_succ_self _) (by omega) (by omega) (by omega) (by omega) (fun hF => by
      rcases hx2_9 hF with ⟨c9, g1, g2, g3, g4, g5⟩ | ⟨g1, g2⟩
      · exact Or.inl ⟨c9, by omega, by omega, by omega, by omega, tgR_up (by decide) g5⟩
      · exact Or.inr ⟨by omega, tgX_up (by decide) g2⟩) hO_6 (fun a ha => rfl) (lv_sub hl [0, 1, 2, 3] rfl) hH hS
set_option maxHeartbeats 2000000 in
set_option maxRecDepth 100000 in
theorem k_tany (l : Launch) (D : va_G) (g : Nat → Nat) (ka : Nat → ClassId) (ad : Nat → Nat) (i : Nat → Nat → Int32) (r : Nat → Nat → Nat) (L : Nat → Nat → Int64) (d : Nat → Nat → UInt64) (j : Nat) (ff : Nat → Int32) (n : Nat) (a : Nat) (lv : Nat) (x : Int32) (y : Int32) (hO : OkI i) (hR : RS r) (sz : Nat) (hj : j < 11) (hff : i (357 + 2 * j + 1) = ff) (hn : (i (357 + 2 * j) 1).toInt = (n : Int)) (hn40 : n ≤ 40) (ha : (i (357 + 2 * j) 2).toInt = (a : Int)) (han : a ≤ n) (hdp : (i (357 + 2 * j) 3).toInt = 1 → y.toInt ≤ (a : Int)) (hm : y.toInt + (lv : Int) = 40) (hy : 0 ≤ y.toInt) (hNB : ∀ k : Nat, k < n → (ff k).toInt ≠ 32) (hrec : ∀ m9, lv = m9 + 1 → anyS l D g ka ad m9) : Met l yX9_anyOf wsX9_anyOf ({ frames := 3 * lv + 2, cells := 0, slots := 0, locals := 120 * lv + 80 }) (va_Pc [.ref (g (357 + 2 * j)), .int x, .int y] (sj_B D (hwc g ka i r L d) (hT ka) sz (gx ad (va_A (hwc g ka i r L d) sz)))) (sj_Qi (S := (Nat → Nat → Int32)) D (fun v u => OkI u ∧ (∀ a, ¬ (a = 357 + 2 * j) → u a = i a) ∧ ((0 : Int) ≤ v.toInt ∧ v.toInt ≤ 1) ∧ ((u (357 + 2 * j) 1).toInt = (i (357 + 2 * j) 1).toInt ∧ (i (357 + 2 * j) 2).toInt ≤ (u (357 + 2 * j) 2).toInt ∧ (u (357 + 2 * j) 2).toInt ≤ (n : Int) + 41 - y.toInt ∧ ((i (357 + 2 * j) 3).toInt = 0 → (u (357 + 2 * j) 3).toInt = 0)) ∧ (tgP (i (357 + 2 * j) 3).toInt ((∃ b : Nat, (u (357 + 2 * j) 3).toInt = 1 ∧ (u (357 + 2 * j) 2).toInt = (b : Int) ∧ a < b ∧ b ≤ n ∧ tgR (tb x) 2 ff n a b (decide (v.toInt = 1)) ∧ (n ≤ b ∨ ((ff b).toInt ≠ 38 ∧ (ff b).toInt ≠ 124))) ∨ ((u (357 + 2 * j) 3).toInt = 0 ∧ tgX (tb x) 2 ff n a)))) (fun u => hwc g ka u r L d) (fun _ => []) (va_A (hwc g ka i r L d) sz)) 0 0 (va_A (hwc g ka i r L d) sz) := by
  refine x_met (Ex := gx ad) (cc := cX9_anyOf) (maxL := 5) (ret := (some .boolean)) (by decide) rfl (Nat.le_of_ble_eq_true rfl) ?_
  intro p e s m below meth c A ls hx hb hr hml hts hown hlocks hA hS hH hK hE hl
  have hown : s.vm.findClass RX9 = some m.cls := hown
  have in9 : ∀ w ∈ wsX90, w ∈ wsX9_anyOf := (fun _ h => (List.mem_cons_of_mem _ (List.mem_append_right _ h)))
  have wd0 := hts (.fieldLink RX9 33 "StoryDesk$TagExpression" "at" "I") (List.mem_cons_of_mem _ (List.mem_append_left _ lm0))
  have wd1 := hts (.fieldLink RX9 13 "StoryDesk$TagExpression" "count" "I") (List.mem_cons_of_mem _ (List.mem_append_left _ lm1))
  have wd2 := hts (.fieldLink RX9 9 "StoryDesk$TagExpression" "signs" "[C") (List.mem_cons_of_mem _ (List.mem_append_left _ lm2))
  have hl : lv_has ls 5 [(0, .ref (g (357 + 2 * j))), (1, .int x), (2, .int y)] := hl
  have hK : va_K D vwCl (hT ka) s := hK
  have hg_1 := s_rng x
  have hbF : (0 : Int) ≤ (i (357 + 2 * j) 3).toInt ∧ (i (357 + 2 * j) 3).toInt ≤ 1 := by have h9 := hO (357 + 2 * j) 3; rw [bx_tag hj 3] at h9; exact h9
  refine lv_aload_n hx hb dX9_anyOf_0 rfl (lv_at hl 0 rfl) ?_
  refine lv_iload_n hx hb dX9_anyOf_1 rfl (lv_at hl 1 rfl) ?_
  refine lv_iload_n hx hb dX9_anyOf_2 rfl (lv_at hl 2 rfl) ?_
  have hz1 : (1 : Int32).toInt = 1 := rfl
  have hz0 : (0 : Int32).toInt = 0 := rfl
  refine x_calli (va_runV (As := [.int x, .int y]) (rest := []) ⟨hx, hb, hml, hown, hts⟩ (k_tall l D g ka ad i r L d j ff n a lv x y hO hR s.heap.size (by first | omega | decide) hff (by first | omega | decide) (by first | omega | decide) (by first | omega | decide) (by first | omega | decide) (fun hF => by omega) (by first | omega | decide) (by first | omega | decide) hNB hrec) (cwV 2 hts gX9_anyOf_X9_allOf rfl rfl rfl (by decide +kernel) ⟨(show 3 * lv + 1 + 1 ≤ 3 * lv + 2 by omega), (show 8 + (5 + 11) + (120 * lv + 40) ≤ 120 * lv + 80 by omega)⟩) (x_preV (q := (RX9, TX9, 4)) hH hK (q_obj (lt_nK (by omega)) (kd_tag hj) (by decide)) rfl gxb (gxw hE hS (x_F hH hS hA))) rfl rfl hl.1 rfl (lv_room (Nat.le_of_ble_eq_true rfl)) dX9_anyOf_3 ⟨(Nat.le_of_ble_eq_true rfl), (Nat.le_of_ble_eq_true rfl)⟩) hH hS hA rfl rfl (fun r_2 im_4 H locs hw_3 hH hS => ?_)
  have hH : sj_H D A (hwc g ka im_4 r L d) H := hH
  obtain ⟨hO_6, hfr_5, hr_7, he_8, hx2_9⟩ := hw_3
  have hr_7 : (0 : Int) ≤ r_2.toInt ∧ r_2.toInt ≤ 1 := hr_7
  refine lv_istore_n (lv' := [(3, .int r_2), (0, .ref (g (357 + 2 * j))), (1, .int x), (2, .int y)]) hx hb dX9_anyOf_6 rfl hl (by decide) rfl (fun ls hl => ?_)
  -- loop at 7
  have lp_10 : ∀ (fuel_lp_10 : Nat) (u : Int32) (j1 : Nat → Nat → Int32) (H : Heap) (locs : List Loc) (ls : Array Slot), ((n : Int) + 41 - (j1 (357 + 2 * j) 2).toInt).toNat < fuel_lp_10 → (0 : Int) ≤ u.toInt ∧ u.toInt ≤ 1 → (j1 (357 + 2 * j) 1).toInt = (i (357 + 2 * j) 1).toInt → (a : Int) ≤ (j1 (357 + 2 * j) 2).toInt ∧ (j1 (357 + 2 * j) 2).toInt ≤ (n : Int) + 41 - y.toInt → ((i (357 + 2 * j) 3).toInt = 0 → (j1 (357 + 2 * j) 3).toInt = 0) → (tgP (i (357 + 2 * j) 3).toInt ((∃ b : Nat, (j1 (357 + 2 * j) 3).toInt = 1 ∧ (j1 (357 + 2 * j) 2).toInt = (b : Int) ∧ a < b ∧ b ≤ n ∧ tgR (tb x) 2 ff n a b (decide (u.toInt = 1)) ∧ (n ≤ b ∨ (ff b).toInt ≠ 38)) ∨ ((j1 (357 + 2 * j) 3).toInt = 0 ∧ tgX (tb x) 2 ff n a))) → OkI j1 → (∀ a, ¬ (a = 357 + 2 * j) → j1 a = im_4 a) → lv_has ls 5 [(3, .int u), (0, .ref (g (357 + 2 * j))), (1, .int x), (2, .int y)] → sj_H D A (hwc g ka j1 r L d) H → va_S A s.heap H locs → W p l e (headSpec wsX9_anyOf ({ frames := 3 * lv + 2, cells := 0, slots := 0, locals := 120 * lv + 80 })).room s m ([.ref (g (357 + 2 * j)), .int x, .int y] : List Value).toArray below meth c H locs 0 0 (MQ below (sj_Qi (S := (Nat → Nat → Int32)) D (fun v u => OkI u ∧ (∀ a, ¬ (a = 357 + 2 * j) → u a = i a) ∧ ((0 : Int) ≤ v.toInt ∧ v.toInt ≤ 1) ∧ ((u (357 + 2 * j) 1).toInt = (i (357 + 2 * j) 1).toInt ∧ (i (357 + 2 * j) 2).toInt ≤ (u (357 + 2 * j) 2).toInt ∧ (u (357 + 2 * j) 2).toInt ≤ (n : Int) + 41 - y.toInt ∧ ((i (357 + 2 * j) 3).toInt = 0 → (u (357 + 2 * j) 3).toInt = 0)) ∧ (tgP (i (357 + 2 * j) 3).toInt ((∃ b : Nat, (u (357 + 2 * j) 3).toInt = 1 ∧ (u (357 + 2 * j) 2).toInt = (b : Int) ∧ a < b ∧ b ≤ n ∧ tgR (tb x) 2 ff n a b (decide (v.toInt = 1)) ∧ (n ≤ b ∨ ((ff b).toInt ≠ 38 ∧ (ff b).toInt ≠ 124))) ∨ ((u (357 + 2 * j) 3).toInt = 0 ∧ tgX (tb x) 2 ff n a)))) (fun u => hwc g ka u r L d) (fun _ => []) A) ([.ref (g (357 + 2 * j)), .int x, .int y] : List Value).toArray s 0 0 A) (F0 m 7 ls []) := by
    intro fuel_lp_10
    induction fuel_lp_10 with
    | zero => intros; omega
    | succ fuel_lp_10 ih_lp_10 =>
      intro u j1 H locs ls hm hr_u hi_lp_10_0 hi_lp_10_1 hi_lp_10_2 hi_lp_10_3 hO_j1 hfr_j1 hl hH hS
      refine lv_aload_n hx hb dX9_anyOf_7 rfl (lv_at hl 1 rfl) ?_
      have bx_11 : (0 : Int) ≤ (j1 (357 + 2 * j) 2).toInt ∧ (j1 (357 + 2 * j) 2).toInt ≤ 127 := by have h9 := hO_j1 (357 + 2 * j) 2; rw [bx_tag hj 2] at h9; exact h9
      refine h_geti (ci := 9) (C := RX9) (F := TX9) (N := 4) hx hb hts in9 hown hK hH (lt_nK (by omega)) (kd_tag hj) (by decide) rfl 2 (by decide) wd0 (fun _ h9 => h9) (by decide) rfl dX9_anyOf_8 ?_
      refine lv_aload_n hx hb dX9_anyOf_11 rfl (lv_at hl 1 rfl) ?_
      have bx_12 : (0 : Int) ≤ (j1 (357 + 2 * j) 1).toInt ∧ (j1 (357 + 2 * j) 1).toInt ≤ 40 := by have h9 := hO_j1 (357 + 2 * j) 1; rw [bx_tag hj 1] at h9; exact h9
      refine h_geti (ci := 9) (C := RX9) (F := TX9) (N := 4) hx hb hts in9 hown hK hH (lt_nK (by omega)) (kd_tag hj) (by decide) rfl 1 (by decide) wd1 (fun _ h9 => h9) (by decide) rfl dX9_anyOf_12 ?_
      refine lv_icmp_ge (tgt := 68) hx hb dX9_anyOf_15 (by decide) (fun c_13 => ?_) (fun c_13 => ?_)
      · skip
        have h_14 := s_le (rfl : (j1 (357 + 2 * j) 1).toInt = _) (rfl : (j1 (357 + 2 * j) 2).toInt = _) c_13
        refine lv_iload_n hx hb dX9_anyOf_68 rfl (lv_at hl 0 rfl) ?_
        have hz1 : (1 : Int32).toInt = 1 := rfl
        have hz0 : (0 : Int32).toInt = 0 := rfl
        have hz1 : (1 : Int32).toInt = 1 := rfl
        have hz0 : (0 : Int32).toInt = 0 := rfl
        exact sj_zret hx hb hr hlocks (s_nz ⟨by omega, by omega⟩) hS j1 ⟨hO_j1, (fun a ha => ((hfr_j1 a (by omega)).trans (hfr_5 a (by omega)))), ⟨by omega, by omega⟩, (by refine ⟨?_, ?_, ?_, ?_⟩ <;> omega), (fun hF => by
      rcases hi_lp_10_3 hF with ⟨b9, e1, e2, e3, e4, e5⟩ | ⟨e1, e2⟩
      · exact Or.inl ⟨b9, by omega, by omega, by omega, by omega, e5.1, by
          by_cases hcn : n ≤ b9
          · exact Or.inl hcn
          · have hcb : ff b9 = i (357 + 2 * j + 1) (j1 (357 + 2 * j) 2).toInt.toNat := by rw [hff, show (j1 (357 + 2 * j) 2).toInt.toNat = b9 by omega]
            have hci := congrArg Int32.toInt hcb
            exact Or.inr ⟨by omega, by omega⟩⟩
      · exact Or.inr ⟨by omega, e2⟩)⟩ hH (sj_Knil hK) (Nat.le_of_ble_eq_true rfl) (Nat.le_of_ble_eq_true rfl) dX9_anyOf_69
      · skip
        have h_15 := s_nle (rfl : (j1 (357 + 2 * j) 1).toInt = _) (rfl : (j1 (357 + 2 * j) 2).toInt = _) c_13
        refine lv_aload_n hx hb dX9_anyOf_18 rfl (lv_at hl 1 rfl) ?_
        refine h_getr (ci := 9) (C := RX9) (F := TX9) (N := 4) hx hb hts in9 hown hK hH (lt_nK (by omega)) (kd_tag hj) (by decide) rfl 0 (by decide) wd2 (fun _ h9 => h9) (by decide) rfl (t := (357 + 2 * j + 1)) ((hR _ _ (by unfold dyn; simp <;> omega)).trans (sr_tag (by omega))) (lt_nK (by omega)) dX9_anyOf_19 ?_
        refine lv_aload_n hx hb dX9_anyOf_22 rfl (lv_at hl 1 rfl) ?_
        refine h_geti (ci := 9) (C := RX9) (F := TX9) (N := 4) hx hb hts in9 hown hK hH (lt_nK (by omega)) (kd_tag hj) (by decide) rfl 2 (by decide) wd0 (fun _ h9 => h9) (by decide) rfl dX9_anyOf_23 ?_
        have bx_16 : (0 : Int) ≤ (i (357 + 2 * j + 1) ((j1 (357 + 2 * j) 2).toInt).toNat).toInt ∧ (i (357 + 2 * j + 1) ((j1 (357 + 2 * j) 2).toInt).toNat).toInt ≤ 65535 := by have h9 := hO (357 + 2 * j + 1) ((j1 (357 + 2 * j) 2).toInt).toNat; rw [bx_taga hj ((j1 (357 + 2 * j) 2).toInt).toNat] at h9; exact h9
        refine h_cald hx hb hK hH (lt_nK (by omega)) (kd_taga hj) (s_vin (N := 40) (rfl : (j1 (357 + 2 * j) 2).toInt = _) (ln_taga hj) (by omega) (by omega)) dX9_anyOf_26 ?_
        have ek_17 : (j1 (357 + 2 * j) 2).toNatClampNeg = ((j1 (357 + 2 * j) 2).toInt).toNat := (s_cl (show (j1 (357 + 2 * j) 2).toInt = (j1 (357 + 2 * j) 2).toInt by omega))
        refine sj_i (y := (i (357 + 2 * j + 1) ((j1 (357 + 2 * j) 2).toInt).toNat)) (by rw [ek_17]; exact ((congrFun (hfr_j1 (357 + 2 * j + 1) (by omega)) _).trans (congrFun (hfr_5 (357 + 2 * j + 1) (by omega)) _))) ?_
        refine lv_bipush (v := 124) hx hb dX9_anyOf_27 (by decide) ?_
        refine lv_icmp_ne (tgt := 68) hx hb dX9_anyOf_29 (by decide) (fun c_18 => ?_) (fun c_18 => ?_)
        · skip
          have h_19 := s_ne (rfl : (i (357 + 2 * j + 1) ((j1 (357 + 2 * j) 2).toInt).toNat).toInt = _) (show (124 : Int32).toInt = 124 from rfl) c_18
          refine lv_iload_n hx hb dX9_anyOf_68 rfl (lv_at hl 0 rfl) ?_
          have hz1 : (1 : Int32).toInt = 1 := rfl
          have hz0 : (0 : Int32).toInt = 0 := rfl
          have hz1 : (1 : Int32).toInt = 1 := rfl
          have hz0 : (0 : Int32).toInt = 0 := rfl
          exact sj_zret hx hb hr hlocks (s_nz ⟨by omega, by omega⟩) hS j1 ⟨hO_j1, (fun a ha => ((hfr_j1 a (by omega)).trans (hfr_5 a (by omega)))), ⟨by omega, by omega⟩, (by refine ⟨?_, ?_, ?_, ?_⟩ <;> omega), (fun hF => by
      rcases hi_lp_10_3 hF with ⟨b9, e1, e2, e3, e4, e5⟩ | ⟨e1, e2⟩
      · exact Or.inl ⟨b9, by omega, by omega, by omega, by omega, e5.1, by
          by_cases hcn : n ≤ b9
          · exact Or.inl hcn
          · have hcb : ff b9 = i (357 + 2 * j + 1) (j1 (357 + 2 * j) 2).toInt.toNat := by rw [hff, show (j1 (357 + 2 * j) 2).toInt.toNat = b9 by omega]
            have hci := congrArg Int32.toInt hcb
            exact Or.inr ⟨by omega, by omega⟩⟩
      · exact Or.inr ⟨by omega, e2⟩)⟩ hH (sj_Knil hK) (Nat.le_of_ble_eq_true rfl) (Nat.le_of_ble_eq_true rfl) dX9_anyOf_69
        · skip
          have h_20 := s_eq (rfl : (i (357 + 2 * j + 1) ((j1 (357 + 2 * j) 2).toInt).toNat).toInt = _) (show (124 : Int32).toInt = 124 from rfl) c_18
          refine lv_aload_n hx hb dX9_anyOf_32 rfl (lv_at hl 1 rfl) ?_
          refine lv_dup hx hb dX9_anyOf_33 rfl ?_
          refine h_geti (ci := 9) (C := RX9) (F := TX9) (N := 4) hx hb hts in9 hown hK hH (lt_nK (by omega)) (kd_tag hj) (by decide) rfl 2 (by decide) wd0 (fun _ h9 => h9) (by decide) rfl dX9_anyOf_34 ?_
          refine lv_iconst (v := 1) hx hb dX9_anyOf_37 (by decide) ?_
          refine lv_iadd hx hb dX9_anyOf_38 ?_
          obtain ⟨z_21, ez_21, hz_21⟩ := s_add (rfl : (j1 (357 + 2 * j) 2).toInt = _) (show (1 : Int32).toInt = 1 from rfl) (by omega) (by omega)
          refine sj_i ez_21 ?_
          have hO_22 := okp hO_j1 (n := (357 + 2 * j)) (k := 2) (v := z_21) (by rw [bx_tag hj 2]; exact (show (0 : Int) ≤ (z_21 : Int32).toInt ∧ (z_21 : Int32).toInt ≤ 127 from ⟨by omega, by omega⟩))
          refine h_puti (ty := .int) (ci := 9) (C := RX9) (F := TX9) (N := 4) hx hb hts in9 tyX9 tyX9_ok nmX9 hown hK hH hS (lt_nK (by omega)) (kd_tag hj) (by decide) rfl 2 (by decide) wd0 (fun _ h9 => h9) rfl (by decide +kernel) rfl rfl (by decide) rfl dX9_anyOf_39 (fun H locs hH hS => ?_)
          refine lv_aload_n hx hb dX9_anyOf_42 rfl (lv_at hl 1 rfl) ?_
          refine lv_iload_n hx hb dX9_anyOf_43 rfl (lv_at hl 2 rfl) ?_
          refine lv_iload_n hx hb dX9_anyOf_44 rfl (lv_at hl 3 rfl) ?_
          have hz1 : (1 : Int32).toInt = 1 := rfl
          have hz0 : (0 : Int32).toInt = 0 := rfl
          have hw_23 : ((up2 j1 (357 + 2 * j) 2 z_21) (357 + 2 * j) 1).toInt = ((j1 (357 + 2 * j) 1) : Int32).toInt := congrArg Int32.toInt ((up2_k _ _ (by decide)))
          have hw_24 : ((up2 j1 (357 + 2 * j) 2 z_21) (357 + 2 * j) 2).toInt = (z_21 : Int32).toInt := congrArg Int32.toInt ((up2_at _ _ _ _))
          have hw_25 : ((up2 j1 (357 + 2 * j) 2 z_21) (357 + 2 * j) 3).toInt = ((j1 (357 + 2 * j) 3) : Int32).toInt := congrArg Int32.toInt ((up2_k _ _ (by decide)))
          refine x_calli (va_runV (As := [.int x, .int y]) (rest := []) ⟨hx, hb, hml, hown, hts⟩ (k_tall l D g ka ad (up2 j1 (357 + 2 * j) 2 z_21) r L d j ff n ((j1 (357 + 2 * j) 2).toInt.toNat + 1) lv x y hO_22 hR H.size (by first | omega | decide) (((up2_n _ _ (by omega)).trans ((hfr_j1 (357 + 2 * j + 1) (by omega)).trans (hfr_5 (357 + 2 * j + 1) (by omega)))).trans hff) (by first | omega | decide) (by first | omega | decide) (by first | omega | decide) (by first | omega | decide) (fun hF => by omega) (by first | omega | decide) (by first | omega | decide) hNB hrec) (cwV 2 hts gX9_anyOf_X9_allOf rfl rfl rfl (by decide +kernel) ⟨(show 3 * lv + 1 + 1 ≤ 3 * lv + 2 by omega), (show 8 + (5 + 11) + (120 * lv + 40) ≤ 120 * lv + 80 by omega)⟩) (x_preV (q := (RX9, TX9, 4)) hH hK (q_obj (lt_nK (by omega)) (kd_tag hj) (by decide)) rfl gxb (gxw hE hS (x_F hH hS hA))) rfl rfl hl.1 rfl (lv_room (Nat.le_of_ble_eq_true rfl)) dX9_anyOf_45 ⟨(Nat.le_of_ble_eq_true rfl), (Nat.le_of_ble_eq_true rfl)⟩) hH hS hA rfl rfl (fun r_26 im_28 H locs hw_27 hH hS => ?_)
          have hH : sj_H D A (hwc g ka im_28 r L d) H := hH
          obtain ⟨hO_30, hfr_29, hr_31, he_32, hx2_33⟩ := hw_27
          have hr_31 : (0 : Int) ≤ r_26.toInt ∧ r_26.toInt ≤ 1 := hr_31
          refine lv_istore (lv' := [(4, .int r_26), (3, .int u), (0, .ref (g (357 + 2 * j))), (1, .int x), (2, .int y)]) hx hb dX9_anyOf_48 hl (by decide) rfl (fun ls hl => ?_)
          refine lv_iload_n hx hb dX9_anyOf_50 rfl (lv_at hl 1 rfl) ?_
          refine lv_if_ne (tgt := 59) hx hb dX9_anyOf_51 (by decide) (fun c_34 => ?_) (fun c_34 => ?_)
          · skip
            have h_35 := s_ne (rfl : u.toInt = _) (show (0 : Int32).toInt = 0 from rfl) c_34
            refine lv_iconst (v := 1) hx hb dX9_anyOf_59 (by decide) ?_
            refine lv_goto (tgt := 64) hx hb dX9_anyOf_60 (by decide) ?_
            refine lv_istore_n (lv' := [(3, .int 1), (4, .int r_26), (0, .ref (g (357 + 2 * j))), (1, .int x), (2, .int y)]) hx hb dX9_anyOf_64 rfl hl (by decide) rfl (fun ls hl => ?_)
            refine lv_goto (tgt := 7) hx hb dX9_anyOf_65 (by decide) ?_
            have hl_36 : (1 : Int32).toInt = 1 := rfl
            have hz1 : (1 : Int32).toInt = 1 := rfl
            have hz0 : (0 : Int32).toInt = 0 := rfl
            exact ih_lp_10 1 _ _ _ ls (by omega) (by omega) (by omega) (by omega) (by omega) (fun hF => by
      have hcb : ff (j1 (357 + 2 * j) 2).toInt.toNat = i (357 + 2 * j + 1) (j1 (357 + 2 * j) 2).toInt.toNat := by rw [hff]
      have hci := congrArg Int32.toInt hcb
      have hcf : (ff (j1 (357 + 2 * j) 2).toInt.toNat).toInt = 124 := by omega
      rcases hi_lp_10_3 hF with ⟨b9, e1, e2, e3, e4, e5⟩ | ⟨e1, e2⟩
      · have eb : (j1 (357 + 2 * j) 2).toInt.toNat = b9 := by omega
        rw [eb] at hcf
        rcases hx2_33 (by omega) with ⟨c9, g1, g2, g3, g4, g5⟩ | ⟨g1, g2⟩
        · have hd : (decide (u.toInt = 1) || decide (r_26.toInt = 1)) = decide ((1 : Int32).toInt = 1) := by
            by_cases q1 : u.toInt = 1 <;> by_cases q2 : r_26.toInt = 1 <;> simp only [q1, q2] <;> first | rfl | (rw [eq_comm]; simp only [decide_eq_true_eq, decide_eq_false_iff_not]; omega) | (simp; omega)
          rw [eb] at g5
          have hR9 := any_step (T := tb x) e5.1 (by omega) hcf g5.1 (nc_and g5.2 (hNB c9))
          rw [hd] at hR9
          exact Or.inl ⟨c9, by omega, by omega, by omega, by omega, hR9, g5.2⟩
        · rw [eb] at g2
          exact Or.inr ⟨by omega, any_X e5.1 (by omega) hcf g2⟩
      · exact Or.inr ⟨by omega, e2⟩) hO_30 (fun a ha => ((hfr_29 a (by omega)).trans ((up2_n _ _ (by omega)).trans (hfr_j1 a (by omega))))) (lv_sub hl [0, 2, 3, 4] rfl) hH hS
          · skip
            have h_37 := s_eq (rfl : u.toInt = _) (show (0 : Int32).toInt = 0 from rfl) c_34
            refine lv_iload hx hb dX9_anyOf_54 (lv_at hl 0 rfl) ?_
            refine lv_if_eq (tgt := 63) hx hb dX9_anyOf_56 (by decide) (fun c_38 => ?_) (fun c_38 => ?_)
            · skip
              have h_39 := s_eq (rfl : r_26.toInt = _) (show (0 : Int32).toInt = 0 from rfl) c_38
              refine lv_iconst (v := 0) hx hb dX9_anyOf_63 (by decide) ?_
              refine lv_istore_n (lv' := [(3, .int 0), (4, .int r_26), (0, .ref (g (357 + 2 * j))), (1, .int x), (2, .int y)]) hx hb dX9_anyOf_64 rfl hl (by decide) rfl (fun ls hl => ?_)
              refine lv_goto (tgt := 7) hx hb dX9_anyOf_65 (by decide) ?_
              have hl_40 : (0 : Int32).toInt = 0 := rfl
              have hz1 : (1 : Int32).toInt = 1 := rfl
              have hz0 : (0 : Int32).toInt = 0 := rfl
              exact ih_lp_10 0 _ _ _ ls (by omega) (by omega) (by omega) (by omega) (by omega) (fun hF => by
      have hcb : ff (j1 (357 + 2 * j) 2).toInt.toNat = i (357 + 2 * j + 1) (j1 (357 + 2 * j) 2).toInt.toNat := by rw [hff]
      have hci := congrArg Int32.toInt hcb
      have hcf : (ff (j1 (357 + 2 * j) 2).toInt.toNat).toInt = 124 := by omega
      rcases hi_lp_10_3 hF with ⟨b9, e1, e2, e3, e4, e5⟩ | ⟨e1, e2⟩
      · have eb : (j1 (357 + 2 * j) 2).toInt.toNat = b9 := by omega
        rw [eb] at hcf
        rcases hx2_33 (by omega) with ⟨c9, g1, g2, g3, g4, g5⟩ | ⟨g1, g2⟩
        · have hd : (decide (u.toInt = 1) || decide (r_26.toInt = 1)) = decide ((0 : Int32).toInt = 1) := by
            by_cases q1 : u.toInt = 1 <;> by_cases q2 : r_26.toInt = 1 <;> simp only [q1, q2] <;> first | rfl | (rw [eq_comm]; simp only [decide_eq_true_eq, decide_eq_false_iff_not]; omega) | (simp; omega)
          rw [eb] at g5
          have hR9 := any_step (T := tb x) e5.1 (by omega) hcf g5.1 (nc_and g5.2 (hNB c9))
          rw [hd] at hR9
          exact Or.inl ⟨c9, by omega, by omega, by omega, by omega, hR9, g5.2⟩
        · rw [eb] at g2
          exact Or.inr ⟨by omega, any_X e5.1 (by omega) hcf g2⟩
      · exact Or.inr ⟨by omega, e2⟩) hO_30 (fun a ha => ((hfr_29 a (by omega)).trans ((up2_n _ _ (by omega)).trans (hfr_j1 a (by omega))))) (lv_sub hl [0, 2, 3, 4] rfl) hH hS
            · skip
              have h_41 := s_ne (rfl : r_26.toInt = _) (show (0 : Int32).toInt = 0 from rfl) c_38
              refine lv_iconst (v := 1) hx hb dX9_anyOf_59 (by decide) ?_
              refine lv_goto (tgt := 64) hx hb dX9_anyOf_60 (by decide) ?_
              refine lv_istore_n (lv' := [(3, .int 1), (4, .int r_26), (0, .ref (g (357 + 2 * j))), (1, .int x), (2, .int y)]) hx hb dX9_anyOf_64 rfl hl (by decide) rfl (fun ls hl => ?_)
              refine lv_goto (tgt := 7) hx hb dX9_anyOf_65 (by decide) ?_
              have hl_42 : (1 : Int32).toInt = 1 := rfl
              have hz1 : (1 : Int32).toInt = 1 := rfl
              have hz0 : (0 : Int32).toInt = 0 := rfl
              exact ih_lp_10 1 _ _ _ ls (by omega) (by omega) (by omega) (by omega) (by omega) (fun hF => by
      have hcb : ff (j1 (357 + 2 * j) 2).toInt.toNat = i (357 + 2 * j + 1) (j1 (357 + 2 * j) 2).toInt.toNat := by rw [hff]
      have hci := congrArg Int32.toInt hcb
      have hcf : (ff (j1 (357 + 2 * j) 2).toInt.toNat).toInt = 124 := by omega
      rcases hi_lp_10_3 hF with ⟨b9, e1, e2, e3, e4, e5⟩ | ⟨e1, e2⟩
      · have eb : (j1 (357 + 2 * j) 2).toInt.toNat = b9 := by omega
        rw [eb] at hcf
        rcases hx2_33 (by omega) with ⟨c9, g1, g2, g3, g4, g5⟩ | ⟨g1, g2⟩
        · have hd : (decide (u.toInt = 1) || decide (r_26.toInt = 1)) = decide ((1 : Int32).toInt = 1) := by
            by_cases q1 : u.toInt = 1 <;> by_cases q2 : r_26.toInt = 1 <;> simp only [q1, q2] <;> first | rfl | (rw [eq_comm]; simp only [decide_eq_true_eq, decide_eq_false_iff_not]; omega) | (simp; omega)
          rw [eb] at g5
          have hR9 := any_step (T := tb x) e5.1 (by omega) hcf g5.1 (nc_and g5.2 (hNB c9))
          rw [hd] at hR9
          exact Or.inl ⟨c9, by omega, by omega, by omega, by omega, hR9, g5.2⟩
        · rw [eb] at g2
          exact Or.inr ⟨by omega, any_X e5.1 (by omega) hcf g2⟩
      · exact Or.inr ⟨by omega, e2⟩) hO_30 (fun a ha => ((hfr_29 a (by omega)).trans ((up2_n _ _ (by omega)).trans (hfr_j1 a (by omega))))) (lv_sub hl [0, 2, 3, 4] rfl) hH hS
  have hz1 : (1 : Int32).toInt = 1 := rfl
  have hz0 : (0 : Int32).toInt = 0 := rfl
  exact lp_10 _ r_2 _ _ _ ls (Nat.lt_succ_self _) (by omega) (by omega) (by omega) (by omega) (fun hF => by
      rcases hx2_9 hF with ⟨c9, g1, g2, g3, g4, g5⟩ | ⟨g1, g2⟩
      · exact Or.inl ⟨c9, by omega, by omega, by omega, by omega, tgR_up (by decide) g5.1, g5.2⟩
      · exact Or.inr ⟨by omega, tgX_up (by decide) g2⟩) hO_6 (fun a ha => rfl) (lv_sub hl [0, 1, 2, 3] rfl) hH hS
theorem anyS_all (l : Launch) (D : va_G) (g : Nat → Nat) (ka : Nat → ClassId) (ad : Nat → Nat) : ∀ m0 : Nat, anyS l D g ka ad m0 := by
  intro m0
  induction m0 with
  | zero =>
    intro i r L d j ff n a lv x y hO hR sz hj hff hn hn40 ha han hdp hm hy hNB heq
    subst heq
    exact k_tany l D g ka ad i r L d j ff n a 0 x y hO hR sz hj hff hn hn40 ha han hdp hm hy hNB (fun m9 h => absurd h (by omega))
  | succ m0 ih =>
    intro i r L d j ff n a lv x y hO hR sz hj hff hn hn40 ha han hdp hm hy hNB heq
    subst heq
    exact k_tany l D g ka ad i r L d j ff n a (m0 + 1) x y hO hR sz hj hff hn hn40 ha han hdp hm hy hNB (fun m9 h => by rw [show m9 = m0 by omega]; exact ih)
