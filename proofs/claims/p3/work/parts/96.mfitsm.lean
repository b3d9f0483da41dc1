theorem upl_at (L : Nat → Nat → Int64) (n k : Nat) (v : Int64) : upl L n k v n k = v := by
  unfold upl
  rw [va_up_self]
  show (if k = k then v else _) = v
  rw [if_pos rfl]
theorem upl_k (L : Nat → Nat → Int64) (n : Nat) {k j : Nat} (v : Int64) (h : j ≠ k) : upl L n k v n j = L n j := by
  unfold upl
  rw [va_up_self]
  show (if j = k then v else _) = _
  rw [if_neg h]
theorem wbA_1 {i : Nat → Nat → Int32} {L : Nat → Nat → Int64} {f : Int} {z : Int64} {y : Int32} (hf : f = (i 36 45).toInt - 1) (h0 : 0 ≤ (i 36 45).toInt) (hz : L 412 (i 36 45).toInt.toNat = z) (ey : y.toInt = (i 36 40).toInt) (hy : 0 ≤ (i 36 40).toInt ∧ (i 36 40).toInt ≤ 60) (ez : z = (1 : Int64) <<< (y.toInt64 &&& 63)) : wbA i L f := by
  intro q h1 h2 e g0 g1 hb
  have hq : q = (i 36 45).toInt := by omega
  subst hq
  unfold ldB at hb
  rw [hz] at hb
  have h3 := bit_1 (k := (i 36 40).toInt.toNat) (e := e.toNat) (y := y) (by omega) (by omega) ez hb
  exact ⟨by omega, fun h9 => absurd h9 (by omega)⟩
theorem wbR_0 {i : Nat → Nat → Int32} {L : Nat → Nat → Int64} {f : Int} (h : L 412 f.toNat = 0) : wbR i L f := fun e _ _ hb => by
  unfold ldB at hb
  rw [h] at hb
  exact absurd hb (bit_0 _)
theorem dX12_fits_0 : decode cX12_fits 0 = .ok (.aload_n 0, 1) := by decide +kernel
theorem dX12_fits_1 : decode cX12_fits 1 = .ok (.aload_n 0, 1) := by decide +kernel
theorem dX12_fits_2 : decode cX12_fits 2 = .ok (.getfield 311, 3) := by decide +kernel
theorem dX12_fits_5 : decode cX12_fits 5 = .ok (.bipush 60, 2) := by decide +kernel
theorem dX12_fits_7 : decode cX12_fits 7 = .ok (.iload_n 1, 1) := by decide +kernel
theorem dX12_fits_8 : decode cX12_fits 8 = .ok (.imul, 1) := by decide +kernel
theorem dX12_fits_9 : decode cX12_fits 9 = .ok (.aload_n 0, 1) := by decide +kernel
theorem dX12_fits_10 : decode cX12_fits 10 = .ok (.getfield 314, 3) := by decide +kernel
theorem dX12_fits_13 : decode cX12_fits 13 = .ok (.iload_n 1, 1) := by decide +kernel
theorem dX12_fits_14 : decode cX12_fits 14 = .ok (.iaload, 1) := by decide +kernel
theorem dX12_fits_15 : decode cX12_fits 15 = .ok (.invokevirtual 304, 3) := by decide +kernel
theorem dX12_fits_18 : decode cX12_fits 18 = .ok (.istore_n 2, 1) := by decide +kernel
theorem dX12_fits_19 : decode cX12_fits 19 = .ok (.aload_n 0, 1) := by decide +kernel
theorem dX12_fits_20 : decode cX12_fits 20 = .ok (.getfield 341, 3) := by decide +kernel
theorem dX12_fits_23 : decode cX12_fits 23 = .ok (.aload_n 0, 1) := by decide +kernel
theorem dX12_fits_24 : decode cX12_fits 24 = .ok (.getfield 248, 3) := by decide +kernel
theorem dX12_fits_27 : decode cX12_fits 27 = .ok (.lconst 1, 1) := by decide +kernel
theorem dX12_fits_28 : decode cX12_fits 28 = .ok (.aload_n 0, 1) := by decide +kernel
theorem dX12_fits_29 : decode cX12_fits 29 = .ok (.getfield 224, 3) := by decide +kernel
theorem dX12_fits_32 : decode cX12_fits 32 = .ok (.lshl, 1) := by decide +kernel
theorem dX12_fits_33 : decode cX12_fits 33 = .ok (.lastore, 1) := by decide +kernel
theorem dX12_fits_34 : decode cX12_fits 34 = .ok (.aload_n 0, 1) := by decide +kernel
theorem dX12_fits_35 : decode cX12_fits 35 = .ok (.getfield 248, 3) := by decide +kernel
theorem dX12_fits_38 : decode cX12_fits 38 = .ok (.iconst 1, 1) := by decide +kernel
theorem dX12_fits_39 : decode cX12_fits 39 = .ok (.isub, 1) := by decide +kernel
theorem dX12_fits_40 : decode cX12_fits 40 = .ok (.istore_n 3, 1) := by decide +kernel
theorem dX12_fits_41 : decode cX12_fits 41 = .ok (.iload_n 3, 1) := by decide +kernel
theorem dX12_fits_42 : decode cX12_fits 42 = .ok (.ifCond .lt 61, 3) := by decide +kernel
theorem dX12_fits_103 : decode cX12_fits 103 = .ok (.aload_n 0, 1) := by decide +kernel
theorem dX12_fits_104 : decode cX12_fits 104 = .ok (.getfield 341, 3) := by decide +kernel
theorem dX12_fits_107 : decode cX12_fits 107 = .ok (.iconst 0, 1) := by decide +kernel
theorem dX12_fits_108 : decode cX12_fits 108 = .ok (.laload, 1) := by decide +kernel
theorem dX12_fits_109 : decode cX12_fits 109 = .ok (.lconst 1, 1) := by decide +kernel
theorem dX12_fits_110 : decode cX12_fits 110 = .ok (.land, 1) := by decide +kernel
theorem dX12_fits_111 : decode cX12_fits 111 = .ok (.lconst 0, 1) := by decide +kernel
theorem dX12_fits_112 : decode cX12_fits 112 = .ok (.lcmp, 1) := by decide +kernel
theorem dX12_fits_113 : decode cX12_fits 113 = .ok (.ifCond .ne 5, 3) := by decide +kernel
theorem dX12_fits_118 : decode cX12_fits 118 = .ok (.aload_n 0, 1) := by decide +kernel
theorem dX12_fits_119 : decode cX12_fits 119 = .ok (.iconst 0, 1) := by decide +kernel
theorem dX12_fits_120 : decode cX12_fits 120 = .ok (.putfield 348, 3) := by decide +kernel
theorem dX12_fits_123 : decode cX12_fits 123 = .ok (.iconst 0, 1) := by decide +kernel
theorem dX12_fits_124 : decode cX12_fits 124 = .ok (.istore_n 3, 1) := by decide +kernel
theorem dX12_fits_125 : decode cX12_fits 125 = .ok (.iconst 0, 1) := by decide +kernel
theorem dX12_fits_126 : decode cX12_fits 126 = .ok (.istore 4, 2) := by decide +kernel
theorem dX12_fits_128 : decode cX12_fits 128 = .ok (.iload 4, 2) := by decide +kernel
theorem dX12_fits_130 : decode cX12_fits 130 = .ok (.aload_n 0, 1) := by decide +kernel
theorem dX12_fits_131 : decode cX12_fits 131 = .ok (.getfield 248, 3) := by decide +kernel
theorem dX12_fits_134 : decode cX12_fits 134 = .ok (.if_icmp .ge 124, 3) := by decide +kernel
theorem dX12_fits_258 : decode cX12_fits 258 = .ok (.iload_n 2, 1) := by decide +kernel
theorem dX12_fits_259 : decode cX12_fits 259 = .ok (.ireturn, 1) := by decide +kernel
theorem dX12_fits_137 : decode cX12_fits 137 = .ok (.aload_n 0, 1) := by decide +kernel
theorem dX12_fits_138 : decode cX12_fits 138 = .ok (.iload 4, 2) := by decide +kernel
theorem dX12_fits_140 : decode cX12_fits 140 = .ok (.iload_n 3, 1) := by decide +kernel
theorem dX12_fits_141 : decode cX12_fits 141 = .ok (.aload_n 0, 1) := by decide +kernel
theorem dX12_fits_142 : decode cX12_fits 142 = .ok (.iload 4, 2) := by decide +kernel
theorem dX12_fits_144 : decode cX12_fits 144 = .ok (.iload_n 3, 1) := by decide +kernel
theorem dX12_fits_145 : decode cX12_fits 145 = .ok (.invokevirtual 345, 3) := by decide +kernel
theorem dX12_fits_148 : decode cX12_fits 148 = .ok (.invokevirtual 337, 3) := by decide +kernel
theorem dX12_fits_151 : decode cX12_fits 151 = .ok (.istore 5, 2) := by decide +kernel
theorem dX12_fits_153 : decode cX12_fits 153 = .ok (.aload_n 0, 1) := by decide +kernel
theorem dX12_fits_154 : decode cX12_fits 154 = .ok (.getfield 245, 3) := by decide +kernel
theorem dX12_fits_157 : decode cX12_fits 157 = .ok (.iload 4, 2) := by decide +kernel
theorem dX12_fits_159 : decode cX12_fits 159 = .ok (.iaload, 1) := by decide +kernel
theorem dX12_fits_160 : decode cX12_fits 160 = .ok (.iconst 4, 1) := by decide +kernel
theorem dX12_fits_161 : decode cX12_fits 161 = .ok (.if_icmp .ne 88, 3) := by decide +kernel
theorem dX12_fits_249 : decode cX12_fits 249 = .ok (.iload 5, 2) := by decide +kernel
theorem dX12_fits_251 : decode cX12_fits 251 = .ok (.istore_n 3, 1) := by decide +kernel
theorem dX12_fits_252 : decode cX12_fits 252 = .ok (.iinc 4 1, 3) := by decide +kernel
theorem dX12_fits_255 : decode cX12_fits 255 = .ok (.goto (-127), 3) := by decide +kernel
theorem dX12_fits_164 : decode cX12_fits 164 = .ok (.aload_n 0, 1) := by decide +kernel
theorem dX12_fits_165 : decode cX12_fits 165 = .ok (.getfield 351, 3) := by decide +kernel
theorem dX12_fits_168 : decode cX12_fits 168 = .ok (.aload_n 0, 1) := by decide +kernel
theorem dX12_fits_169 : decode cX12_fits 169 = .ok (.getfield 348, 3) := by decide +kernel
theorem dX12_fits_172 : decode cX12_fits 172 = .ok (.aload_n 0, 1) := by decide +kernel
theorem dX12_fits_173 : decode cX12_fits 173 = .ok (.getfield 251, 3) := by decide +kernel
theorem dX12_fits_176 : decode cX12_fits 176 = .ok (.iload 4, 2) := by decide +kernel
theorem dX12_fits_178 : decode cX12_fits 178 = .ok (.iaload, 1) := by decide +kernel
theorem dX12_fits_179 : decode cX12_fits 179 = .ok (.i2c, 1) := by decide +kernel
theorem dX12_fits_180 : decode cX12_fits 180 = .ok (.castore, 1) := by decide +kernel
theorem dX12_fits_181 : decode cX12_fits 181 = .ok (.aload_n 0, 1) := by decide +kernel
theorem dX12_fits_182 : decode cX12_fits 182 = .ok (.getfield 354, 3) := by decide +kernel
theorem dX12_fits_185 : decode cX12_fits 185 = .ok (.aload_n 0, 1) := by decide +kernel
theorem dX12_fits_186 : decode cX12_fits 186 = .ok (.getfield 348, 3) := by decide +kernel
theorem dX12_fits_189 : decode cX12_fits 189 = .ok (.aload_n 0, 1) := by decide +kernel
theorem dX12_fits_190 : decode cX12_fits 190 = .ok (.getfield 251, 3) := by decide +kernel
theorem dX12_fits_193 : decode cX12_fits 193 = .ok (.iload 4, 2) := by decide +kernel
theorem dX12_fits_195 : decode cX12_fits 195 = .ok (.iaload, 1) := by decide +kernel
theorem dX12_fits_196 : decode cX12_fits 196 = .ok (.bipush 115, 2) := by decide +kernel
theorem dX12_fits_198 : decode cX12_fits 198 = .ok (.if_icmp .ne 9, 3) := by decide +kernel
theorem dX12_fits_207 : decode cX12_fits 207 = .ok (.iload_n 3, 1) := by decide +kernel
theorem dX12_fits_208 : decode cX12_fits 208 = .ok (.iastore, 1) := by decide +kernel
theorem dX12_fits_209 : decode cX12_fits 209 = .ok (.aload_n 0, 1) := by decide +kernel
theorem dX12_fits_210 : decode cX12_fits 210 = .ok (.getfield 357, 3) := by decide +kernel
theorem dX12_fits_213 : decode cX12_fits 213 = .ok (.aload_n 0, 1) := by decide +kernel
theorem dX12_fits_214 : decode cX12_fits 214 = .ok (.getfield 348, 3) := by decide +kernel
theorem dX12_fits_217 : decode cX12_fits 217 = .ok (.aload_n 0, 1) := by decide +kernel
theorem dX12_fits_218 : decode cX12_fits 218 = .ok (.getfield 251, 3) := by decide +kernel
theorem dX12_fits_221 : decode cX12_fits 221 = .ok (.iload 4, 2) := by decide +kernel
theorem dX12_fits_223 : decode cX12_fits 223 = .ok (.iaload, 1) := by decide +kernel
theorem dX12_fits_224 : decode cX12_fits 224 = .ok (.bipush 115, 2) := by decide +kernel
theorem dX12_fits_226 : decode cX12_fits 226 = .ok (.if_icmp .ne 10, 3) := by decide +kernel
theorem dX12_fits_236 : decode cX12_fits 236 = .ok (.iload 5, 2) := by decide +kernel
theorem dX12_fits_238 : decode cX12_fits 238 = .ok (.iastore, 1) := by decide +kernel
theorem dX12_fits_239 : decode cX12_fits 239 = .ok (.aload_n 0, 1) := by decide +kernel
theorem dX12_fits_240 : decode cX12_fits 240 = .ok (.dup, 1) := by decide +kernel
theorem dX12_fits_241 : decode cX12_fits 241 = .ok (.getfield 348, 3) := by decide +kernel
theorem dX12_fits_244 : decode cX12_fits 244 = .ok (.iconst 1, 1) := by decide +kernel
theorem dX12_fits_245 : decode cX12_fits 245 = .ok (.iadd, 1) := by decide +kernel
theorem dX12_fits_246 : decode cX12_fits 246 = .ok (.putfield 348, 3) := by decide +kernel
theorem dX12_fits_229 : decode cX12_fits 229 = .ok (.iload 5, 2) := by decide +kernel
theorem dX12_fits_231 : decode cX12_fits 231 = .ok (.iconst 1, 1) := by decide +kernel
theorem dX12_fits_232 : decode cX12_fits 232 = .ok (.isub, 1) := by decide +kernel
theorem dX12_fits_233 : decode cX12_fits 233 = .ok (.goto 5, 3) := by decide +kernel
theorem dX12_fits_201 : decode cX12_fits 201 = .ok (.iload_n 3, 1) := by decide +kernel
theorem dX12_fits_202 : decode cX12_fits 202 = .ok (.iconst 1, 1) := by decide +kernel
theorem dX12_fits_203 : decode cX12_fits 203 = .ok (.iadd, 1) := by decide +kernel
theorem dX12_fits_204 : decode cX12_fits 204 = .ok (.goto 4, 3) := by decide +kernel
theorem dX12_fits_116 : decode cX12_fits 116 = .ok (.iconst 0, 1) := by decide +kernel
theorem dX12_fits_117 : decode cX12_fits 117 = .ok (.ireturn, 1) := by decide +kernel
theorem dX12_fits_45 : decode cX12_fits 45 = .ok (.aload_n 0, 1) := by decide +kernel
theorem dX12_fits_46 : decode cX12_fits 46 = .ok (.getfield 341, 3) := by decide +kernel
theorem dX12_fits_49 : decode cX12_fits 49 = .ok (.iload_n 3, 1) := by decide +kernel
theorem dX12_fits_50 : decode cX12_fits 50 = .ok (.lconst 0, 1) := by decide +kernel
theorem dX12_fits_51 : decode cX12_fits 51 = .ok (.lastore, 1) := by decide +kernel
theorem dX12_fits_52 : decode cX12_fits 52 = .ok (.iconst 0, 1) := by decide +kernel
theorem dX12_fits_53 : decode cX12_fits 53 = .ok (.istore 4, 2) := by decide +kernel
theorem dX12_fits_55 : decode cX12_fits 55 = .ok (.iload 4, 2) := by decide +kernel
theorem dX12_fits_57 : decode cX12_fits 57 = .ok (.aload_n 0, 1) := by decide +kernel
theorem dX12_fits_58 : decode cX12_fits 58 = .ok (.getfield 224, 3) := by decide +kernel
theorem dX12_fits_61 : decode cX12_fits 61 = .ok (.if_icmp .gt 36, 3) := by decide +kernel
theorem dX12_fits_97 : decode cX12_fits 97 = .ok (.iinc 3 (-1), 3) := by decide +kernel
theorem dX12_fits_100 : decode cX12_fits 100 = .ok (.goto (-59), 3) := by decide +kernel
theorem dX12_fits_64 : decode cX12_fits 64 = .ok (.aload_n 0, 1) := by decide +kernel
theorem dX12_fits_65 : decode cX12_fits 65 = .ok (.getfield 341, 3) := by decide +kernel
theorem dX12_fits_68 : decode cX12_fits 68 = .ok (.iload_n 3, 1) := by decide +kernel
theorem dX12_fits_69 : decode cX12_fits 69 = .ok (.dup2, 1) := by decide +kernel
theorem dX12_fits_70 : decode cX12_fits 70 = .ok (.laload, 1) := by decide +kernel
theorem dX12_fits_71 : decode cX12_fits 71 = .ok (.aload_n 0, 1) := by decide +kernel
theorem dX12_fits_72 : decode cX12_fits 72 = .ok (.iload_n 3, 1) := by decide +kernel
theorem dX12_fits_73 : decode cX12_fits 73 = .ok (.iload 4, 2) := by decide +kernel
theorem dX12_fits_75 : decode cX12_fits 75 = .ok (.invokevirtual 345, 3) := by decide +kernel
theorem dX12_fits_78 : decode cX12_fits 78 = .ok (.ifCond .ge 7, 3) := by decide +kernel
theorem dX12_fits_85 : decode cX12_fits 85 = .ok (.lconst 1, 1) := by decide +kernel
theorem dX12_fits_86 : decode cX12_fits 86 = .ok (.iload 4, 2) := by decide +kernel
theorem dX12_fits_88 : decode cX12_fits 88 = .ok (.lshl, 1) := by decide +kernel
theorem dX12_fits_89 : decode cX12_fits 89 = .ok (.lor, 1) := by decide +kernel
theorem dX12_fits_90 : decode cX12_fits 90 = .ok (.lastore, 1) := by decide +kernel
theorem dX12_fits_91 : decode cX12_fits 91 = .ok (.iinc 4 1, 3) := by decide +kernel
theorem dX12_fits_94 : decode cX12_fits 94 = .ok (.goto (-39), 3) := by decide +kernel
theorem dX12_fits_81 : decode cX12_fits 81 = .ok (.lconst 0, 1) := by decide +kernel
theorem dX12_fits_82 : decode cX12_fits 82 = .ok (.goto 7, 3) := by decide +kernel
theorem gw_X12_parse : wsX12_parse.all goodWord = true := by decide +kernel
theorem gX12_fits_X12_parse : GoodIn wsX12_fits (wsV RX12 304 RX12 yX12_parse wsX12_parse) := goodIn_app (goodIn_sub (List.forall_mem_cons.mpr ⟨(List.mem_cons_of_mem _ (List.mem_append_left _ (List.mem_append_left _ lm11))), List.forall_mem_cons.mpr ⟨(List.mem_cons_of_mem _ (List.mem_append_left _ (List.mem_append_left _ lm12))), List.forall_mem_cons.mpr ⟨(List.mem_cons_of_mem _ (List.mem_append_left _ (List.mem_append_left _ lm13))), List.forall_mem_cons.mpr ⟨(List.mem_cons_of_mem _ (List.mem_append_left _ (List.mem_append_left _ lm14))), (fun _ h => absurd h List.not_mem_nil)⟩⟩⟩⟩) (by decide +kernel)) (goodIn_sub (by unfold wsX12_parse; exact List.forall_mem_cons.mpr ⟨(List.mem_cons_of_mem _ (List.mem_append_left _ (List.mem_append_left _ lm15))), List.forall_mem_append.mpr ⟨List.forall_mem_append.mpr ⟨List.forall_mem_cons.mpr ⟨(List.mem_cons_of_mem _ (List.mem_append_left _ (List.mem_append_left _ lm3))), List.forall_mem_cons.mpr ⟨(List.mem_cons_of_mem _ (List.mem_append_left _ (List.mem_append_left _ lm16))), List.forall_mem_cons.mpr ⟨(List.mem_cons_of_mem _ (List.mem_append_left _ (List.mem_append_left _ lm17))), List.forall_mem_cons.mpr ⟨(List.mem_cons_of_mem _ (List.mem_append_left _ (List.mem_append_left _ lm18))), List.forall_mem_cons.mpr ⟨(List.mem_cons_of_mem _ (List.mem_append_left _ (List.mem_append_left _ lm19))), List.forall_mem_cons.mpr ⟨(List.mem_cons_of_mem _ (List.mem_append_left _ (List.mem_append_left _ lm6))), List.forall_mem_cons.mpr ⟨(List.mem_cons_of_mem _ (List.mem_append_left _ (List.mem_append_left _ lm20))), List.forall_mem_cons.mpr ⟨(List.mem_cons_of_mem _ (List.mem_append_left _ (List.mem_append_left _ lm21))), List.forall_mem_cons.mpr ⟨(List.mem_cons_of_mem _ (List.mem_append_left _ (List.mem_append_left _ lm22))), List.forall_mem_cons.mpr ⟨(List.mem_cons_of_mem _ (List.mem_append_left _ (List.mem_append_left _ lm14))), List.forall_mem_cons.mpr ⟨(List.mem_cons_of_mem _ (List.mem_append_left _ (List.mem_append_left _ lm23))), List.forall_mem_cons.mpr ⟨(List.mem_cons_of_mem _ (List.mem_append_left _ (List.mem_append_right _ (List.mem_append_left _ lm0)))), List.forall_mem_cons.mpr ⟨(List.mem_cons_of_mem _ (List.mem_append_left _ (List.mem_append_right _ (List.mem_append_left _ lm1)))), List.forall_mem_cons.mpr ⟨(List.mem_cons_of_mem _ (List.mem_append_left _ (List.mem_append_right _ (List.mem_append_left _ lm2)))), List.forall_mem_cons.mpr ⟨(List.mem_cons_of_mem _ (List.mem_append_left _ (List.mem_append_right _ (List.mem_append_left _ lm3)))), List.forall_mem_cons.mpr ⟨(List.mem_cons_of_mem _ (List.mem_append_left _ (List.mem_append_left _ lm8))), List.forall_mem_cons.mpr ⟨(List.mem_cons_of_mem _ (List.mem_append_left _ (List.mem_append_right _ (List.mem_append_left _ lm4)))), List.forall_mem_cons.mpr ⟨(List.mem_cons_of_mem _ (List.mem_append_left _ (List.mem_append_right _ (List.mem_append_left _ lm5)))), List.forall_mem_cons.mpr ⟨(List.mem_cons_of_mem _ (List.mem_append_left _ (List.mem_append_right _ (List.mem_append_left _ lm6)))), List.forall_mem_cons.mpr ⟨(List.mem_cons_of_mem _ (List.mem_append_left _ (List.mem_append_right _ (List.mem_append_left _ lm7)))), List.forall_mem_cons.mpr ⟨(List.mem_cons_of_mem _ (List.mem_append_left _ (List.mem_append_right _ (List.mem_append_left _ lm8)))), List.forall_mem_cons.mpr ⟨(List.mem_cons_of_mem _ (List.mem_append_left _ (List.mem_append_right _ (List.mem_append_left _ lm9)))), List.forall_mem_cons.mpr ⟨(List.mem_cons_of_mem _ (List.mem_append_left _ (List.mem_append_right _ (List.mem_append_left _ lm10)))), List.forall_mem_cons.mpr ⟨(List.mem_cons_of_mem _ (List.mem_append_left _ (List.mem_append_right _ (List.mem_append_left _ lm11)))), (fun _ h => absurd h List.not_mem_nil)⟩⟩⟩⟩⟩⟩⟩⟩⟩⟩⟩⟩⟩⟩⟩⟩⟩⟩⟩⟩⟩⟩⟩⟩, List.forall_mem_cons.mpr ⟨(List.mem_cons_of_mem _ (List.mem_append_left _ (List.mem_append_right _ (List.mem_append_left _ lm12)))), List.forall_mem_cons.mpr ⟨(List.mem_cons_of_mem _ (List.mem_append_left _ (List.mem_append_right _ (List.mem_append_left _ lm13)))), List.forall_mem_cons.mpr ⟨(List.mem_cons_of_mem _ (List.mem_append_left _ (List.mem_append_right _ (List.mem_append_left _ lm14)))), List.forall_mem_cons.mpr ⟨(List.mem_cons_of_mem _ (List.mem_append_left _ (List.mem_append_right _ (List.mem_append_left _ lm15)))), List.forall_mem_cons.mpr ⟨(List.mem_cons_of_mem _ (List.mem_append_left _ (List.mem_append_right _ (List.mem_append_left _ lm16)))), List.forall_mem_cons.mpr ⟨(List.mem_cons_of_mem _ (List.mem_append_left _ (List.mem_append_right _ (List.mem_append_left _ lm17)))), List.forall_mem_cons.mpr ⟨(List.mem_cons_of_mem _ (List.mem_append_left _ (List.mem_append_right _ (List.mem_append_left _ lm18)))), List.forall_mem_cons.mpr ⟨(List.mem_cons_of_mem _ (List.mem_append_left _ (List.mem_append_right _ (List.mem_append_left _ lm19)))), List.forall_mem_cons.mpr ⟨(List.mem_cons_of_mem _ (List.mem_append_left _ (List.mem_append_right _ (List.mem_append_left _ lm20)))), List.forall_mem_cons.mpr ⟨(List.mem_cons_of_mem _ (List.mem_append_left _ (List.mem_append_right _ (List.mem_append_left _ lm21)))), List.forall_mem_cons.mpr ⟨(List.mem_cons_of_mem _ (List.mem_append_left _ (List.mem_append_right _ (List.mem_append_left _ lm22)))), List.forall_mem_cons.mpr ⟨(List.mem_cons_of_mem _ (List.mem_append_left _ (List.mem_append_right _ (List.mem_append_left _ lm23)))), List.forall_mem_cons.mpr ⟨(List.mem_cons_of_mem _ (List.mem_append_left _ (List.mem_append_right _ (List.mem_append_right _ (List.mem_append_left _ lm0))))), List.forall_mem_cons.mpr ⟨(List.mem_cons_of_mem _ (List.mem_append_left _ (List.mem_append_right _ (List.mem_append_right _ (List.mem_append_left _ lm1))))), List.forall_mem_cons.mpr ⟨(List.mem_cons_of_mem _ (List.mem_append_left _ (List.mem_append_right _ (List.mem_append_right _ (List.mem_append_left _ lm2))))), List.forall_mem_cons.mpr ⟨(List.mem_cons_of_mem _ (List.mem_append_left _ (List.mem_append_right _ (List.mem_append_right _ (List.mem_append_left _ lm3))))), List.forall_mem_cons.mpr ⟨(List.mem_cons_of_mem _ (List.mem_append_left _ (List.mem_append_right _ (List.mem_append_right _ (List.mem_append_left _ lm4))))), List.forall_mem_cons.mpr ⟨(List.mem_cons_of_mem _ (List.mem_append_left _ (List.mem_append_right _ (List.mem_append_right _ (List.mem_append_left _ lm5))))), List.forall_mem_cons.mpr ⟨(List.mem_cons_of_mem _ (List.mem_append_left _ (List.mem_append_right _ (List.mem_append_right _ (List.mem_append_left _ lm6))))), (fun _ h => absurd h List.not_mem_nil)⟩⟩⟩⟩⟩⟩⟩⟩⟩⟩⟩⟩⟩⟩⟩⟩⟩⟩⟩⟩, (fun _ h => (List.mem_cons_of_mem _ (List.mem_append_right _ h)))⟩⟩) gw_X12_parse)
theorem gw_X12_way : wsX12_way.all goodWord = true := by decide +kernel
theorem gX12_fits_X12_way : GoodIn wsX12_fits (wsV RX12 345 RX12 yX12_way wsX12_way) := goodIn_app (goodIn_sub (List.forall_mem_cons.mpr ⟨(List.mem_cons_of_mem _ (List.mem_append_left _ (List.mem_append_right _ (List.mem_append_right _ (List.mem_append_left _ lm7))))), List.forall_mem_cons.mpr ⟨(List.mem_cons_of_mem _ (List.mem_append_left _ (List.mem_append_right _ (List.mem_append_right _ (List.mem_append_left _ lm8))))), List.forall_mem_cons.mpr ⟨(List.mem_cons_of_mem _ (List.mem_append_left _ (List.mem_append_right _ (List.mem_append_right _ (List.mem_append_left _ lm9))))), List.forall_mem_cons.mpr ⟨(List.mem_cons_of_mem _ (List.mem_append_left _ (List.mem_append_left _ lm14))), (fun _ h => absurd h List.not_mem_nil)⟩⟩⟩⟩) (by decide +kernel)) (goodIn_sub (by unfold wsX12_way; exact List.forall_mem_cons.mpr ⟨(List.mem_cons_of_mem _ (List.mem_append_left _ (List.mem_append_right _ (List.mem_append_right _ (List.mem_append_left _ lm10))))), List.forall_mem_append.mpr ⟨List.forall_mem_append.mpr ⟨List.forall_mem_cons.mpr ⟨(List.mem_cons_of_mem _ (List.mem_append_left _ (List.mem_append_left _ lm2))), List.forall_mem_cons.mpr ⟨(List.mem_cons_of_mem _ (List.mem_append_left _ (List.mem_append_right _ (List.mem_append_right _ (List.mem_append_left _ lm11))))), List.forall_mem_cons.mpr ⟨(List.mem_cons_of_mem _ (List.mem_append_left _ (List.mem_append_right _ (List.mem_append_right _ (List.mem_append_left _ lm12))))), List.forall_mem_cons.mpr ⟨(List.mem_cons_of_mem _ (List.mem_append_left _ (List.mem_append_right _ (List.mem_append_right _ (List.mem_append_left _ lm13))))), List.forall_mem_cons.mpr ⟨(List.mem_cons_of_mem _ (List.mem_append_left _ (List.mem_append_left _ lm14))), List.forall_mem_cons.mpr ⟨(List.mem_cons_of_mem _ (List.mem_append_left _ (List.mem_append_right _ (List.mem_append_right _ (List.mem_append_left _ lm14))))), List.forall_mem_cons.mpr ⟨(List.mem_cons_of_mem _ (List.mem_append_left _ (List.mem_append_left _ lm6))), List.forall_mem_cons.mpr ⟨(List.mem_cons_of_mem _ (List.mem_append_left _ (List.mem_append_left _ lm8))), List.forall_mem_cons.mpr ⟨(List.mem_cons_of_mem _ (List.mem_append_left _ (List.mem_append_right _ (List.mem_append_left _ lm9)))), List.forall_mem_cons.mpr ⟨(List.mem_cons_of_mem _ (List.mem_append_left _ (List.mem_append_right _ (List.mem_append_left _ lm4)))), List.forall_mem_cons.mpr ⟨(List.mem_cons_of_mem _ (List.mem_append_left _ (List.mem_append_right _ (List.mem_append_right _ (List.mem_append_left _ lm15))))), List.forall_mem_cons.mpr ⟨(List.mem_cons_of_mem _ (List.mem_append_left _ (List.mem_append_right _ (List.mem_append_right _ (List.mem_append_left _ lm16))))), List.forall_mem_cons.mpr ⟨(List.mem_cons_of_mem _ (List.mem_append_left _ (List.mem_append_right _ (List.mem_append_right _ (List.mem_append_left _ lm17))))), List.forall_mem_cons.mpr ⟨(List.mem_cons_of_mem _ (List.mem_append_left _ (List.mem_append_right _ (List.mem_append_right _ (List.mem_append_left _ lm18))))), List.forall_mem_cons.mpr ⟨(List.mem_cons_of_mem _ (List.mem_append_left _ (List.mem_append_left _ lm4))), List.forall_mem_cons.mpr ⟨(List.mem_cons_of_mem _ (List.mem_append_left _ (List.mem_append_right _ (List.mem_append_right _ (List.mem_append_left _ lm19))))), List.forall_mem_cons.mpr ⟨(List.mem_cons_of_mem _ (List.mem_append_left _ (List.mem_append_right _ (List.mem_append_right _ (List.mem_append_left _ lm20))))), List.forall_mem_cons.mpr ⟨(List.mem_cons_of_mem _ (List.mem_append_left _ (List.mem_append_right _ (List.mem_append_right _ (List.mem_append_left _ lm21))))), List.forall_mem_cons.mpr ⟨(List.mem_cons_of_mem _ (List.mem_append_left _ (List.mem_append_right _ (List.mem_append_right _ (List.mem_append_left _ lm22))))), List.forall_mem_cons.mpr ⟨(List.mem_cons_of_mem _ (List.mem_append_left _ (List.mem_append_right _ (List.mem_append_right _ (List.mem_append_left _ lm23))))), List.forall_mem_cons.mpr ⟨(List.mem_cons_of_mem _ (List.mem_append_left _ (List.mem_append_right _ (List.mem_append_left _ lm19)))), List.forall_mem_cons.mpr ⟨(List.mem_cons_of_mem _ (List.mem_append_left _ (List.mem_append_right _ (List.mem_append_left _ lm14)))), List.forall_mem_cons.mpr ⟨(List.mem_cons_of_mem _ (List.mem_append_left _ (List.mem_append_right _ (List.mem_append_right _ (List.mem_append_right _ lm0))))), List.forall_mem_cons.mpr ⟨(List.mem_cons_of_mem _ (List.mem_append_left _ (List.mem_append_right _ (List.mem_append_right _ (List.mem_append_right _ lm1))))), (fun _ h => absurd h List.not_mem_nil)⟩⟩⟩⟩⟩⟩⟩⟩⟩⟩⟩⟩⟩⟩⟩⟩⟩⟩⟩⟩⟩⟩⟩⟩, List.forall_mem_cons.mpr ⟨(List.mem_cons_of_mem _ (List.mem_append_left _ (List.mem_append_right _ (List.mem_append_right _ (List.mem_append_right _ lm2))))), List.forall_mem_cons.mpr ⟨(List.mem_cons_of_mem _ (List.mem_append_left _ (List.mem_append_right _ (List.mem_append_right _ (List.mem_append_right _ lm3))))), List.forall_mem_cons.mpr ⟨(List.mem_cons_of_mem _ (List.mem_append_left _ (List.mem_append_right _ (List.mem_append_right _ (List.mem_append_right _ lm4))))), List.forall_mem_cons.mpr ⟨(List.mem_cons_of_mem _ (List.mem_append_left _ (List.mem_append_right _ (List.mem_append_right _ (List.mem_append_right _ lm5))))), List.forall_mem_cons.mpr ⟨(List.mem_cons_of_mem _ (List.mem_append_left _ (List.mem_append_right _ (List.mem_append_right _ (List.mem_append_right _ lm6))))), List.forall_mem_cons.mpr ⟨(List.mem_cons_of_mem _ (List.mem_append_left _ (List.mem_append_right _ (List.mem_append_right _ (List.mem_append_right _ lm7))))), List.forall_mem_cons.mpr ⟨(List.mem_cons_of_mem _ (List.mem_append_left _ (List.mem_append_right _ (List.mem_append_right _ (List.mem_append_right _ lm8))))), List.forall_mem_cons.mpr ⟨(List.mem_cons_of_mem _ (List.mem_append_left _ (List.mem_append_right _ (List.mem_append_right _ (List.mem_append_right _ lm9))))), List.forall_mem_cons.mpr ⟨(List.mem_cons_of_mem _ (List.mem_append_left _ (List.mem_append_right _ (List.mem_append_right _ (List.mem_append_right _ lm10))))), List.forall_mem_cons.mpr ⟨(List.mem_cons_of_mem _ (List.mem_append_left _ (List.mem_append_right _ (List.mem_append_right _ (List.mem_append_right _ lm11))))), (fun _ h => absurd h List.not_mem_nil)⟩⟩⟩⟩⟩⟩⟩⟩⟩⟩⟩, (fun _ h => (List.mem_cons_of_mem _ (List.mem_append_right _ h)))⟩⟩) gw_X12_way)
theorem gX12_fits_X12_endOf : GoodIn wsX12_fits (wsV RX12 337 RX12 yX12_endOf wsX12_endOf) := goodIn_app (goodIn_sub (List.forall_mem_cons.mpr ⟨(List.mem_cons_of_mem _ (List.mem_append_left _ (List.mem_append_right _ (List.mem_append_right _ (List.mem_append_left _ lm11))))), List.forall_mem_cons.mpr ⟨(List.mem_cons_of_mem _ (List.mem_append_left _ (List.mem_append_right _ (List.mem_append_right _ (List.mem_append_left _ lm12))))), List.forall_mem_cons.mpr ⟨(List.mem_cons_of_mem _ (List.mem_append_left _ (List.mem_append_right _ (List.mem_append_right _ (List.mem_append_left _ lm13))))), List.forall_mem_cons.mpr ⟨(List.mem_cons_of_mem _ (List.mem_append_left _ (List.mem_append_left _ lm14))), (fun _ h => absurd h List.not_mem_nil)⟩⟩⟩⟩) (by decide +kernel)) (goodIn_sub (by unfold wsX12_endOf; exact List.forall_mem_cons.mpr ⟨(List.mem_cons_of_mem _ (List.mem_append_left _ (List.mem_append_right _ (List.mem_append_right _ (List.mem_append_left _ lm14))))), List.forall_mem_append.mpr ⟨List.forall_mem_append.mpr ⟨List.forall_mem_cons.mpr ⟨(List.mem_cons_of_mem _ (List.mem_append_left _ (List.mem_append_left _ lm6))), List.forall_mem_cons.mpr ⟨(List.mem_cons_of_mem _ (List.mem_append_left _ (List.mem_append_left _ lm8))), List.forall_mem_cons.mpr ⟨(List.mem_cons_of_mem _ (List.mem_append_left _ (List.mem_append_right _ (List.mem_append_left _ lm9)))), List.forall_mem_cons.mpr ⟨(List.mem_cons_of_mem _ (List.mem_append_left _ (List.mem_append_right _ (List.mem_append_left _ lm4)))), List.forall_mem_cons.mpr ⟨(List.mem_cons_of_mem _ (List.mem_append_left _ (List.mem_append_right _ (List.mem_append_right _ (List.mem_append_left _ lm15))))), List.forall_mem_cons.mpr ⟨(List.mem_cons_of_mem _ (List.mem_append_left _ (List.mem_append_right _ (List.mem_append_right _ (List.mem_append_left _ lm16))))), List.forall_mem_cons.mpr ⟨(List.mem_cons_of_mem _ (List.mem_append_left _ (List.mem_append_right _ (List.mem_append_right _ (List.mem_append_left _ lm17))))), List.forall_mem_cons.mpr ⟨(List.mem_cons_of_mem _ (List.mem_append_left _ (List.mem_append_left _ lm14))), List.forall_mem_cons.mpr ⟨(List.mem_cons_of_mem _ (List.mem_append_left _ (List.mem_append_right _ (List.mem_append_right _ (List.mem_append_left _ lm18))))), List.forall_mem_cons.mpr ⟨(List.mem_cons_of_mem _ (List.mem_append_left _ (List.mem_append_left _ lm4))), List.forall_mem_cons.mpr ⟨(List.mem_cons_of_mem _ (List.mem_append_left _ (List.mem_append_right _ (List.mem_append_right _ (List.mem_append_left _ lm19))))), List.forall_mem_cons.mpr ⟨(List.mem_cons_of_mem _ (List.mem_append_left _ (List.mem_append_right _ (List.mem_append_right _ (List.mem_append_left _ lm20))))), List.forall_mem_cons.mpr ⟨(List.mem_cons_of_mem _ (List.mem_append_left _ (List.mem_append_right _ (List.mem_append_right _ (List.mem_append_left _ lm21))))), List.forall_mem_cons.mpr ⟨(List.mem_cons_of_mem _ (List.mem_append_left _ (List.mem_append_right _ (List.mem_append_right _ (List.mem_append_left _ lm22))))), List.forall_mem_cons.mpr ⟨(List.mem_cons_of_mem _ (List.mem_append_left _ (List.mem_append_right _ (List.mem_append_right _ (List.mem_append_left _ lm23))))), List.forall_mem_cons.mpr ⟨(List.mem_cons_of_mem _ (List.mem_append_left _ (List.mem_append_right _ (List.mem_append_left _ lm19)))), List.forall_mem_cons.mpr ⟨(List.mem_cons_of_mem _ (List.mem_append_left _ (List.mem_append_right _ (List.mem_append_left _ lm14)))), List.forall_mem_cons.mpr ⟨(List.mem_cons_of_mem _ (List.mem_append_left _ (List.mem_append_right _ (List.mem_append_right _ (List.mem_append_right _ lm0))))), List.forall_mem_cons.mpr ⟨(List.mem_cons_of_mem _ (List.mem_append_left _ (List.mem_append_right _ (List.mem_append_right _ (List.mem_append_right _ lm1))))), List.forall_mem_cons.mpr ⟨(List.mem_cons_of_mem _ (List.mem_append_left _ (List.mem_append_right _ (List.mem_append_right _ (List.mem_append_right _ lm2))))), List.forall_mem_cons.mpr ⟨(List.mem_cons_of_mem _ (List.mem_append_left _ (List.mem_append_right _ (List.mem_append_right _ (List.mem_append_right _ lm3))))), List.forall_mem_cons.mpr ⟨(List.mem_cons_of_mem _ (List.mem_append_left _ (List.mem_append_right _ (List.mem_append_right _ (List.mem_append_right _ lm4))))), List.forall_mem_cons.mpr ⟨(List.mem_cons_of_mem _ (List.mem_append_left _ (List.mem_append_right _ (List.mem_append_right _ (List.mem_append_right _ lm5))))), List.forall_mem_cons.mpr ⟨(List.mem_cons_of_mem _ (List.mem_append_left _ (List.mem_append_right _ (List.mem_append_right _ (List.mem_append_right _ lm6))))), (fun _ h => absurd h List.not_mem_nil)⟩⟩⟩⟩⟩⟩⟩⟩⟩⟩⟩⟩⟩⟩⟩⟩⟩⟩⟩⟩⟩⟩⟩⟩, List.forall_mem_cons.mpr ⟨(List.mem_cons_of_mem _ (List.mem_append_left _ (List.mem_append_right _ (List.mem_append_right _ (List.mem_append_right _ lm7))))), List.forall_mem_cons.mpr ⟨(List.mem_cons_of_mem _ (List.mem_append_left _ (List.mem_append_right _ (List.mem_append_right _ (List.mem_append_right _ lm8))))), List.forall_mem_cons.mpr ⟨(List.mem_cons_of_mem _ (List.mem_append_left _ (List.mem_append_right _ (List.mem_append_right _ (List.mem_append_right _ lm9))))), List.forall_mem_cons.mpr ⟨(List.mem_cons_of_mem _ (List.mem_append_left _ (List.mem_append_right _ (List.mem_append_right _ (List.mem_append_right _ lm10))))), List.forall_mem_cons.mpr ⟨(List.mem_cons_of_mem _ (List.mem_append_left _ (List.mem_append_right _ (List.mem_append_right _ (List.mem_append_right _ lm11))))), (fun _ h => absurd h List.not_mem_nil)⟩⟩⟩⟩⟩⟩, (fun _ h => (List.mem_cons_of_mem _ (List.mem_append_right _ h)))⟩⟩) gw_X12_endOf)
set_option maxHeartbeats 2000000 in
set_option maxRecDepth 100000 in
theorem m_fits (l : Launch) (D : va_G) (g : Nat → Nat) (ka : Nat → ClassId) (ad : Nat → Nat) (i : Nat → Nat → Int32) (r : Nat → Nat → Nat) (L : Nat → Nat → Int64) (d : Nat → Nat → UInt64) (x : Int32) (hO : OkI i) (hR : RS r) (sz : Nat) (hx0 : 0 ≤ x.toInt) (hx1 : x.toInt ≤ 11) (hpr : prOK (lnL (i 403) (60 * x.toInt) (60 * x.toInt + (i 404 x.toInt.toNat).toInt))) : Met l yX12_fits wsX12_fits ({ frames := 5, cells := 0, slots := 0, locals := 118 }) (va_Pc [.ref (g 36), .int x] (sj_B D (hwc g ka i r L d) (hT ka) sz (gx ad (va_A (hwc g ka i r L d) sz)))) (sj_Qi (S := (Nat → Nat → Int32) × (Nat → Nat → Int64)) D (fun v u => OkI u.1 ∧ (∀ a b, ¬ ((a = 36 ∧ (b = 45 ∨ b = 49 ∨ b = 52 ∨ b = 54 ∨ b = 55 ∨ b = 57)) ∨ a = 406 ∨ a = 407 ∨ a = 408 ∨ a = 409 ∨ a = 410 ∨ a = 411 ∨ a = 413 ∨ a = 414 ∨ a = 415) → u.1 a b = i a b) ∧ ((0 : Int) ≤ v.toInt ∧ v.toInt ≤ 1) ∧ ((v.toInt = 1 → AQ u.1 (bfL i)))) (fun u => hwc g ka u.1 r u.2 d) (fun _ => []) (va_A (hwc g ka i r L d) sz)) 0 0 (va_A (hwc g ka i r L d) sz) := by
  refine x_met (Ex := gx ad) (cc := cX12_fits) (maxL := 6) (ret := (some .boolean)) (by decide) rfl (Nat.le_of_ble_eq_true rfl) ?_
  intro p e s m below meth c A ls hx hb hr hml hts hown hlocks hA hS hH hK hE hl
  have hown : s.vm.findClass RX12 = some m.cls := hown
  have in12 : ∀ w ∈ wsX120, w ∈ wsX12_fits := (fun _ h => (List.mem_cons_of_mem _ (List.mem_append_right _ h)))
  have wd0 := hts (.fieldLink RX12 311 "StoryDeskModel" "written" "[C") (List.mem_cons_of_mem _ (List.mem_append_left _ (List.mem_append_left _ lm0)))
  have wd1 := hts (.fieldLink RX12 314 "StoryDeskModel" "writtenSize" "[I") (List.mem_cons_of_mem _ (List.mem_append_left _ (List.mem_append_left _ lm1)))
  have wd2 := hts (.fieldLink RX12 341 "StoryDeskModel" "leads" "[J") (List.mem_cons_of_mem _ (List.mem_append_left _ (List.mem_append_left _ lm2)))
  have wd3 := hts (.fieldLink RX12 248 "StoryDeskModel" "parts" "I") (List.mem_cons_of_mem _ (List.mem_append_left _ (List.mem_append_left _ lm3)))
  have wd4 := hts (.fieldLink RX12 224 "StoryDeskModel" "filled" "I") (List.mem_cons_of_mem _ (List.mem_append_left _ (List.mem_append_left _ lm4)))
  have wd5 := hts (.fieldLink RX12 348 "StoryDeskModel" "arguments" "I") (List.mem_cons_of_mem _ (List.mem_append_left _ (List.mem_append_left _ lm5)))
  have wd6 := hts (.fieldLink RX12 245 "StoryDeskModel" "partKind" "[I") (List.mem_cons_of_mem _ (List.mem_append_left _ (List.mem_append_left _ lm6)))
  have wd7 := hts (.fieldLink RX12 351 "StoryDeskModel" "argumentKind" "[C") (List.mem_cons_of_mem _ (List.mem_append_left _ (List.mem_append_left _ lm7)))
  have wd8 := hts (.fieldLink RX12 251 "StoryDeskModel" "partOf" "[I") (List.mem_cons_of_mem _ (List.mem_append_left _ (List.mem_append_left _ lm8)))
  have wd9 := hts (.fieldLink RX12 354 "StoryDeskModel" "argumentFrom" "[I") (List.mem_cons_of_mem _ (List.mem_append_left _ (List.mem_append_left _ lm9)))
  have wd10 := hts (.fieldLink RX12 357 "StoryDeskModel" "argumentTo" "[I") (List.mem_cons_of_mem _ (List.mem_append_left _ (List.mem_append_left _ lm10)))
  have hl : lv_has ls 6 [(0, .ref (g 36)), (1, .int x)] := hl
  have hK : va_K D vwCl (hT ka) s := hK
  have hb40 : (0 : Int) ≤ (i 36 40).toInt ∧ (i 36 40).toInt ≤ 60 := hO 36 40
  refine lv_aload_n hx hb dX12_fits_0 rfl (lv_at hl 0 rfl) ?_
  refine lv_aload_n hx hb dX12_fits_1 rfl (lv_at hl 0 rfl) ?_
  refine h_getr (ci := 12) (C := RX12) (F := TX12) (N := 86) hx hb hts in12 hown hK hH (by decide) (rfl : kd 36 = 12) (by decide) rfl 42 (by decide) wd0 (fun _ h9 => h9) (by decide) rfl (t := 403) (hR 36 42 rfl) (by decide) dX12_fits_2 ?_
  refine lv_bipush (v := 60) hx hb dX12_fits_5 (by decide) ?_
  refine lv_iload_n hx hb dX12_fits_7 rfl (lv_at hl 1 rfl) ?_
  refine lv_imul hx hb dX12_fits_8 ?_
  obtain ⟨z_1, ez_1, hz_1⟩ := s_mul (show (60 : Int32).toInt = 60 from rfl) (rfl : x.toInt = _) (by omega) (by omega)
  refine sj_i ez_1 ?_
  refine lv_aload_n hx hb dX12_fits_9 rfl (lv_at hl 0 rfl) ?_
  refine h_getr (ci := 12) (C := RX12) (F := TX12) (N := 86) hx hb hts in12 hown hK hH (by decide) (rfl : kd 36 = 12) (by decide) rfl 43 (by decide) wd1 (fun _ h9 => h9) (by decide) rfl (t := 404) (hR 36 43 rfl) (by decide) dX12_fits_10 ?_
  refine lv_iload_n hx hb dX12_fits_13 rfl (lv_at hl 1 rfl) ?_
  have bx_2 : (0 : Int) ≤ (i 404 (x.toInt).toNat).toInt ∧ (i 404 (x.toInt).toNat).toInt ≤ 60 := hO 404 (x.toInt).toNat
  refine h_iald hx hb hK hH (by decide) (rfl : kd 404 = 13) (s_vin (N := 12) (rfl : x.toInt = _) (rfl : ln 404 = 12) (by omega) (by omega)) dX12_fits_14 ?_
  have ek_3 : x.toNatClampNeg = (x.toInt).toNat := (s_cl (show x.toInt = x.toInt by omega))
  refine sj_i (y := (i 404 (x.toInt).toNat)) (by rw [ek_3]) ?_
  refine x_calli (va_runV (As := [.ref (g 403), .int z_1, .int (i 404 (x.toInt).toNat)]) (rest := []) ⟨hx, hb, hml, hown, hts⟩ (m_parse_W l D g ka ad i r L d z_1 (i 404 (x.toInt).toNat) hO hR s.heap.size (by first | omega | decide) (by first | omega | decide) (by first | omega | decide)) (cwV 3 hts gX12_fits_X12_parse rfl rfl rfl (by decide +kernel) ⟨(Nat.le_of_ble_eq_true rfl), (Nat.le_of_ble_eq_true rfl)⟩) (x_preV (q := (RX12, TX12, 86)) hH hK (q_obj (by decide) (rfl : kd 36 = 12) (by decide)) rfl gxb (gxw hE hS (x_F hH hS hA))) rfl rfl hl.1 rfl (lv_room (Nat.le_of_ble_eq_true rfl)) dX12_fits_15 ⟨(Nat.le_of_ble_eq_true rfl), (Nat.le_of_ble_eq_true rfl)⟩) hH hS hA rfl rfl (fun r_4 im_6 H locs hw_5 hH hS => ?_)
  have hH : sj_H D A (hwc g ka im_6 r L d) H := hH
  obtain ⟨hO_8, hfr_7, hr_9, hx2_10⟩ := hw_5
  have hr_9 : (0 : Int) ≤ r_4.toInt ∧ r_4.toInt ≤ 1 := hr_9
  have hpo := hx2_10.resolve_right (fun q => q.2 (by rw [show z_1.toInt = 60 * x.toInt by omega]; exact hpr))
  have hpo1 := hpo.1
  have hc46 := hpo.2.2.1
  have hexm := hpo.2.2.2.1
  have hp60 := hpo.2.2.2.2
  have hxm : (0 : Int) ≤ (im_6 36 45).toInt ∧ (im_6 36 45).toInt ≤ 64 := hO_8 36 45
  have h40m : im_6 36 40 = i 36 40 := (hfr_7 36 40 (by omega))
  have h40i := congrArg Int32.toInt h40m
  refine lv_istore_n (lv' := [(2, .int r_4), (0, .ref (g 36)), (1, .int x)]) hx hb dX12_fits_18 rfl hl (by decide) rfl (fun ls hl => ?_)
  refine lv_aload_n hx hb dX12_fits_19 rfl (lv_at hl 1 rfl) ?_
  refine h_getr (ci := 12) (C := RX12) (F := TX12) (N := 86) hx hb hts in12 hown hK hH (by decide) (rfl : kd 36 = 12) (by decide) rfl 56 (by decide) wd2 (fun _ h9 => h9) (by decide) rfl (t := 412) (hR 36 56 rfl) (by decide) dX12_fits_20 ?_
  refine lv_aload_n hx hb dX12_fits_23 rfl (lv_at hl 1 rfl) ?_
  have bx_11 : (0 : Int) ≤ (im_6 36 45).toInt ∧ (im_6 36 45).toInt ≤ 64 := hO_8 36 45
  refine h_geti (ci := 12) (C := RX12) (F := TX12) (N := 86) hx hb hts in12 hown hK hH (by decide) (rfl : kd 36 = 12) (by decide) rfl 45 (by decide) wd3 (fun _ h9 => h9) (by decide) rfl dX12_fits_24 ?_
  refine lv_lconst (v := 1) hx hb dX12_fits_27 (by decide) ?_
  refine lv_aload_n hx hb dX12_fits_28 rfl (lv_at hl 1 rfl) ?_
  have bx_12 : (0 : Int) ≤ (i 36 40).toInt ∧ (i 36 40).toInt ≤ 60 := hO 36 40
  refine h_geti (ci := 12) (C := RX12) (F := TX12) (N := 86) hx hb hts in12 hown hK hH (by decide) (rfl : kd 36 = 12) (by decide) rfl 40 (by decide) wd4 (fun _ h9 => h9) (by decide) rfl dX12_fits_29 ?_
  refine sj_i (y := (i 36 40)) (hfr_7 36 40 (by omega)) ?_
  refine lv_lshl hx hb dX12_fits_32 rfl ?_
  refine lv_topl (fun z_13 ez_13 => ?_)
  refine h_last hx hb hK hH hS (by decide) (rfl : kd 412 = 16) (s_vin (N := 64) (rfl : (im_6 36 45).toInt = _) (rfl : ln 412 = 64) (by omega) (by omega)) dX12_fits_33 (fun H locs hH hS => ?_)
  obtain ⟨LL_14, eLL_14⟩ : ∃ L9, (upl L 412 (im_6 36 45).toNatClampNeg z_13) = L9 := ⟨_, rfl⟩
  rw [eLL_14] at hH
  have hatLL_14 : LL_14 412 ((im_6 36 45).toInt).toNat = z_13 := by rw [← eLL_14, show (im_6 36 45).toNatClampNeg = ((im_6 36 45).toInt).toNat from s_cl rfl]; exact upl_at _ _ _ _
  have hotLL_14 : ∀ k : Nat, k ≠ ((im_6 36 45).toInt).toNat → LL_14 412 k = L 412 k := fun k hk => by rw [← eLL_14, show (im_6 36 45).toNatClampNeg = ((im_6 36 45).toInt).toNat from s_cl rfl]; exact upl_k _ _ _ hk
  refine lv_aload_n hx hb dX12_fits_34 rfl (lv_at hl 1 rfl) ?_
  refine h_geti (ci := 12) (C := RX12) (F := TX12) (N := 86) hx hb hts in12 hown hK hH (by decide) (rfl : kd 36 = 12) (by decide) rfl 45 (by decide) wd3 (fun _ h9 => h9) (by decide) rfl dX12_fits_35 ?_
  refine lv_iconst (v := 1) hx hb dX12_fits_38 (by decide) ?_
  refine lv_isub hx hb dX12_fits_39 ?_
  obtain ⟨z_15, ez_15, hz_15⟩ := s_sub (rfl : (im_6 36 45).toInt = _) (show (1 : Int32).toInt = 1 from rfl) (by omega) (by omega)
  refine sj_i ez_15 ?_
  refine lv_istore_n (lv' := [(3, .int z_15), (2, .int r_4), (0, .ref (g 36)), (1, .int x)]) hx hb dX12_fits_40 rfl hl (by decide) rfl (fun ls hl => ?_)
  -- loop at 41
  have lp_16 : ∀ (fuel_lp_16 : Nat) (f : Int32) (L1 : Nat → Nat → Int64) (H : Heap) (locs : List Loc) (ls : Array Slot), (f.toInt + 1).toNat < fuel_lp_16 → (-1 : Int) ≤ f.toInt ∧ f.toInt ≤ 63 → wbA im_6 L1 f.toInt → f.toInt < (im_6 36 45).toInt → lv_has ls 6 [(3, .int f), (2, .int r_4), (0, .ref (g 36)), (1, .int x)] → sj_H D A (hwc g ka im_6 r L1 d) H → va_S A s.heap H locs → W p l e (headSpec wsX12_fits ({ frames := 5, cells := 0, slots := 0, locals := 118 })).room s m ([.ref (g 36), .int x] : List Value).toArray below meth c H locs 0 0 (MQ below (sj_Qi (S := (Nat → Nat → Int32) × (Nat → Nat → Int64)) D (fun v u => OkI u.1 ∧ (∀ a b, ¬ ((a = 36 ∧ (b = 45 ∨ b = 49 ∨ b = 52 ∨ b = 54 ∨ b = 55 ∨ b = 57)) ∨ a = 406 ∨ a = 407 ∨ a = 408 ∨ a = 409 ∨ a = 410 ∨ a = 411 ∨ a = 413 ∨ a = 414 ∨ a = 415) → u.1 a b = i a b) ∧ ((0 : Int) ≤ v.toInt ∧ v.toInt ≤ 1) ∧ ((v.toInt = 1 → AQ u.1 (bfL i)))) (fun u => hwc g ka u.1 r u.2 d) (fun _ => []) A) ([.ref (g 36), .int x] : List Value).toArray s 0 0 A) (F0 m 41 ls []) := by
    intro fuel_lp_16
    induction fuel_lp_16 with
    | zero => intros; omega
    | succ fuel_lp_16 ih_lp_16 =>
      intro f L1 H locs ls hm hr_f hi_lp_16_0 hi_lp_16_1 hl hH hS
      refine lv_iload_n hx hb dX12_fits_41 rfl (lv_at hl 0 rfl) ?_
      refine lv_if_lt (tgt := 103) hx hb dX12_fits_42 (by decide) (fun c_17 => ?_) (fun c_17 => ?_)
      · skip
        have h_18 := s_lt (rfl : f.toInt = _) (show (0 : Int32).toInt = 0 from rfl) c_17
        refine lv_aload_n hx hb dX12_fits_103 rfl (lv_at hl 2 rfl) ?_
        refine h_getr (ci := 12) (C := RX12) (F := TX12) (N := 86) hx hb hts in12 hown hK hH (by decide) (rfl : kd 36 = 12) (by decide) rfl 56 (by decide) wd2 (fun _ h9 => h9) (by decide) rfl (t := 412) (hR 36 56 rfl) (by decide) dX12_fits_104 ?_
        refine lv_iconst (v := 0) hx hb dX12_fits_107 (by decide) ?_
        refine h_lald hx hb hK hH (by decide) (rfl : kd 412 = 16) (s_vin (N := 64) (show (0 : Int32).toInt = 0 from rfl) (rfl : ln 412 = 64) (by omega) (by omega)) dX12_fits_108 ?_
        refine lv_topl (fun z_19 ez_19 => ?_)
        refine lv_lconst (v := 1) hx hb dX12_fits_109 (by decide) ?_
        refine lv_land hx hb dX12_fits_110 ?_
        refine lv_topl (fun z_20 ez_20 => ?_)
        refine lv_lconst (v := 0) hx hb dX12_fits_111 (by decide) ?_
        refine sj_lcmp hx hb dX12_fits_112 ?_
        refine lv_topi (fun z_21 ez_21 => ?_)
        have hlc := lc_0 ez_21
        have hb0 := bit_and ez_20
        rw [show z_19 = L1 412 0 from ez_19] at hb0
        have hbz : (z_21.toInt = 1 ∧ ldB L1 0 0) ∨ (z_21.toInt = 0 ∧ ¬ ldB L1 0 0) := hb0.elim (fun q9 => Or.inl ⟨hlc.1 q9.1, q9.2⟩) (fun q9 => Or.inr ⟨hlc.2 q9.1, q9.2⟩)
        refine lv_if_ne (tgt := 118) hx hb dX12_fits_113 (by decide) (fun c_22 => ?_) (fun c_22 => ?_)
        · skip
          have h_23 := s_ne (rfl : z_21.toInt = _) (show (0 : Int32).toInt = 0 from rfl) c_22
          refine lv_aload_n hx hb dX12_fits_118 rfl (lv_at hl 2 rfl) ?_
          refine lv_iconst (v := 0) hx hb dX12_fits_119 (by decide) ?_
          have hO_24 := okp hO_8 (n := 36) (k := 57) (v := 0) (show (0 : Int) ≤ (0 : Int32).toInt ∧ (0 : Int32).toInt ≤ 6 from ⟨by decide, by decide⟩)
          refine h_puti (ty := .int) (ci := 12) (C := RX12) (F := TX12) (N := 86) hx hb hts in12 tyX12 tyX12_ok nmX12 hown hK hH hS (by decide) (rfl : kd 36 = 12) (by decide) rfl 57 (by decide) wd5 (fun _ h9 => h9) rfl (by decide +kernel) rfl rfl (by decide) rfl dX12_fits_120 (fun H locs hH hS => ?_)
          refine lv_iconst (v := 0) hx hb dX12_fits_123 (by decide) ?_
          refine lv_istore_n (lv' := [(3, .int 0), (2, .int r_4), (0, .ref (g 36)), (1, .int x)]) hx hb dX12_fits_124 rfl hl (by decide) rfl (fun ls hl => ?_)
          refine lv_iconst (v := 0) hx hb dX12_fits_125 (by decide) ?_
          refine lv_istore (lv' := [(4, .int 0), (3, .int 0), (2, .int r_4), (0, .ref (g 36)), (1, .int x)]) hx hb dX12_fits_126 hl (by decide) rfl (fun ls hl => ?_)
          -- loop at 128
          have lp_25 : ∀ (fuel_lp_25 : Nat) (k9 : Int32) (p9 : Int32) (j1 : Nat → Nat → Int32) (H : Heap) (locs : List Loc) (ls : Array Slot), (64 - p9.toInt).toNat < fuel_lp_25 → (0 : Int) ≤ k9.toInt ∧ k9.toInt ≤ 61 → (0 : Int) ≤ p9.toInt ∧ p9.toInt ≤ 64 → (0 ≤ p9.toInt ∧ p9.toInt ≤ (im_6 36 45).toInt) ∧ k9.toInt ≤ (i 36 40).toInt → p9.toInt = (im_6 36 45).toInt ∨ ldB L1 p9.toInt k9.toInt → (j1 36 57).toInt = (cnt (im_6 406) 4 p9.toInt.toNat : Int) → AQ j1 (bfL im_6) → OkI j1 → (∀ a b, ¬ ((a = 36 ∧ (b = 57)) ∨ a = 413 ∨ a = 414 ∨ a = 415) → j1 a b = (up2 im_6 36 57 0) a b) → lv_has ls 6 [(4, .int p9), (3, .int k9), (2, .int r_4), (0, .ref (g 36)), (1, .int x)] → sj_H D A (hwc g ka j1 r L1 d) H → va_S A s.heap H locs → W p l e (headSpec wsX12_fits ({ frames := 5, cells := 0, slots := 0, locals := 118 })).room s m ([.ref (g 36), .int x] : List Value).toArray below meth c H locs 0 0 (MQ below (sj_Qi (S := (Nat → Nat → Int32) × (Nat → Nat → Int64)) D (fun v u => OkI u.1 ∧ (∀ a b, ¬ ((a = 36 ∧ (b = 45 ∨ b = 49 ∨ b = 52 ∨ b = 54 ∨ b = 55 ∨ b = 57)) ∨ a = 406 ∨ a = 407 ∨ a = 408 ∨ a = 409 ∨ a = 410 ∨ a = 411 ∨ a = 413 ∨ a = 414 ∨ a = 415) → u.1 a b = i a b) ∧ ((0 : Int) ≤ v.toInt ∧ v.toInt ≤ 1) ∧ ((v.toInt = 1 → AQ u.1 (bfL i)))) (fun u => hwc g ka u.1 r u.2 d) (fun _ => []) A) ([.ref (g 36), .int x] : List Value).toArray s 0 0 A) (F0 m 128 ls []) := by
            intro fuel_lp_25
            induction fuel_lp_25 with
            | zero => intros; omega
            | succ fuel_lp_25 ih_lp_25 =>
              intro k9 p9 j1 H locs ls hm hr_k9 hr_p9 hi_lp_25_0 hi_lp_25_1 hi_lp_25_2 hi_lp_25_3 hO_j1 hfr_j1 hl hH hS
              refine lv_iload hx hb dX12_fits_128 (lv_at hl 0 rfl) ?_
              refine lv_aload_n hx hb dX12_fits_130 rfl (lv_at hl 3 rfl) ?_
              refine h_geti (ci := 12) (C := RX12) (F := TX12) (N := 86) hx hb hts in12 hown hK hH (by decide) (rfl : kd 36 = 12) (by decide) rfl 45 (by decide) wd3 (fun _ h9 => h9) (by decide) rfl dX12_fits_131 ?_
              refine sj_i (y := (im_6 36 45)) ((hfr_j1 36 45 (by omega)).trans (up2_k _ _ (by decide))) ?_
              refine lv_icmp_ge (tgt := 258) hx hb dX12_fits_134 (by decide) (fun c_26 => ?_) (fun c_26 => ?_)
              · skip
                have h_27 := s_le (rfl : (im_6 36 45).toInt = _) (rfl : p9.toInt = _) c_26
                refine lv_iload_n hx hb dX12_fits_258 rfl (lv_at hl 2 rfl) ?_
                have hV_28 : ((r_4 : Int32).toInt = 1 → AQ j1 (bfL i)) := (fun _ => by rw [← bfL_fr (i := i) (u := im_6) h40m (funext fun b => (hfr_7 402 b (by omega)))]; exact hi_lp_25_3)
                exact sj_zret hx hb hr hlocks (s_nz ⟨by omega, by omega⟩) hS (j1, L1) ⟨hO_j1, (fun a b ha => ((hfr_j1 a b (by omega)).trans ((up2_o _ _ (by omega)).trans (hfr_7 a b (by omega))))), ⟨by omega, by omega⟩, hV_28⟩ hH (sj_Knil hK) (Nat.le_of_ble_eq_true rfl) (Nat.le_of_ble_eq_true rfl) dX12_fits_259
              · skip
                have h_29 := s_nle (rfl : (im_6 36 45).toInt = _) (rfl : p9.toInt = _) c_26
                have hwbA := hi_lp_16_0
                obtain ⟨w8, hw8, hwy8⟩ := (hwbA p9.toInt (by omega) (by omega) k9.toInt (by omega) (by omega) (hi_lp_25_1.resolve_left (fun q => by omega))).2 (by omega)
                have hER := endR_fr (i := im_6) (u := j1) ((hfr_j1 36 40 (by omega)).trans (up2_o _ _ (by omega))) (fun a h1 h2 => funext fun b => ((hfr_j1 a b (by omega)).trans (up2_o _ _ (by omega))))
                have hcn := cnt_or (im_6 406) 4 p9.toInt.toNat
                have hcu := cnt_up (im_6 406) 4 (a := p9.toInt.toNat + 1) (b := (im_6 36 45).toInt.toNat) (by omega)
                have hc4e : c4 im_6 = (cnt (im_6 406) 4 (im_6 36 45).toInt.toNat : Int) := rfl
                have hxp := hexm.1 p9.toInt.toNat (by omega)
                unfold exU at hxp
                refine lv_aload_n hx hb dX12_fits_137 rfl (lv_at hl 3 rfl) ?_
                refine lv_iload hx hb dX12_fits_138 (lv_at hl 0 rfl) ?_
                refine lv_iload_n hx hb dX12_fits_140 rfl (lv_at hl 1 rfl) ?_
                refine lv_aload_n hx hb dX12_fits_141 rfl (lv_at hl 3 rfl) ?_
                refine lv_iload hx hb dX12_fits_142 (lv_at hl 0 rfl) ?_
                refine lv_iload_n hx hb dX12_fits_144 rfl (lv_at hl 1 rfl) ?_
                have hwt_30 : (j1 36 45).toInt = ((im_6 36 45) : Int32).toInt := congrArg Int32.toInt ((hfr_j1 36 45 (by omega)).trans (up2_k _ _ (by decide)))
                refine x_calli (va_runV (As := [.int p9, .int k9]) (rest := [.int k9, .int p9, .ref (g 36)]) ⟨hx, hb, hml, hown, hts⟩ (m_way l D g ka ad j1 r L1 d p9 k9 hO_j1 hR H.size (by first | omega | decide) (by first | omega | decide) (by first | omega | decide) (exI_fr hexm ((hfr_j1 36 45 (by omega)).trans (up2_o _ _ (by omega))) ((hfr_j1 36 49 (by omega)).trans (up2_o _ _ (by omega))) ((hfr_j1 36 52 (by omega)).trans (up2_o _ _ (by omega))) (fun a h1 h2 => funext fun b => ((hfr_j1 a b (by omega)).trans (up2_o _ _ (by omega))))) (by first | omega | decide) (by first | omega | decide)) (cwV 2 hts gX12_fits_X12_way rfl rfl rfl (by decide +kernel) ⟨(Nat.le_of_ble_eq_true rfl), (Nat.le_of_ble_eq_true rfl)⟩) (x_preV (q := (RX12, TX12, 86)) hH hK (q_obj (by decide) (rfl : kd 36 = 12) (by decide)) rfl gxb (gxw hE hS (x_F hH hS hA))) rfl rfl hl.1 rfl (lv_room (Nat.le_of_ble_eq_true rfl)) dX12_fits_145 ⟨(Nat.le_of_ble_eq_true rfl), (Nat.le_of_ble_eq_true rfl)⟩) hH hS hA rfl rfl (fun r_31 _ H locs hw_32 hH hS => ?_)
                obtain ⟨hr_34, hx2_35⟩ := hw_32
                have hr_34 : (-1 : Int) ≤ r_31.toInt ∧ r_31.toInt ≤ 61 := hr_34
                have hwv := hx2_35.resolve_right (fun q => wy_no hwy8 hw8 ((wnR_fr hER).mp q.2))
                have hwv0 := hwv.1
                obtain ⟨_, ⟨e8, he8, he80, heB⟩, _⟩ := (wyR_fr hER).mp hwv.2
                have hwt_36 : (j1 36 45).toInt = ((im_6 36 45) : Int32).toInt := congrArg Int32.toInt ((hfr_j1 36 45 (by omega)).trans (up2_k _ _ (by decide)))
                refine x_calli (va_runV (As := [.int p9, .int k9, .int r_31]) (rest := []) ⟨hx, hb, hml, hown, hts⟩ (m_endOf l D g ka ad j1 r L1 d p9 k9 r_31 hO_j1 hR H.size (by first | omega | decide) (by first | omega | decide) (exI_fr hexm ((hfr_j1 36 45 (by omega)).trans (up2_o _ _ (by omega))) ((hfr_j1 36 49 (by omega)).trans (up2_o _ _ (by omega))) ((hfr_j1 36 52 (by omega)).trans (up2_o _ _ (by omega))) (fun a h1 h2 => funext fun b => ((hfr_j1 a b (by omega)).trans (up2_o _ _ (by omega))))) (by first | omega | decide) (by first | omega | decide) (by first | omega | decide) (by first | omega | decide)) (cwV 3 hts gX12_fits_X12_endOf rfl rfl rfl (by decide +kernel) ⟨(Nat.le_of_ble_eq_true rfl), (Nat.le_of_ble_eq_true rfl)⟩) (x_preV (q := (RX12, TX12, 86)) hH hK (q_obj (by decide) (rfl : kd 36 = 12) (by decide)) rfl gxb (gxw hE hS (x_F hH hS hA))) rfl rfl hl.1 rfl (lv_room (Nat.le_of_ble_eq_true rfl)) dX12_fits_148 ⟨(Nat.le_of_ble_eq_true rfl), (Nat.le_of_ble_eq_true rfl)⟩) hH hS hA rfl rfl (fun r_37 _ H locs hw_38 hH hS => ?_)
                obtain ⟨hr_40, hx2_41⟩ := hw_38
                have hr_40 : (-2 : Int) ≤ r_37.toInt ∧ r_37.toInt ≤ 61 := hr_40
                have her := (hER _ _ _ _).mp hx2_41
                have hee := endR_u her he8
                have hef := (hwbA (p9.toInt + 1) (by omega) (by omega) e8 he80 (by omega) heB).1
                refine lv_istore (lv' := [(5, .int r_37), (4, .int p9), (3, .int k9), (2, .int r_4), (0, .ref (g 36)), (1, .int x)]) hx hb dX12_fits_151 hl (by decide) rfl (fun ls hl => ?_)
                refine lv_aload_n hx hb dX12_fits_153 rfl (lv_at hl 4 rfl) ?_
                refine h_getr (ci := 12) (C := RX12) (F := TX12) (N := 86) hx hb hts in12 hown hK hH (by decide) (rfl : kd 36 = 12) (by decide) rfl 46 (by decide) wd6 (fun _ h9 => h9) (by decide) rfl (t := 406) (hR 36 46 rfl) (by decide) dX12_fits_154 ?_
                refine lv_iload hx hb dX12_fits_157 (lv_at hl 1 rfl) ?_
                refine h_iald hx hb hK hH (by decide) (rfl : kd 406 = 13) (s_vin (N := 64) (rfl : p9.toInt = _) (rfl : ln 406 = 64) (by omega) (by omega)) dX12_fits_159 ?_
                have ek_42 : p9.toNatClampNeg = (p9.toInt).toNat := (s_cl (show p9.toInt = p9.toInt by omega))
                refine sj_i (y := (im_6 406 (p9.toInt).toNat)) (by rw [ek_42]; exact ((hfr_j1 406 (p9.toInt).toNat (by omega)).trans (congrFun (up2_n _ _ (by decide)) _))) ?_
                refine lv_iconst (v := 4) hx hb dX12_fits_160 (by decide) ?_
                refine lv_icmp_ne (tgt := 249) hx hb dX12_fits_161 (by decide) (fun c_43 => ?_) (fun c_43 => ?_)
                · skip
                  have h_44 := s_ne (rfl : (im_6 406 (p9.toInt).toNat).toInt = _) (show (4 : Int32).toInt = 4 from rfl) c_43
                  refine lv_iload hx hb dX12_fits_249 (lv_at hl 0 rfl) ?_
                  refine lv_istore_n (lv' := [(3, .int r_37), (5, .int r_37), (4, .int p9), (2, .int r_4), (0, .ref (g 36)), (1, .int x)]) hx hb dX12_fits_251 rfl hl (by decide) rfl (fun ls hl => ?_)
                  obtain ⟨z_45, ez_45, hz_45⟩ := s_add (rfl : p9.toInt = _) (show (1 : Int32).toInt = 1 from rfl) (by omega) (by omega)
                  refine lv_iinc (v := z_45) (lv' := [(4, .int z_45), (3, .int r_37), (5, .int r_37), (2, .int r_4), (0, .ref (g 36)), (1, .int x)]) hx hb dX12_fits_252 hl (k := 2) rfl ez_45 (by decide) rfl (fun ls hl => ?_)
                  refine lv_goto (tgt := 128) hx hb dX12_fits_255 (by decide) ?_
                  have hp_46 : (j1 36 57).toInt = ((j1 36 57) : Int32).toInt := rfl
                  exact ih_lp_25 r_37 z_45 _ _ _ ls (by omega) (by omega) (by omega) (by omega) (Or.inr (by rw [show (z_45).toInt = p9.toInt + 1 by omega, show (r_37).toInt = e8 by omega]; exact heB)) (by rw [show (z_45).toInt.toNat = p9.toInt.toNat + 1 by omega]; omega) hi_lp_25_3 hO_j1 (fun a b ha => (hfr_j1 a b (by omega))) (lv_sub hl [0, 1, 3, 4, 5] rfl) hH hS
                · skip
                  have h_47 := s_eq (rfl : (im_6 406 (p9.toInt).toNat).toInt = _) (show (4 : Int32).toInt = 4 from rfl) c_43
                  obtain ⟨hr91, hr92, hr93⟩ := endR_r her (by omega) (by omega) (by omega) (by omega)
                  refine lv_aload_n hx hb dX12_fits_164 rfl (lv_at hl 4 rfl) ?_
                  refine h_getr (ci := 12) (C := RX12) (F := TX12) (N := 86) hx hb hts in12 hown hK hH (by decide) (rfl : kd 36 = 12) (by decide) rfl 58 (by decide) wd7 (fun _ h9 => h9) (by decide) rfl (t := 413) (hR 36 58 rfl) (by decide) dX12_fits_165 ?_
                  refine lv_aload_n hx hb dX12_fits_168 rfl (lv_at hl 4 rfl) ?_
                  have bx_48 : (0 : Int) ≤ (j1 36 57).toInt ∧ (j1 36 57).toInt ≤ 6 := hO_j1 36 57
                  refine h_geti (ci := 12) (C := RX12) (F := TX12) (N := 86) hx hb hts in12 hown hK hH (by decide) (rfl : kd 36 = 12) (by decide) rfl 57 (by decide) wd5 (fun _ h9 => h9) (by decide) rfl dX12_fits_169 ?_
                  refine lv_aload_n hx hb dX12_fits_172 rfl (lv_at hl 4 rfl) ?_
                  refine h_getr (ci := 12) (C := RX12) (F := TX12) (N := 86) hx hb hts in12 hown hK hH (by decide) (rfl : kd 36 = 12) (by decide) rfl 47 (by decide) wd8 (fun _ h9 => h9) (by decide) rfl (t := 407) (hR 36 47 rfl) (by decide) dX12_fits_173 ?_
                  refine lv_iload hx hb dX12_fits_176 (lv_at hl 1 rfl) ?_
                  refine h_iald hx hb hK hH (by decide) (rfl : kd 407 = 13) (s_vin (N := 64) (rfl : p9.toInt = _) (rfl : ln 407 = 64) (by omega) (by omega)) dX12_fits_178 ?_
                  have ek_49 : p9.toNatClampNeg = (p9.toInt).toNat := (s_cl (show p9.toInt = p9.toInt by omega))
                  refine sj_i (y := (im_6 407 (p9.toInt).toNat)) (by rw [ek_49]; exact ((hfr_j1 407 (p9.toInt).toNat (by omega)).trans (congrFun (up2_n _ _ (by decide)) _))) ?_
                  refine lv_i2c hx hb dX12_fits_179 rfl ?_
                  refine lv_topi (fun z_50 ez_50 => ?_)
                  have hz_50 := congrArg Int32.toInt (s_i2cE ez_50 (by omega) (by omega))
                  obtain ⟨z_51, ez_51⟩ : ∃ z, vp_nar .char z_50 = z := ⟨_, rfl⟩
                  have hz_51 : z_51.toInt = z_50.toInt := by rw [← ez_51, s_narc (rfl : z_50.toInt = _) (by omega) (by omega)] <;> exact (rfl : z_50.toInt = _)
                  have hO_52 := okp hO_j1 (n := 413) (k := ((j1 36 57).toInt).toNat) (v := z_51) (show (0 : Int) ≤ (z_51 : Int32).toInt ∧ (z_51 : Int32).toInt ≤ 65535 from ⟨by omega, by omega⟩)
                  refine h_cast hx hb hK hH hS (by decide) (rfl : kd 413 = 14) (s_vin (N := 6) (rfl : (j1 36 57).toInt = _) (rfl : ln 413 = 6) (by omega) (by omega)) dX12_fits_180 (fun H locs hH hS => ?_)
                  rw [ez_51] at hH
                  rw [s_cl (show (j1 36 57).toInt = (j1 36 57).toInt by omega)] at hH
                  refine lv_aload_n hx hb dX12_fits_181 rfl (lv_at hl 4 rfl) ?_
                  refine h_getr (ci := 12) (C := RX12) (F := TX12) (N := 86) hx hb hts in12 hown hK hH (by decide) (rfl : kd 36 = 12) (by decide) rfl 59 (by decide) wd9 (fun _ h9 => h9) (by decide) rfl (t := 414) (hR 36 59 rfl) (by decide) dX12_fits_182 ?_
                  refine lv_aload_n hx hb dX12_fits_185 rfl (lv_at hl 4 rfl) ?_
                  refine h_geti (ci := 12) (C := RX12) (F := TX12) (N := 86) hx hb hts in12 hown hK hH (by decide) (rfl : kd 36 = 12) (by decide) rfl 57 (by decide) wd5 (fun _ h9 => h9) (by decide) rfl dX12_fits_186 ?_
                  refine sj_i (y := (j1 36 57)) (congrFun (up2_n _ _ (by decide)) _) ?_
                  refine lv_aload_n hx hb dX12_fits_189 rfl (lv_at hl 4 rfl) ?_
                  refine h_getr (ci := 12) (C := RX12) (F := TX12) (N := 86) hx hb hts in12 hown hK hH (by decide) (rfl : kd 36 = 12) (by decide) rfl 47 (by decide) wd8 (fun _ h9 => h9) (by decide) rfl (t := 407) (hR 36 47 rfl) (by decide) dX12_fits_190 ?_
                  refine lv_iload hx hb dX12_fits_193 (lv_at hl 1 rfl) ?_
                  refine h_iald hx hb hK hH (by decide) (rfl : kd 407 = 13) (s_vin (N := 64) (rfl : p9.toInt = _) (rfl : ln 407 = 64) (by omega) (by omega)) dX12_fits_195 ?_
                  have ek_53 : p9.toNatClampNeg = (p9.toInt).toNat := (s_cl (show p9.toInt = p9.toInt by omega))
                  refine sj_i (y := (im_6 407 (p9.toInt).toNat)) (by rw [ek_53]; exact ((congrFun (up2_n _ _ (by decide)) _).trans ((hfr_j1 407 (p9.toInt).toNat (by omega)).trans (congrFun (up2_n _ _ (by decide)) _)))) ?_
                  refine lv_bipush (v := 115) hx hb dX12_fits_196 (by decide) ?_
                  refine lv_icmp_ne (tgt := 207) hx hb dX12_fits_198 (by decide) (fun c_54 => ?_) (fun c_54 => ?_)
                  · skip
                    have h_55 := s_ne (rfl : (im_6 407 (p9.toInt).toNat).toInt = _) (show (115 : Int32).toInt = 115 from rfl) c_54
                    refine lv_iload_n hx hb dX12_fits_207 rfl (lv_at hl 2 rfl) ?_
                    have hO_56 := okp hO_52 (n := 414) (k := ((j1 36 57).toInt).toNat) (v := k9) (show (0 : Int) ≤ (k9 : Int32).toInt ∧ (k9 : Int32).toInt ≤ 61 from ⟨by omega, by omega⟩)
                    refine h_iast hx hb hK hH hS (by decide) (rfl : kd 414 = 13) (s_vin (N := 6) (rfl : (j1 36 57).toInt = _) (rfl : ln 414 = 6) (by omega) (by omega)) dX12_fits_208 (fun H locs hH hS => ?_)
                    rw [s_cl (show (j1 36 57).toInt = (j1 36 57).toInt by omega)] at hH
                    refine lv_aload_n hx hb dX12_fits_209 rfl (lv_at hl 4 rfl) ?_
                    refine h_getr (ci := 12) (C := RX12) (F := TX12) (N := 86) hx hb hts in12 hown hK hH (by decide) (rfl : kd 36 = 12) (by decide) rfl 60 (by decide) wd10 (fun _ h9 => h9) (by decide) rfl (t := 415) (hR 36 60 rfl) (by decide) dX12_fits_210 ?_
                    refine lv_aload_n hx hb dX12_fits_213 rfl (lv_at hl 4 rfl) ?_
                    refine h_geti (ci := 12) (C := RX12) (F := TX12) (N := 86) hx hb hts in12 hown hK hH (by decide) (rfl : kd 36 = 12) (by decide) rfl 57 (by decide) wd5 (fun _ h9 => h9) (by decide) rfl dX12_fits_214 ?_
                    refine sj_i (y := (j1 36 57)) ((congrFun (up2_n _ _ (by decide)) _).trans (congrFun (up2_n _ _ (by decide)) _)) ?_
                    refine lv_aload_n hx hb dX12_fits_217 rfl (lv_at hl 4 rfl) ?_
                    refine h_getr (ci := 12) (C := RX12) (F := TX12) (N := 86) hx hb hts in12 hown hK hH (by decide) (rfl : kd 36 = 12) (by decide) rfl 47 (by decide) wd8 (fun _ h9 => h9) (by decide) rfl (t := 407) (hR 36 47 rfl) (by decide) dX12_fits_218 ?_
                    refine lv_iload hx hb dX12_fits_221 (lv_at hl 1 rfl) ?_
                    refine h_iald hx hb hK hH (by decide) (rfl : kd 407 = 13) (s_vin (N := 64) (rfl : p9.toInt = _) (rfl : ln 407 = 64) (by omega) (by omega)) dX12_fits_223 ?_
                    have ek_57 : p9.toNatClampNeg = (p9.toInt).toNat := (s_cl (show p9.toInt = p9.toInt by omega))
                    refine sj_i (y := (im_6 407 (p9.toInt).toNat)) (by rw [ek_57]; exact ((congrFun (up2_n _ _ (by decide)) _).trans ((congrFun (up2_n _ _ (by decide)) _).trans ((hfr_j1 407 (p9.toInt).toNat (by omega)).trans (congrFun (up2_n _ _ (by decide)) _))))) ?_
                    refine lv_bipush (v := 115) hx hb dX12_fits_224 (by decide) ?_
                    refine lv_icmp_ne (tgt := 236) hx hb dX12_fits_226 (by decide) (fun c_58 => ?_) (fun c_58 => ?_)
                    · skip
                      have h_59 := s_ne (rfl : (im_6 407 (p9.toInt).toNat).toInt = _) (show (115 : Int32).toInt = 115 from rfl) c_58
                      refine lv_iload hx hb dX12_fits_236 (lv_at hl 0 rfl) ?_
                      have hO_60 := okp hO_56 (n := 415) (k := ((j1 36 57).toInt).toNat) (v := r_37) (show (-1 : Int) ≤ (r_37 : Int32).toInt ∧ (r_37 : Int32).toInt ≤ 61 from ⟨by omega, by omega⟩)
                      refine h_iast hx hb hK hH hS (by decide) (rfl : kd 415 = 13) (s_vin (N := 6) (rfl : (j1 36 57).toInt = _) (rfl : ln 415 = 6) (by omega) (by omega)) dX12_fits_238 (fun H locs hH hS => ?_)
                      rw [s_cl (show (j1 36 57).toInt = (j1 36 57).toInt by omega)] at hH
                      refine lv_aload_n hx hb dX12_fits_239 rfl (lv_at hl 4 rfl) ?_
                      refine lv_dup hx hb dX12_fits_240 rfl ?_
                      refine h_geti (ci := 12) (C := RX12) (F := TX12) (N := 86) hx hb hts in12 hown hK hH (by decide) (rfl : kd 36 = 12) (by decide) rfl 57 (by decide) wd5 (fun _ h9 => h9) (by decide) rfl dX12_fits_241 ?_
                      refine sj_i (y := (j1 36 57)) ((congrFun (up2_n _ _ (by decide)) _).trans ((congrFun (up2_n _ _ (by decide)) _).trans (congrFun (up2_n _ _ (by decide)) _))) ?_
                      refine lv_iconst (v := 1) hx hb dX12_fits_244 (by decide) ?_
                      refine lv_iadd hx hb dX12_fits_245 ?_
                      obtain ⟨z_61, ez_61, hz_61⟩ := s_add (rfl : (j1 36 57).toInt = _) (show (1 : Int32).toInt = 1 from rfl) (by omega) (by omega)
                      refine sj_i ez_61 ?_
                      have hO_62 := okp hO_60 (n := 36) (k := 57) (v := z_61) (show (0 : Int) ≤ (z_61 : Int32).toInt ∧ (z_61 : Int32).toInt ≤ 6 from ⟨by omega, by omega⟩)
                      refine h_puti (ty := .int) (ci := 12) (C := RX12) (F := TX12) (N := 86) hx hb hts in12 tyX12 tyX12_ok nmX12 hown hK hH hS (by decide) (rfl : kd 36 = 12) (by decide) rfl 57 (by decide) wd5 (fun _ h9 => h9) rfl (by decide +kernel) rfl rfl (by decide) rfl dX12_fits_246 (fun H locs hH hS => ?_)
                      refine lv_iload hx hb dX12_fits_249 (lv_at hl 0 rfl) ?_
                      refine lv_istore_n (lv' := [(3, .int r_37), (5, .int r_37), (4, .int p9), (2, .int r_4), (0, .ref (g 36)), (1, .int x)]) hx hb dX12_fits_251 rfl hl (by decide) rfl (fun ls hl => ?_)
                      obtain ⟨z_63, ez_63, hz_63⟩ := s_add (rfl : p9.toInt = _) (show (1 : Int32).toInt = 1 from rfl) (by omega) (by omega)
                      refine lv_iinc (v := z_63) (lv' := [(4, .int z_63), (3, .int r_37), (5, .int r_37), (2, .int r_4), (0, .ref (g 36)), (1, .int x)]) hx hb dX12_fits_252 hl (k := 2) rfl ez_63 (by decide) rfl (fun ls hl => ?_)
                      refine lv_goto (tgt := 128) hx hb dX12_fits_255 (by decide) ?_
                      have hp_64 : ((up2 (up2 (up2 (up2 j1 413 ((j1 36 57).toInt).toNat z_51) 414 ((j1 36 57).toInt).toNat k9) 415 ((j1 36 57).toInt).toNat r_37) 36 57 z_61) 36 57).toInt = (z_61 : Int32).toInt := congrArg Int32.toInt ((up2_at _ _ _ _))
                      have hp_65 : ((up2 (up2 (up2 (up2 j1 413 ((j1 36 57).toInt).toNat z_51) 414 ((j1 36 57).toInt).toNat k9) 415 ((j1 36 57).toInt).toNat r_37) 36 57 z_61) 36 57).toInt = (z_61 : Int32).toInt := congrArg Int32.toInt ((up2_at _ _ _ _))
                      have hq_66 : ((up2 (up2 (up2 (up2 j1 413 ((j1 36 57).toInt).toNat z_51) 414 ((j1 36 57).toInt).toNat k9) 415 ((j1 36 57).toInt).toNat r_37) 36 57 z_61) 413 (j1 36 57).toInt.toNat).toInt = (z_51 : Int32).toInt := congrArg Int32.toInt (((congrFun (up2_n _ _ (by decide)) _).trans ((congrFun (up2_n _ _ (by decide)) _).trans ((congrFun (up2_n _ _ (by decide)) _).trans (up2_at _ _ _ _)))))
                      have hq_67 : ((up2 (up2 (up2 (up2 j1 413 ((j1 36 57).toInt).toNat z_51) 414 ((j1 36 57).toInt).toNat k9) 415 ((j1 36 57).toInt).toNat r_37) 36 57 z_61) 414 (j1 36 57).toInt.toNat).toInt = (k9 : Int32).toInt := congrArg Int32.toInt (((congrFun (up2_n _ _ (by decide)) _).trans ((congrFun (up2_n _ _ (by decide)) _).trans (up2_at _ _ _ _))))
                      have hq_68 : ((up2 (up2 (up2 (up2 j1 413 ((j1 36 57).toInt).toNat z_51) 414 ((j1 36 57).toInt).toNat k9) 415 ((j1 36 57).toInt).toNat r_37) 36 57 z_61) 415 (j1 36 57).toInt.toNat).toInt = (r_37 : Int32).toInt := congrArg Int32.toInt (((congrFun (up2_n _ _ (by decide)) _).trans (up2_at _ _ _ _)))
                      exact ih_lp_25 r_37 z_63 _ _ _ ls (by omega) (by omega) (by omega) (by omega) (Or.inr (by rw [show (z_63).toInt = p9.toInt + 1 by omega, show (r_37).toInt = e8 by omega]; exact heB)) (by rw [show (z_63).toInt.toNat = p9.toInt.toNat + 1 by omega]; omega) (AQ_s (i := j1) (q := (im_6 407 p9.toInt.toNat).toInt) (k := k9.toInt) (e := r_37.toInt) hi_lp_25_3 (by omega) (by omega) (by omega) (fun _ => ⟨by omega, by omega⟩) (fun a ha => ⟨((up2_o _ _ (by omega)).trans ((up2_o _ _ (by omega)).trans ((up2_o _ _ (by omega)).trans (up2_o _ _ (by omega))))), ((up2_o _ _ (by omega)).trans ((up2_o _ _ (by omega)).trans ((up2_o _ _ (by omega)).trans (up2_o _ _ (by omega))))), ((up2_o _ _ (by omega)).trans ((up2_o _ _ (by omega)).trans ((up2_o _ _ (by omega)).trans (up2_o _ _ (by omega)))))⟩) (by omega) (by omega) (fun g => by have := hr92 g; omega) (fun g => (hr93 g).elim (fun j hj => ⟨j, hj.1, by have := hj.2.1; omega, bfL_g (by have := hj.1; omega) hj.2.2⟩))) hO_62 (fun a b ha => ((up2_o _ _ (by omega)).trans ((up2_o _ _ (by omega)).trans ((up2_o _ _ (by omega)).trans ((up2_o _ _ (by omega)).trans (hfr_j1 a b (by omega))))))) (lv_sub hl [0, 1, 3, 4, 5] rfl) hH hS
                    · skip
                      have h_69 := s_eq (rfl : (im_6 407 (p9.toInt).toNat).toInt = _) (show (115 : Int32).toInt = 115 from rfl) c_58
                      refine lv_iload hx hb dX12_fits_229 (lv_at hl 0 rfl) ?_
                      refine lv_iconst (v := 1) hx hb dX12_fits_231 (by decide) ?_
                      refine lv_isub hx hb dX12_fits_232 ?_
                      obtain ⟨z_70, ez_70, hz_70⟩ := s_sub (rfl : r_37.toInt = _) (show (1 : Int32).toInt = 1 from rfl) (by omega) (by omega)
                      refine sj_i ez_70 ?_
                      refine lv_goto (tgt := 238) hx hb dX12_fits_233 (by decide) ?_
                      have hO_71 := okp hO_56 (n := 415) (k := ((j1 36 57).toInt).toNat) (v := z_70) (show (-1 : Int) ≤ (z_70 : Int32).toInt ∧ (z_70 : Int32).toInt ≤ 61 from ⟨by omega, by omega⟩)
                      refine h_iast hx hb hK hH hS (by decide) (rfl : kd 415 = 13) (s_vin (N := 6) (rfl : (j1 36 57).toInt = _) (rfl : ln 415 = 6) (by omega) (by omega)) dX12_fits_238 (fun H locs hH hS => ?_)
                      rw [s_cl (show (j1 36 57).toInt = (j1 36 57).toInt by omega)] at hH
                      refine lv_aload_n hx hb dX12_fits_239 rfl (lv_at hl 4 rfl) ?_
                      refine lv_dup hx hb dX12_fits_240 rfl ?_
                      refine h_geti (ci := 12) (C := RX12) (F := TX12) (N := 86) hx hb hts in12 hown hK hH (by decide) (rfl : kd 36 = 12) (by decide) rfl 57 (by decide) wd5 (fun _ h9 => h9) (by decide) rfl dX12_fits_241 ?_
                      refine sj_i (y := (j1 36 57)) ((congrFun (up2_n _ _ (by decide)) _).trans ((congrFun (up2_n _ _ (by decide)) _).trans (congrFun (up2_n _ _ (by decide)) _))) ?_
                      refine lv_iconst (v := 1) hx hb dX12_fits_244 (by decide) ?_
                      refine lv_iadd hx hb dX12_fits_245 ?_
                      obtain ⟨z_72, ez_72, hz_72⟩ := s_add (rfl : (j1 36 57).toInt = _) (show (1 : Int32).toInt = 1 from rfl) (by omega) (by omega)
                      refine sj_i ez_72 ?_
                      have hO_73 := okp hO_71 (n := 36) (k := 57) (v := z_72) (show (0 : Int) ≤ (z_72 : Int32).toInt ∧ (z_72 : Int32).toInt ≤ 6 from ⟨by omega, by omega⟩)
                      refine h_puti (ty := .int) (ci := 12) (C := RX12) (F := TX12) (N := 86) hx hb hts in12 tyX12 tyX12_ok nmX12 hown hK hH hS (by decide) (rfl : kd 36 = 12) (by decide) rfl 57 (by decide) wd5 (fun _ h9 => h9) rfl (by decide +kernel) rfl rfl (by decide) rfl dX12_fits_246 (fun H locs hH hS => ?_)
                      refine lv_iload hx hb dX12_fits_249 (lv_at hl 0 rfl) ?_
                      refine lv_istore_n (lv' := [(3, .int r_37), (5, .int r_37), (4, .int p9), (2, .int r_4), (0, .ref (g 36)), (1, .int x)]) hx hb dX12_fits_251 rfl hl (by decide) rfl (fun ls hl => ?_)
                      obtain ⟨z_74, ez_74, hz_74⟩ := s_add (rfl : p9.toInt = _) (show (1 : Int32).toInt = 1 from rfl) (by omega) (by omega)
                      refine lv_iinc (v := z_74) (lv' := [(4, .int z_74), (3, .int r_37), (5, .int r_37), (2, .int r_4), (0, .ref (g 36)), (1, .int x)]) hx hb dX12_fits_252 hl (k := 2) rfl ez_74 (by decide) rfl (fun ls hl => ?_)
                      refine lv_goto (tgt := 128) hx hb dX12_fits_255 (by decide) ?_
                      have hp_75 : ((up2 (up2 (up2 (up2 j1 413 ((j1 36 57).toInt).toNat z_51) 414 ((j1 36 57).toInt).toNat k9) 415 ((j1 36 57).toInt).toNat z_70) 36 57 z_72) 36 57).toInt = (z_72 : Int32).toInt := congrArg Int32.toInt ((up2_at _ _ _ _))
                      have hp_76 : ((up2 (up2 (up2 (up2 j1 413 ((j1 36 57).toInt).toNat z_51) 414 ((j1 36 57).toInt).toNat k9) 415 ((j1 36 57).toInt).toNat z_70) 36 57 z_72) 36 57).toInt = (z_72 : Int32).toInt := congrArg Int32.toInt ((up2_at _ _ _ _))
                      have hq_77 : ((up2 (up2 (up2 (up2 j1 413 ((j1 36 57).toInt).toNat z_51) 414 ((j1 36 57).toInt).toNat k9) 415 ((j1 36 57).toInt).toNat z_70) 36 57 z_72) 413 (j1 36 57).toInt.toNat).toInt = (z_51 : Int32).toInt := congrArg Int32.toInt (((congrFun (up2_n _ _ (by decide)) _).trans ((congrFun (up2_n _ _ (by decide)) _).trans ((congrFun (up2_n _ _ (by decide)) _).trans (up2_at _ _ _ _)))))
                      have hq_78 : ((up2 (up2 (up2 (up2 j1 413 ((j1 36 57).toInt).toNat z_51) 414 ((j1 36 57).toInt).toNat k9) 415 ((j1 36 57).toInt).toNat z_70) 36 57 z_72) 414 (j1 36 57).toInt.toNat).toInt = (k9 : Int32).toInt := congrArg Int32.toInt (((congrFun (up2_n _ _ (by decide)) _).trans ((congrFun (up2_n _ _ (by decide)) _).trans (up2_at _ _ _ _))))
                      have hq_79 : ((up2 (up2 (up2 (up2 j1 413 ((j1 36 57).toInt).toNat z_51) 414 ((j1 36 57).toInt).toNat k9) 415 ((j1 36 57).toInt).toNat z_70) 36 57 z_72) 415 (j1 36 57).toInt.toNat).toInt = (z_70 : Int32).toInt := congrArg Int32.toInt (((congrFun (up2_n _ _ (by decide)) _).trans (up2_at _ _ _ _)))
                      exact ih_lp_25 r_37 z_74 _ _ _ ls (by omega) (by omega) (by omega) (by omega) (Or.inr (by rw [show (z_74).toInt = p9.toInt + 1 by omega, show (r_37).toInt = e8 by omega]; exact heB)) (by rw [show (z_74).toInt.toNat = p9.toInt.toNat + 1 by omega]; omega) (AQ_s (i := j1) (q := (im_6 407 p9.toInt.toNat).toInt) (k := k9.toInt) (e := r_37.toInt) hi_lp_25_3 (by omega) (by omega) (by omega) (fun _ => ⟨by omega, by omega⟩) (fun a ha => ⟨((up2_o _ _ (by omega)).trans ((up2_o _ _ (by omega)).trans ((up2_o _ _ (by omega)).trans (up2_o _ _ (by omega))))), ((up2_o _ _ (by omega)).trans ((up2_o _ _ (by omega)).trans ((up2_o _ _ (by omega)).trans (up2_o _ _ (by omega))))), ((up2_o _ _ (by omega)).trans ((up2_o _ _ (by omega)).trans ((up2_o _ _ (by omega)).trans (up2_o _ _ (by omega)))))⟩) (by omega) (by omega) (fun g => by have := hr92 g; omega) (fun g => (hr93 g).elim (fun j hj => ⟨j, hj.1, by have := hj.2.1; omega, bfL_g (by have := hj.1; omega) hj.2.2⟩))) hO_73 (fun a b ha => ((up2_o _ _ (by omega)).trans ((up2_o _ _ (by omega)).trans ((up2_o _ _ (by omega)).trans ((up2_o _ _ (by omega)).trans (hfr_j1 a b (by omega))))))) (lv_sub hl [0, 1, 3, 4, 5] rfl) hH hS
                  · skip
                    have h_80 := s_eq (rfl : (im_6 407 (p9.toInt).toNat).toInt = _) (show (115 : Int32).toInt = 115 from rfl) c_54
                    refine lv_iload_n hx hb dX12_fits_201 rfl (lv_at hl 2 rfl) ?_
                    refine lv_iconst (v := 1) hx hb dX12_fits_202 (by decide) ?_
                    refine lv_iadd hx hb dX12_fits_203 ?_
                    obtain ⟨z_81, ez_81, hz_81⟩ := s_add (rfl : k9.toInt = _) (show (1 : Int32).toInt = 1 from rfl) (by omega) (by omega)
                    refine sj_i ez_81 ?_
                    refine lv_goto (tgt := 208) hx hb dX12_fits_204 (by decide) ?_
                    have hO_82 := okp hO_52 (n := 414) (k := ((j1 36 57).toInt).toNat) (v := z_81) (show (0 : Int) ≤ (z_81 : Int32).toInt ∧ (z_81 : Int32).toInt ≤ 61 from ⟨by omega, by omega⟩)
                    refine h_iast hx hb hK hH hS (by decide) (rfl : kd 414 = 13) (s_vin (N := 6) (rfl : (j1 36 57).toInt = _) (rfl : ln 414 = 6) (by omega) (by omega)) dX12_fits_208 (fun H locs hH hS => ?_)
                    rw [s_cl (show (j1 36 57).toInt = (j1 36 57).toInt by omega)] at hH
                    refine lv_aload_n hx hb dX12_fits_209 rfl (lv_at hl 4 rfl) ?_
                    refine h_getr (ci := 12) (C := RX12) (F := TX12) (N := 86) hx hb hts in12 hown hK hH (by decide) (rfl : kd 36 = 12) (by decide) rfl 60 (by decide) wd10 (fun _ h9 => h9) (by decide) rfl (t := 415) (hR 36 60 rfl) (by decide) dX12_fits_210 ?_
                    refine lv_aload_n hx hb dX12_fits_213 rfl (lv_at hl 4 rfl) ?_
                    refine h_geti (ci := 12) (C := RX12) (F := TX12) (N := 86) hx hb hts in12 hown hK hH (by decide) (rfl : kd 36 = 12) (by decide) rfl 57 (by decide) wd5 (fun _ h9 => h9) (by decide) rfl dX12_fits_214 ?_
                    refine sj_i (y := (j1 36 57)) ((congrFun (up2_n _ _ (by decide)) _).trans (congrFun (up2_n _ _ (by decide)) _)) ?_
                    refine lv_aload_n hx hb dX12_fits_217 rfl (lv_at hl 4 rfl) ?_
                    refine h_getr (ci := 12) (C := RX12) (F := TX12) (N := 86) hx hb hts in12 hown hK hH (by decide) (rfl : kd 36 = 12) (by decide) rfl 47 (by decide) wd8 (fun _ h9 => h9) (by decide) rfl (t := 407) (hR 36 47 rfl) (by decide) dX12_fits_218 ?_
                    refine lv_iload hx hb dX12_fits_221 (lv_at hl 1 rfl) ?_
                    refine h_iald hx hb hK hH (by decide) (rfl : kd 407 = 13) (s_vin (N := 64) (rfl : p9.toInt = _) (rfl : ln 407 = 64) (by omega) (by omega)) dX12_fits_223 ?_
                    have ek_83 : p9.toNatClampNeg = (p9.toInt).toNat := (s_cl (show p9.toInt = p9.toInt by omega))
                    refine sj_i (y := (im_6 407 (p9.toInt).toNat)) (by rw [ek_83]; exact ((congrFun (up2_n _ _ (by decide)) _).trans ((congrFun (up2_n _ _ (by decide)) _).trans ((hfr_j1 407 (p9.toInt).toNat (by omega)).trans (congrFun (up2_n _ _ (by decide)) _))))) ?_
                    refine lv_bipush (v := 115) hx hb dX12_fits_224 (by decide) ?_
                    refine lv_icmp_ne (tgt := 236) hx hb dX12_fits_226 (by decide) (fun h => absurd (p_eq (rfl : (im_6 407 (p9.toInt).toNat).toInt = _) (show (115 : Int32).toInt = 115 from rfl) (by omega)) h) (fun _ => ?_)
                    refine lv_iload hx hb dX12_fits_229 (lv_at hl 0 rfl) ?_
                    refine lv_iconst (v := 1) hx hb dX12_fits_231 (by decide) ?_
                    refine lv_isub hx hb dX12_fits_232 ?_
                    obtain ⟨z_84, ez_84, hz_84⟩ := s_sub (rfl : r_37.toInt = _) (show (1 : Int32).toInt = 1 from rfl) (by omega) (by omega)
                    refine sj_i ez_84 ?_
                    refine lv_goto (tgt := 238) hx hb dX12_fits_233 (by decide) ?_
                    have hO_85 := okp hO_82 (n := 415) (k := ((j1 36 57).toInt).toNat) (v := z_84) (show (-1 : Int) ≤ (z_84 : Int32).toInt ∧ (z_84 : Int32).toInt ≤ 61 from ⟨by omega, by omega⟩)
                    refine h_iast hx hb hK hH hS (by decide) (rfl : kd 415 = 13) (s_vin (N := 6) (rfl : (j1 36 57).toInt = _) (rfl : ln 415 = 6) (by omega) (by omega)) dX12_fits_238 (fun H locs hH hS => ?_)
                    rw [s_cl (show (j1 36 57).toInt = (j1 36 57).toInt by omega)] at hH
                    refine lv_aload_n hx hb dX12_fits_239 rfl (lv_at hl 4 rfl) ?_
                    refine lv_dup hx hb dX12_fits_240 rfl ?_
                    refine h_geti (ci := 12) (C := RX12) (F := TX12) (N := 86) hx hb hts in12 hown hK hH (by decide) (rfl : kd 36 = 12) (by decide) rfl 57 (by decide) wd5 (fun _ h9 => h9) (by decide) rfl dX12_fits_241 ?_
                    refine sj_i (y := (j1 36 57)) ((congrFun (up2_n _ _ (by decide)) _).trans ((congrFun (up2_n _ _ (by decide)) _).trans (congrFun (up2_n _ _ (by decide)) _))) ?_
                    refine lv_iconst (v := 1) hx hb dX12_fits_244 (by decide) ?_
                    refine lv_iadd hx hb dX12_fits_245 ?_
                    obtain ⟨z_86, ez_86, hz_86⟩ := s_add (rfl : (j1 36 57).toInt = _) (show (1 : Int32).toInt = 1 from rfl) (by omega) (by omega)
                    refine sj_i ez_86 ?_
                    have hO_87 := okp hO_85 (n := 36) (k := 57) (v := z_86) (show (0 : Int) ≤ (z_86 : Int32).toInt ∧ (z_86 : Int32).toInt ≤ 6 from ⟨by omega, by omega⟩)
                    refine h_puti (ty := .int) (ci := 12) (C := RX12) (F := TX12) (N := 86) hx hb hts in12 tyX12 tyX12_ok nmX12 hown hK hH hS (by decide) (rfl : kd 36 = 12) (by decide) rfl 57 (by decide) wd5 (fun _ h9 => h9) rfl (by decide +kernel) rfl rfl (by decide) rfl dX12_fits_246 (fun H locs hH hS => ?_)
                    refine lv_iload hx hb dX12_fits_249 (lv_at hl 0 rfl) ?_
                    refine lv_istore_n (lv' := [(3, .int r_37), (5, .int r_37), (4, .int p9), (2, .int r_4), (0, .ref (g 36)), (1, .int x)]) hx hb dX12_fits_251 rfl hl (by decide) rfl (fun ls hl => ?_)
                    obtain ⟨z_88, ez_88, hz_88⟩ := s_add (rfl : p9.toInt = _) (show (1 : Int32).toInt = 1 from rfl) (by omega) (by omega)
                    refine lv_iinc (v := z_88) (lv' := [(4, .int z_88), (3, .int r_37), (5, .int r_37), (2, .int r_4), (0, .ref (g 36)), (1, .int x)]) hx hb dX12_fits_252 hl (k := 2) rfl ez_88 (by decide) rfl (fun ls hl => ?_)
                    refine lv_goto (tgt := 128) hx hb dX12_fits_255 (by decide) ?_
                    have hp_89 : ((up2 (up2 (up2 (up2 j1 413 ((j1 36 57).toInt).toNat z_51) 414 ((j1 36 57).toInt).toNat z_81) 415 ((j1 36 57).toInt).toNat z_84) 36 57 z_86) 36 57).toInt = (z_86 : Int32).toInt := congrArg Int32.toInt ((up2_at _ _ _ _))
                    have hp_90 : ((up2 (up2 (up2 (up2 j1 413 ((j1 36 57).toInt).toNat z_51) 414 ((j1 36 57).toInt).toNat z_81) 415 ((j1 36 57).toInt).toNat z_84) 36 57 z_86) 36 57).toInt = (z_86 : Int32).toInt := congrArg Int32.toInt ((up2_at _ _ _ _))
                    have hq_91 : ((up2 (up2 (up2 (up2 j1 413 ((j1 36 57).toInt).toNat z_51) 414 ((j1 36 57).toInt).toNat z_81) 415 ((j1 36 57).toInt).toNat z_84) 36 57 z_86) 413 (j1 36 57).toInt.toNat).toInt = (z_51 : Int32).toInt := congrArg Int32.toInt (((congrFun (up2_n _ _ (by decide)) _).trans ((congrFun (up2_n _ _ (by decide)) _).trans ((congrFun (up2_n _ _ (by decide)) _).trans (up2_at _ _ _ _)))))
                    have hq_92 : ((up2 (up2 (up2 (up2 j1 413 ((j1 36 57).toInt).toNat z_51) 414 ((j1 36 57).toInt).toNat z_81) 415 ((j1 36 57).toInt).toNat z_84) 36 57 z_86) 414 (j1 36 57).toInt.toNat).toInt = (z_81 : Int32).toInt := congrArg Int32.toInt (((congrFun (up2_n _ _ (by decide)) _).trans ((congrFun (up2_n _ _ (by decide)) _).trans (up2_at _ _ _ _))))
                    have hq_93 : ((up2 (up2 (up2 (up2 j1 413 ((j1 36 57).toInt).toNat z_51) 414 ((j1 36 57).toInt).toNat z_81) 415 ((j1 36 57).toInt).toNat z_84) 36 57 z_86) 415 (j1 36 57).toInt.toNat).toInt = (z_84 : Int32).toInt := congrArg Int32.toInt (((congrFun (up2_n _ _ (by decide)) _).trans (up2_at _ _ _ _)))
                    exact ih_lp_25 r_37 z_88 _ _ _ ls (by omega) (by omega) (by omega) (by omega) (Or.inr (by rw [show (z_88).toInt = p9.toInt + 1 by omega, show (r_37).toInt = e8 by omega]; exact heB)) (by rw [show (z_88).toInt.toNat = p9.toInt.toNat + 1 by omega]; omega) (AQ_s (i := j1) (q := (im_6 407 p9.toInt.toNat).toInt) (k := k9.toInt) (e := r_37.toInt) hi_lp_25_3 (by omega) (by omega) (by omega) (fun _ => ⟨by omega, by omega⟩) (fun a ha => ⟨((up2_o _ _ (by omega)).trans ((up2_o _ _ (by omega)).trans ((up2_o _ _ (by omega)).trans (up2_o _ _ (by omega))))), ((up2_o _ _ (by omega)).trans ((up2_o _ _ (by omega)).trans ((up2_o _ _ (by omega)).trans (up2_o _ _ (by omega))))), ((up2_o _ _ (by omega)).trans ((up2_o _ _ (by omega)).trans ((up2_o _ _ (by omega)).trans (up2_o _ _ (by omega)))))⟩) (by omega) (by omega) (fun g => by have := hr92 g; omega) (fun g => (hr93 g).elim (fun j hj => ⟨j, hj.1, by have := hj.2.1; omega, bfL_g (by have := hj.1; omega) hj.2.2⟩))) hO_87 (fun a b ha => ((up2_o _ _ (by omega)).trans ((up2_o _ _ (by omega)).trans ((up2_o _ _ (by omega)).trans ((up2_o _ _ (by omega)).trans (hfr_j1 a b (by omega))))))) (lv_sub hl [0, 1, 3, 4, 5] rfl) hH hS
          have hl_94 : (0 : Int32).toInt = 0 := rfl
          have hl_95 : (0 : Int32).toInt = 0 := rfl
          have hp_96 : ((up2 im_6 36 57 0) 36 57).toInt = (0 : Int32).toInt := congrArg Int32.toInt ((up2_at _ _ _ _))
          have hl_97 : (0 : Int32).toInt = 0 := rfl
          have hp_98 : ((up2 im_6 36 57 0) 36 57).toInt = (0 : Int32).toInt := congrArg Int32.toInt ((up2_at _ _ _ _))
          have hl_99 : (0 : Int32).toInt = 0 := rfl
          exact lp_25 _ 0 0 _ _ _ ls (Nat.lt_succ_self _) (by omega) (by omega) (by omega) (Or.inr (hbz.resolve_right (fun q => by have := q.1; omega)).2) (by rw [show (0 : Int32).toInt.toNat = 0 from rfl]; show _ = ((0 : Nat) : Int); omega) (AQ_0 (by omega)) hO_24 (fun a b ha => rfl) (lv_sub hl [0, 1, 2, 3, 4] rfl) hH hS
        · skip
          have h_100 := s_eq (rfl : z_21.toInt = _) (show (0 : Int32).toInt = 0 from rfl) c_22
          refine lv_iconst (v := 0) hx hb dX12_fits_116 (by decide) ?_
          have hV_101 : ((0 : Int32).toInt = 1 → AQ im_6 (bfL i)) := (fun q => absurd q (by decide))
          exact sj_zret hx hb hr hlocks (by decide +kernel) hS (im_6, L1) ⟨hO_8, (fun a b ha => (hfr_7 a b (by omega))), ⟨by decide, by decide⟩, hV_101⟩ hH (sj_Knil hK) (Nat.le_of_ble_eq_true rfl) (Nat.le_of_ble_eq_true rfl) dX12_fits_117
      · skip
        have h_102 := s_nlt (rfl : f.toInt = _) (show (0 : Int32).toInt = 0 from rfl) c_17
        refine lv_aload_n hx hb dX12_fits_45 rfl (lv_at hl 2 rfl) ?_
        refine h_getr (ci := 12) (C := RX12) (F := TX12) (N := 86) hx hb hts in12 hown hK hH (by decide) (rfl : kd 36 = 12) (by decide) rfl 56 (by decide) wd2 (fun _ h9 => h9) (by decide) rfl (t := 412) (hR 36 56 rfl) (by decide) dX12_fits_46 ?_
        refine lv_iload_n hx hb dX12_fits_49 rfl (lv_at hl 0 rfl) ?_
        refine lv_lconst (v := 0) hx hb dX12_fits_50 (by decide) ?_
        refine h_last hx hb hK hH hS (by decide) (rfl : kd 412 = 16) (s_vin (N := 64) (rfl : f.toInt = _) (rfl : ln 412 = 64) (by omega) (by omega)) dX12_fits_51 (fun H locs hH hS => ?_)
        obtain ⟨LL_103, eLL_103⟩ : ∃ L9, (upl L1 412 f.toNatClampNeg 0) = L9 := ⟨_, rfl⟩
        rw [eLL_103] at hH
        have hatLL_103 : LL_103 412 (f.toInt).toNat = 0 := by rw [← eLL_103, show f.toNatClampNeg = (f.toInt).toNat from s_cl rfl]; exact upl_at _ _ _ _
        have hotLL_103 : ∀ k : Nat, k ≠ (f.toInt).toNat → LL_103 412 k = L1 412 k := fun k hk => by rw [← eLL_103, show f.toNatClampNeg = (f.toInt).toNat from s_cl rfl]; exact upl_k _ _ _ hk
        refine lv_iconst (v := 0) hx hb dX12_fits_52 (by decide) ?_
        refine lv_istore (lv' := [(4, .int 0), (3, .int f), (2, .int r_4), (0, .ref (g 36)), (1, .int x)]) hx hb dX12_fits_53 hl (by decide) rfl (fun ls hl => ?_)
        -- loop at 55
        have lp_104 : ∀ (fuel_lp_104 : Nat) (g9 : Int32) (L2 : Nat → Nat → Int64) (H : Heap) (locs : List Loc) (ls : Array Slot), (61 - g9.toInt).toNat < fuel_lp_104 → (0 : Int) ≤ g9.toInt ∧ g9.toInt ≤ 61 → 0 ≤ g9.toInt → wbA im_6 L2 f.toInt → wbR im_6 L2 f.toInt → lv_has ls 6 [(4, .int g9), (3, .int f), (2, .int r_4), (0, .ref (g 36)), (1, .int x)] → sj_H D A (hwc g ka im_6 r L2 d) H → va_S A s.heap H locs → W p l e (headSpec wsX12_fits ({ frames := 5, cells := 0, slots := 0, locals := 118 })).room s m ([.ref (g 36), .int x] : List Value).toArray below meth c H locs 0 0 (MQ below (sj_Qi (S := (Nat → Nat → Int32) × (Nat → Nat → Int64)) D (fun v u => OkI u.1 ∧ (∀ a b, ¬ ((a = 36 ∧ (b = 45 ∨ b = 49 ∨ b = 52 ∨ b = 54 ∨ b = 55 ∨ b = 57)) ∨ a = 406 ∨ a = 407 ∨ a = 408 ∨ a = 409 ∨ a = 410 ∨ a = 411 ∨ a = 413 ∨ a = 414 ∨ a = 415) → u.1 a b = i a b) ∧ ((0 : Int) ≤ v.toInt ∧ v.toInt ≤ 1) ∧ ((v.toInt = 1 → AQ u.1 (bfL i)))) (fun u => hwc g ka u.1 r u.2 d) (fun _ => []) A) ([.ref (g 36), .int x] : List Value).toArray s 0 0 A) (F0 m 55 ls []) := by
          intro fuel_lp_104
          induction fuel_lp_104 with
          | zero => intros; omega
          | succ fuel_lp_104 ih_lp_104 =>
            intro g9 L2 H locs ls hm hr_g9 hi_lp_104_0 hi_lp_104_1 hi_lp_104_2 hl hH hS
            refine lv_iload hx hb dX12_fits_55 (lv_at hl 0 rfl) ?_
            refine lv_aload_n hx hb dX12_fits_57 rfl (lv_at hl 3 rfl) ?_
            refine h_geti (ci := 12) (C := RX12) (F := TX12) (N := 86) hx hb hts in12 hown hK hH (by decide) (rfl : kd 36 = 12) (by decide) rfl 40 (by decide) wd4 (fun _ h9 => h9) (by decide) rfl dX12_fits_58 ?_
            refine sj_i (y := (i 36 40)) (hfr_7 36 40 (by omega)) ?_
            refine lv_icmp_gt (tgt := 97) hx hb dX12_fits_61 (by decide) (fun c_105 => ?_) (fun c_105 => ?_)
            · skip
              have h_106 := s_lt (rfl : (i 36 40).toInt = _) (rfl : g9.toInt = _) c_105
              obtain ⟨z_107, ez_107, hz_107⟩ := s_add (rfl : f.toInt = _) (show ((-1) : Int32).toInt = (-1) from rfl) (by omega) (by omega)
              refine lv_iinc (v := z_107) (lv' := [(3, .int z_107), (4, .int g9), (2, .int r_4), (0, .ref (g 36)), (1, .int x)]) hx hb dX12_fits_97 hl (k := 1) rfl ez_107 (by decide) rfl (fun ls hl => ?_)
              refine lv_goto (tgt := 41) hx hb dX12_fits_100 (by decide) ?_
              exact ih_lp_16 z_107 _ _ _ ls (by omega) (by omega) (wbA_s hi_lp_104_1 hi_lp_104_2 (by omega)) (by omega) (lv_sub hl [0, 2, 3, 4] rfl) hH hS
            · skip
              have h_108 := s_nlt (rfl : (i 36 40).toInt = _) (rfl : g9.toInt = _) c_105
              refine lv_aload_n hx hb dX12_fits_64 rfl (lv_at hl 3 rfl) ?_
              refine h_getr (ci := 12) (C := RX12) (F := TX12) (N := 86) hx hb hts in12 hown hK hH (by decide) (rfl : kd 36 = 12) (by decide) rfl 56 (by decide) wd2 (fun _ h9 => h9) (by decide) rfl (t := 412) (hR 36 56 rfl) (by decide) dX12_fits_65 ?_
              refine lv_iload_n hx hb dX12_fits_68 rfl (lv_at hl 1 rfl) ?_
              refine lv_dup2_11 hx hb dX12_fits_69 rfl rfl ?_
              refine h_lald hx hb hK hH (by decide) (rfl : kd 412 = 16) (s_vin (N := 64) (rfl : f.toInt = _) (rfl : ln 412 = 64) (by omega) (by omega)) dX12_fits_70 ?_
              refine lv_topl (fun z_109 ez_109 => ?_)
              refine lv_aload_n hx hb dX12_fits_71 rfl (lv_at hl 3 rfl) ?_
              refine lv_iload_n hx hb dX12_fits_72 rfl (lv_at hl 1 rfl) ?_
              refine lv_iload hx hb dX12_fits_73 (lv_at hl 0 rfl) ?_
              refine x_calli (va_runV (As := [.int f, .int g9]) (rest := [.long z_109, .int f, .ref (g 412)]) ⟨hx, hb, hml, hown, hts⟩ (m_way l D g ka ad im_6 r L2 d f g9 hO_8 hR H.size (by first | omega | decide) (by first | omega | decide) (by first | omega | decide) (exI_fr hexm rfl rfl rfl (fun a h1 h2 => funext fun b => rfl)) (by first | omega | decide) (by first | omega | decide)) (cwV 2 hts gX12_fits_X12_way rfl rfl rfl (by decide +kernel) ⟨(Nat.le_of_ble_eq_true rfl), (Nat.le_of_ble_eq_true rfl)⟩) (x_preV (q := (RX12, TX12, 86)) hH hK (q_obj (by decide) (rfl : kd 36 = 12) (by decide)) rfl gxb (gxw hE hS (x_F hH hS hA))) rfl rfl hl.1 rfl (lv_room (Nat.le_of_ble_eq_true rfl)) dX12_fits_75 ⟨(Nat.le_of_ble_eq_true rfl), (Nat.le_of_ble_eq_true rfl)⟩) hH hS hA rfl rfl (fun r_110 _ H locs hw_111 hH hS => ?_)
              obtain ⟨hr_113, hx2_114⟩ := hw_111
              have hr_113 : (-1 : Int) ≤ r_110.toInt ∧ r_110.toInt ≤ 61 := hr_113
              refine lv_if_ge (tgt := 85) hx hb dX12_fits_78 (by decide) (fun c_115 => ?_) (fun c_115 => ?_)
              · skip
                have h_116 := s_le (show (0 : Int32).toInt = 0 from rfl) (rfl : r_110.toInt = _) c_115
                refine lv_lconst (v := 1) hx hb dX12_fits_85 (by decide) ?_
                refine lv_iload hx hb dX12_fits_86 (lv_at hl 0 rfl) ?_
                refine lv_lshl hx hb dX12_fits_88 rfl ?_
                refine lv_topl (fun z_117 ez_117 => ?_)
                refine lv_lor hx hb dX12_fits_89 ?_
                refine lv_topl (fun z_118 ez_118 => ?_)
                refine h_last hx hb hK hH hS (by decide) (rfl : kd 412 = 16) (s_vin (N := 64) (rfl : f.toInt = _) (rfl : ln 412 = 64) (by omega) (by omega)) dX12_fits_90 (fun H locs hH hS => ?_)
                obtain ⟨LL_119, eLL_119⟩ : ∃ L9, (upl L2 412 f.toNatClampNeg z_118) = L9 := ⟨_, rfl⟩
                rw [eLL_119] at hH
                have hatLL_119 : LL_119 412 (f.toInt).toNat = z_118 := by rw [← eLL_119, show f.toNatClampNeg = (f.toInt).toNat from s_cl rfl]; exact upl_at _ _ _ _
                have hotLL_119 : ∀ k : Nat, k ≠ (f.toInt).toNat → LL_119 412 k = L2 412 k := fun k hk => by rw [← eLL_119, show f.toNatClampNeg = (f.toInt).toNat from s_cl rfl]; exact upl_k _ _ _ hk
                obtain ⟨z_120, ez_120, hz_120⟩ := s_add (rfl : g9.toInt = _) (show (1 : Int32).toInt = 1 from rfl) (by omega) (by omega)
                refine lv_iinc (v := z_120) (lv' := [(4, .int z_120), (3, .int f), (2, .int r_4), (0, .ref (g 36)), (1, .int x)]) hx hb dX12_fits_91 hl (k := 0) rfl ez_120 (by decide) rfl (fun ls hl => ?_)
                refine lv_goto (tgt := 55) hx hb dX12_fits_94 (by decide) ?_
                exact ih_lp_104 z_120 _ _ _ ls (by omega) (by omega) (by omega) (wbA_put hi_lp_104_1 (by omega) hotLL_119) (wbR_or (v := r_110.toInt) (k := g9.toInt) hi_lp_104_2 (by omega) (hatLL_119.trans ez_118) (by rw [ez_109]; exact congrArg (L2 412) (s_cl rfl).symm) hotLL_119 (by omega) (by omega) (Or.inr ⟨by omega, fun e9 h9 hb9 => bit_1 (k := g9.toInt.toNat) (y := g9) (by omega) (by omega) ez_117 hb9⟩) hx2_114 (by omega)) (lv_sub hl [0, 1, 2, 3, 4] rfl) hH hS
              · skip
                have h_121 := s_nle (show (0 : Int32).toInt = 0 from rfl) (rfl : r_110.toInt = _) c_115
                refine lv_lconst (v := 0) hx hb dX12_fits_81 (by decide) ?_
                refine lv_goto (tgt := 89) hx hb dX12_fits_82 (by decide) ?_
                refine lv_lor hx hb dX12_fits_89 ?_
                refine lv_topl (fun z_122 ez_122 => ?_)
                refine h_last hx hb hK hH hS (by decide) (rfl : kd 412 = 16) (s_vin (N := 64) (rfl : f.toInt = _) (rfl : ln 412 = 64) (by omega) (by omega)) dX12_fits_90 (fun H locs hH hS => ?_)
                obtain ⟨LL_123, eLL_123⟩ : ∃ L9, (upl L2 412 f.toNatClampNeg z_122) = L9 := ⟨_, rfl⟩
                rw [eLL_123] at hH
                have hatLL_123 : LL_123 412 (f.toInt).toNat = z_122 := by rw [← eLL_123, show f.toNatClampNeg = (f.toInt).toNat from s_cl rfl]; exact upl_at _ _ _ _
                have hotLL_123 : ∀ k : Nat, k ≠ (f.toInt).toNat → LL_123 412 k = L2 412 k := fun k hk => by rw [← eLL_123, show f.toNatClampNeg = (f.toInt).toNat from s_cl rfl]; exact upl_k _ _ _ hk
                obtain ⟨z_124, ez_124, hz_124⟩ := s_add (rfl : g9.toInt = _) (show (1 : Int32).toInt = 1 from rfl) (by omega) (by omega)
                refine lv_iinc (v := z_124) (lv' := [(4, .int z_124), (3, .int f), (2, .int r_4), (0, .ref (g 36)), (1, .int x)]) hx hb dX12_fits_91 hl (k := 0) rfl ez_124 (by decide) rfl (fun ls hl => ?_)
                refine lv_goto (tgt := 55) hx hb dX12_fits_94 (by decide) ?_
                exact ih_lp_104 z_124 _ _ _ ls (by omega) (by omega) (by omega) (wbA_put hi_lp_104_1 (by omega) hotLL_123) (wbR_or (v := r_110.toInt) (k := g9.toInt) hi_lp_104_2 (by omega) (hatLL_123.trans ez_122) (by rw [ez_109]; exact congrArg (L2 412) (s_cl rfl).symm) hotLL_123 (by omega) (by omega) (Or.inl ⟨by omega, rfl⟩) hx2_114 (by omega)) (lv_sub hl [0, 1, 2, 3, 4] rfl) hH hS
        have hl_125 : (0 : Int32).toInt = 0 := rfl
        exact lp_104 _ 0 _ _ _ ls (Nat.lt_succ_self _) (by omega) (by omega) (wbA_put hi_lp_16_0 (by omega) hotLL_103) (wbR_0 hatLL_103) (lv_sub hl [0, 1, 2, 3, 4] rfl) hH hS
  exact lp_16 _ z_15 _ _ _ ls (Nat.lt_succ_self _) (by omega) (wbA_1 (y := (i 36 40)) (by omega) (by omega) hatLL_14 (by omega) (by omega) ez_13) (by omega) (lv_sub hl [0, 1, 2, 3] rfl) hH hS
