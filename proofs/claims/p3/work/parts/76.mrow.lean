theorem row_no {m : Nat → Nat → Int32} {wd : Int} {v : Int} (h : (v = -1 ∧ (cnt (m 392) (m 36 27).toInt (m 36 26).toInt.toNat : Int) ≤ 0) ∨ (0 ≤ v ∧ v < (m 36 26).toInt ∧ (m 392 v.toNat).toInt = (m 36 27).toInt ∧ (cnt (m 392) (m 36 27).toInt v.toNat : Int) = 0)) (h0 : 0 ≤ v) (hw : (m 394 v.toNat).toInt ≠ wd) : ¬ rowM m wd := by
  rcases h with ⟨h1, _⟩ | ⟨_, h1, h2, h3⟩
  · omega
  · intro hr
    rcases hr with hr | ⟨k, k1, k2, k3, k4⟩
    · have := cnt_pos h2 (m 36 26).toInt.toNat (by omega); omega
    · by_cases h5 : k < v.toNat
      · have := cnt_pos k2 v.toNat h5; omega
      · by_cases h6 : v.toNat < k
        · have := cnt_pos h2 k h6; omega
        · rw [show k = v.toNat by omega] at k4; exact hw k4
theorem dX12_row_0 : decode cX12_row 0 = .ok (.iconst 0, 1) := by decide +kernel
theorem dX12_row_1 : decode cX12_row 1 = .ok (.istore_n 2, 1) := by decide +kernel
theorem dX12_row_2 : decode cX12_row 2 = .ok (.iconst 0, 1) := by decide +kernel
theorem dX12_row_3 : decode cX12_row 3 = .ok (.istore_n 3, 1) := by decide +kernel
theorem dX12_row_4 : decode cX12_row 4 = .ok (.iload_n 3, 1) := by decide +kernel
theorem dX12_row_5 : decode cX12_row 5 = .ok (.aload_n 0, 1) := by decide +kernel
theorem dX12_row_6 : decode cX12_row 6 = .ok (.getfield 16, 3) := by decide +kernel
theorem dX12_row_9 : decode cX12_row 9 = .ok (.if_icmp .ge 28, 3) := by decide +kernel
theorem dX12_row_37 : decode cX12_row 37 = .ok (.iload_n 2, 1) := by decide +kernel
theorem dX12_row_38 : decode cX12_row 38 = .ok (.iconst 2, 1) := by decide +kernel
theorem dX12_row_39 : decode cX12_row 39 = .ok (.if_icmp .lt 24, 3) := by decide +kernel
theorem dX12_row_63 : decode cX12_row 63 = .ok (.iconst 3, 1) := by decide +kernel
theorem dX12_row_64 : decode cX12_row 64 = .ok (.ireturn, 1) := by decide +kernel
theorem dX12_row_42 : decode cX12_row 42 = .ok (.iload_n 2, 1) := by decide +kernel
theorem dX12_row_43 : decode cX12_row 43 = .ok (.iconst 5, 1) := by decide +kernel
theorem dX12_row_44 : decode cX12_row 44 = .ok (.if_icmp .gt 19, 3) := by decide +kernel
theorem dX12_row_47 : decode cX12_row 47 = .ok (.aload_n 0, 1) := by decide +kernel
theorem dX12_row_48 : decode cX12_row 48 = .ok (.getfield 19, 3) := by decide +kernel
theorem dX12_row_51 : decode cX12_row 51 = .ok (.aload_n 0, 1) := by decide +kernel
theorem dX12_row_52 : decode cX12_row 52 = .ok (.getfield 16, 3) := by decide +kernel
theorem dX12_row_55 : decode cX12_row 55 = .ok (.iconst 1, 1) := by decide +kernel
theorem dX12_row_56 : decode cX12_row 56 = .ok (.isub, 1) := by decide +kernel
theorem dX12_row_57 : decode cX12_row 57 = .ok (.caload, 1) := by decide +kernel
theorem dX12_row_58 : decode cX12_row 58 = .ok (.bipush 124, 2) := by decide +kernel
theorem dX12_row_60 : decode cX12_row 60 = .ok (.if_icmp .eq 5, 3) := by decide +kernel
theorem dX12_row_65 : decode cX12_row 65 = .ok (.aload_n 0, 1) := by decide +kernel
theorem dX12_row_66 : decode cX12_row 66 = .ok (.aload_n 0, 1) := by decide +kernel
theorem dX12_row_67 : decode cX12_row 67 = .ok (.getfield 77, 3) := by decide +kernel
theorem dX12_row_70 : decode cX12_row 70 = .ok (.invokevirtual 80, 3) := by decide +kernel
theorem dX12_row_73 : decode cX12_row 73 = .ok (.istore_n 3, 1) := by decide +kernel
theorem dX12_row_74 : decode cX12_row 74 = .ok (.iload_n 3, 1) := by decide +kernel
theorem dX12_row_75 : decode cX12_row 75 = .ok (.ifCond .lt 17, 3) := by decide +kernel
theorem dX12_row_92 : decode cX12_row 92 = .ok (.aload_n 0, 1) := by decide +kernel
theorem dX12_row_93 : decode cX12_row 93 = .ok (.getfield 70, 3) := by decide +kernel
theorem dX12_row_96 : decode cX12_row 96 = .ok (.bipush 40, 2) := by decide +kernel
theorem dX12_row_98 : decode cX12_row 98 = .ok (.if_icmp .ne 5, 3) := by decide +kernel
theorem dX12_row_103 : decode cX12_row 103 = .ok (.aload_n 0, 1) := by decide +kernel
theorem dX12_row_104 : decode cX12_row 104 = .ok (.getfield 67, 3) := by decide +kernel
theorem dX12_row_107 : decode cX12_row 107 = .ok (.aload_n 0, 1) := by decide +kernel
theorem dX12_row_108 : decode cX12_row 108 = .ok (.getfield 70, 3) := by decide +kernel
theorem dX12_row_111 : decode cX12_row 111 = .ok (.aload_n 0, 1) := by decide +kernel
theorem dX12_row_112 : decode cX12_row 112 = .ok (.getfield 77, 3) := by decide +kernel
theorem dX12_row_115 : decode cX12_row 115 = .ok (.iastore, 1) := by decide +kernel
theorem dX12_row_116 : decode cX12_row 116 = .ok (.aload_n 0, 1) := by decide +kernel
theorem dX12_row_117 : decode cX12_row 117 = .ok (.getfield 86, 3) := by decide +kernel
theorem dX12_row_120 : decode cX12_row 120 = .ok (.aload_n 0, 1) := by decide +kernel
theorem dX12_row_121 : decode cX12_row 121 = .ok (.getfield 70, 3) := by decide +kernel
theorem dX12_row_124 : decode cX12_row 124 = .ok (.iload_n 1, 1) := by decide +kernel
theorem dX12_row_125 : decode cX12_row 125 = .ok (.iastore, 1) := by decide +kernel
theorem dX12_row_126 : decode cX12_row 126 = .ok (.aload_n 0, 1) := by decide +kernel
theorem dX12_row_127 : decode cX12_row 127 = .ok (.getfield 83, 3) := by decide +kernel
theorem dX12_row_130 : decode cX12_row 130 = .ok (.aload_n 0, 1) := by decide +kernel
theorem dX12_row_131 : decode cX12_row 131 = .ok (.getfield 70, 3) := by decide +kernel
theorem dX12_row_134 : decode cX12_row 134 = .ok (.iload_n 2, 1) := by decide +kernel
theorem dX12_row_135 : decode cX12_row 135 = .ok (.iconst 1, 1) := by decide +kernel
theorem dX12_row_136 : decode cX12_row 136 = .ok (.isub, 1) := by decide +kernel
theorem dX12_row_137 : decode cX12_row 137 = .ok (.iastore, 1) := by decide +kernel
theorem dX12_row_138 : decode cX12_row 138 = .ok (.iconst 1, 1) := by decide +kernel
theorem dX12_row_139 : decode cX12_row 139 = .ok (.istore 4, 2) := by decide +kernel
theorem dX12_row_141 : decode cX12_row 141 = .ok (.iconst 0, 1) := by decide +kernel
theorem dX12_row_142 : decode cX12_row 142 = .ok (.istore 5, 2) := by decide +kernel
theorem dX12_row_144 : decode cX12_row 144 = .ok (.iload 5, 2) := by decide +kernel
theorem dX12_row_146 : decode cX12_row 146 = .ok (.iload_n 2, 1) := by decide +kernel
theorem dX12_row_147 : decode cX12_row 147 = .ok (.iconst 1, 1) := by decide +kernel
theorem dX12_row_148 : decode cX12_row 148 = .ok (.isub, 1) := by decide +kernel
theorem dX12_row_149 : decode cX12_row 149 = .ok (.if_icmp .ge 54, 3) := by decide +kernel
theorem dX12_row_203 : decode cX12_row 203 = .ok (.aload_n 0, 1) := by decide +kernel
theorem dX12_row_204 : decode cX12_row 204 = .ok (.dup, 1) := by decide +kernel
theorem dX12_row_205 : decode cX12_row 205 = .ok (.getfield 70, 3) := by decide +kernel
theorem dX12_row_208 : decode cX12_row 208 = .ok (.iconst 1, 1) := by decide +kernel
theorem dX12_row_209 : decode cX12_row 209 = .ok (.iadd, 1) := by decide +kernel
theorem dX12_row_210 : decode cX12_row 210 = .ok (.putfield 70, 3) := by decide +kernel
theorem dX12_row_213 : decode cX12_row 213 = .ok (.aload_n 0, 1) := by decide +kernel
theorem dX12_row_214 : decode cX12_row 214 = .ok (.aload_n 0, 1) := by decide +kernel
theorem dX12_row_215 : decode cX12_row 215 = .ok (.getfield 50, 3) := by decide +kernel
theorem dX12_row_218 : decode cX12_row 218 = .ok (.bipush 6, 2) := by decide +kernel
theorem dX12_row_220 : decode cX12_row 220 = .ok (.if_icmp .ne 8, 3) := by decide +kernel
theorem dX12_row_228 : decode cX12_row 228 = .ok (.aload_n 0, 1) := by decide +kernel
theorem dX12_row_229 : decode cX12_row 229 = .ok (.getfield 50, 3) := by decide +kernel
theorem dX12_row_232 : decode cX12_row 232 = .ok (.putfield 50, 3) := by decide +kernel
theorem dX12_row_235 : decode cX12_row 235 = .ok (.iconst 0, 1) := by decide +kernel
theorem dX12_row_236 : decode cX12_row 236 = .ok (.ireturn, 1) := by decide +kernel
theorem dX12_row_223 : decode cX12_row 223 = .ok (.bipush 7, 2) := by decide +kernel
theorem dX12_row_225 : decode cX12_row 225 = .ok (.goto 7, 3) := by decide +kernel
theorem dX12_row_152 : decode cX12_row 152 = .ok (.iload 4, 2) := by decide +kernel
theorem dX12_row_154 : decode cX12_row 154 = .ok (.istore 6, 2) := by decide +kernel
theorem dX12_row_156 : decode cX12_row 156 = .ok (.aload_n 0, 1) := by decide +kernel
theorem dX12_row_157 : decode cX12_row 157 = .ok (.getfield 19, 3) := by decide +kernel
theorem dX12_row_160 : decode cX12_row 160 = .ok (.iload 6, 2) := by decide +kernel
theorem dX12_row_162 : decode cX12_row 162 = .ok (.caload, 1) := by decide +kernel
theorem dX12_row_163 : decode cX12_row 163 = .ok (.bipush 124, 2) := by decide +kernel
theorem dX12_row_165 : decode cX12_row 165 = .ok (.if_icmp .eq 9, 3) := by decide +kernel
theorem dX12_row_174 : decode cX12_row 174 = .ok (.aload_n 0, 1) := by decide +kernel
theorem dX12_row_175 : decode cX12_row 175 = .ok (.iconst 4, 1) := by decide +kernel
theorem dX12_row_176 : decode cX12_row 176 = .ok (.aload_n 0, 1) := by decide +kernel
theorem dX12_row_177 : decode cX12_row 177 = .ok (.getfield 70, 3) := by decide +kernel
theorem dX12_row_180 : decode cX12_row 180 = .ok (.imul, 1) := by decide +kernel
theorem dX12_row_181 : decode cX12_row 181 = .ok (.iload 5, 2) := by decide +kernel
theorem dX12_row_183 : decode cX12_row 183 = .ok (.iadd, 1) := by decide +kernel
theorem dX12_row_184 : decode cX12_row 184 = .ok (.iload 4, 2) := by decide +kernel
theorem dX12_row_186 : decode cX12_row 186 = .ok (.iload 6, 2) := by decide +kernel
theorem dX12_row_188 : decode cX12_row 188 = .ok (.invokevirtual 89, 3) := by decide +kernel
theorem dX12_row_191 : decode cX12_row 191 = .ok (.iload 6, 2) := by decide +kernel
theorem dX12_row_193 : decode cX12_row 193 = .ok (.iconst 1, 1) := by decide +kernel
theorem dX12_row_194 : decode cX12_row 194 = .ok (.iadd, 1) := by decide +kernel
theorem dX12_row_195 : decode cX12_row 195 = .ok (.istore 4, 2) := by decide +kernel
theorem dX12_row_197 : decode cX12_row 197 = .ok (.iinc 5 1, 3) := by decide +kernel
theorem dX12_row_200 : decode cX12_row 200 = .ok (.goto (-56), 3) := by decide +kernel
theorem dX12_row_168 : decode cX12_row 168 = .ok (.iinc 6 1, 3) := by decide +kernel
theorem dX12_row_171 : decode cX12_row 171 = .ok (.goto (-15), 3) := by decide +kernel
theorem dX12_row_101 : decode cX12_row 101 = .ok (.iconst 5, 1) := by decide +kernel
theorem dX12_row_102 : decode cX12_row 102 = .ok (.ireturn, 1) := by decide +kernel
theorem dX12_row_78 : decode cX12_row 78 = .ok (.aload_n 0, 1) := by decide +kernel
theorem dX12_row_79 : decode cX12_row 79 = .ok (.getfield 83, 3) := by decide +kernel
theorem dX12_row_82 : decode cX12_row 82 = .ok (.iload_n 3, 1) := by decide +kernel
theorem dX12_row_83 : decode cX12_row 83 = .ok (.iaload, 1) := by decide +kernel
theorem dX12_row_84 : decode cX12_row 84 = .ok (.iload_n 2, 1) := by decide +kernel
theorem dX12_row_85 : decode cX12_row 85 = .ok (.iconst 1, 1) := by decide +kernel
theorem dX12_row_86 : decode cX12_row 86 = .ok (.isub, 1) := by decide +kernel
theorem dX12_row_87 : decode cX12_row 87 = .ok (.if_icmp .eq 5, 3) := by decide +kernel
theorem dX12_row_90 : decode cX12_row 90 = .ok (.iconst 4, 1) := by decide +kernel
theorem dX12_row_91 : decode cX12_row 91 = .ok (.ireturn, 1) := by decide +kernel
theorem dX12_row_12 : decode cX12_row 12 = .ok (.iload_n 2, 1) := by decide +kernel
theorem dX12_row_13 : decode cX12_row 13 = .ok (.aload_n 0, 1) := by decide +kernel
theorem dX12_row_14 : decode cX12_row 14 = .ok (.getfield 19, 3) := by decide +kernel
theorem dX12_row_17 : decode cX12_row 17 = .ok (.iload_n 3, 1) := by decide +kernel
theorem dX12_row_18 : decode cX12_row 18 = .ok (.caload, 1) := by decide +kernel
theorem dX12_row_19 : decode cX12_row 19 = .ok (.bipush 124, 2) := by decide +kernel
theorem dX12_row_21 : decode cX12_row 21 = .ok (.if_icmp .ne 7, 3) := by decide +kernel
theorem dX12_row_28 : decode cX12_row 28 = .ok (.iconst 0, 1) := by decide +kernel
theorem dX12_row_29 : decode cX12_row 29 = .ok (.iadd, 1) := by decide +kernel
theorem dX12_row_30 : decode cX12_row 30 = .ok (.istore_n 2, 1) := by decide +kernel
theorem dX12_row_31 : decode cX12_row 31 = .ok (.iinc 3 1, 3) := by decide +kernel
theorem dX12_row_34 : decode cX12_row 34 = .ok (.goto (-30), 3) := by decide +kernel
theorem dX12_row_24 : decode cX12_row 24 = .ok (.iconst 1, 1) := by decide +kernel
theorem dX12_row_25 : decode cX12_row 25 = .ok (.goto 4, 3) := by decide +kernel
theorem gw_X12_firstRow : wsX12_firstRow.all goodWord = true := by decide +kernel
theorem gX12_row_X12_firstRow : GoodIn wsX12_row (wsV RX12 80 RX12 yX12_firstRow wsX12_firstRow) := goodIn_app (goodIn_sub (List.forall_mem_cons.mpr ⟨(List.mem_cons_of_mem _ (List.mem_append_left _ (List.mem_append_left _ lm8))), List.forall_mem_cons.mpr ⟨(List.mem_cons_of_mem _ (List.mem_append_left _ (List.mem_append_left _ lm9))), List.forall_mem_cons.mpr ⟨(List.mem_cons_of_mem _ (List.mem_append_left _ (List.mem_append_left _ lm10))), List.forall_mem_cons.mpr ⟨(List.mem_cons_of_mem _ (List.mem_append_left _ (List.mem_append_left _ lm11))), (fun _ h => absurd h List.not_mem_nil)⟩⟩⟩⟩) (by decide +kernel)) (goodIn_sub (by unfold wsX12_firstRow; exact List.forall_mem_cons.mpr ⟨(List.mem_cons_of_mem _ (List.mem_append_left _ (List.mem_append_left _ lm12))), List.forall_mem_append.mpr ⟨List.forall_mem_cons.mpr ⟨(List.mem_cons_of_mem _ (List.mem_append_left _ (List.mem_append_left _ lm5))), List.forall_mem_cons.mpr ⟨(List.mem_cons_of_mem _ (List.mem_append_left _ (List.mem_append_left _ lm4))), List.forall_mem_cons.mpr ⟨(List.mem_cons_of_mem _ (List.mem_append_left _ (List.mem_append_left _ lm13))), List.forall_mem_cons.mpr ⟨(List.mem_cons_of_mem _ (List.mem_append_left _ (List.mem_append_left _ lm14))), List.forall_mem_cons.mpr ⟨(List.mem_cons_of_mem _ (List.mem_append_left _ (List.mem_append_left _ lm11))), List.forall_mem_cons.mpr ⟨(List.mem_cons_of_mem _ (List.mem_append_left _ (List.mem_append_left _ lm15))), (fun _ h => absurd h List.not_mem_nil)⟩⟩⟩⟩⟩⟩, (fun _ h => (List.mem_cons_of_mem _ (List.mem_append_right _ h)))⟩⟩) gw_X12_firstRow)
theorem gw_X12_cut : wsX12_cut.all goodWord = true := by decide +kernel
theorem gX12_row_X12_cut : GoodIn wsX12_row (wsV RX12 89 RX12 yX12_cut wsX12_cut) := goodIn_app (goodIn_sub (List.forall_mem_cons.mpr ⟨(List.mem_cons_of_mem _ (List.mem_append_left _ (List.mem_append_left _ lm16))), List.forall_mem_cons.mpr ⟨(List.mem_cons_of_mem _ (List.mem_append_left _ (List.mem_append_left _ lm17))), List.forall_mem_cons.mpr ⟨(List.mem_cons_of_mem _ (List.mem_append_left _ (List.mem_append_left _ lm18))), List.forall_mem_cons.mpr ⟨(List.mem_cons_of_mem _ (List.mem_append_left _ (List.mem_append_left _ lm11))), (fun _ h => absurd h List.not_mem_nil)⟩⟩⟩⟩) (by decide +kernel)) (goodIn_sub (by unfold wsX12_cut; exact List.forall_mem_cons.mpr ⟨(List.mem_cons_of_mem _ (List.mem_append_left _ (List.mem_append_left _ lm19))), List.forall_mem_append.mpr ⟨List.forall_mem_cons.mpr ⟨(List.mem_cons_of_mem _ (List.mem_append_left _ (List.mem_append_left _ lm1))), List.forall_mem_cons.mpr ⟨(List.mem_cons_of_mem _ (List.mem_append_left _ (List.mem_append_left _ lm20))), List.forall_mem_cons.mpr ⟨(List.mem_cons_of_mem _ (List.mem_append_left _ (List.mem_append_left _ lm21))), List.forall_mem_cons.mpr ⟨(List.mem_cons_of_mem _ (List.mem_append_left _ (List.mem_append_left _ lm22))), List.forall_mem_cons.mpr ⟨(List.mem_cons_of_mem _ (List.mem_append_left _ (List.mem_append_left _ lm23))), List.forall_mem_cons.mpr ⟨(List.mem_cons_of_mem _ (List.mem_append_left _ (List.mem_append_left _ lm11))), List.forall_mem_cons.mpr ⟨(List.mem_cons_of_mem _ (List.mem_append_left _ (List.mem_append_right _ lm0))), List.forall_mem_cons.mpr ⟨(List.mem_cons_of_mem _ (List.mem_append_left _ (List.mem_append_right _ lm1))), List.forall_mem_cons.mpr ⟨(List.mem_cons_of_mem _ (List.mem_append_left _ (List.mem_append_right _ lm2))), List.forall_mem_cons.mpr ⟨(List.mem_cons_of_mem _ (List.mem_append_left _ (List.mem_append_right _ lm3))), (fun _ h => absurd h List.not_mem_nil)⟩⟩⟩⟩⟩⟩⟩⟩⟩⟩, (fun _ h => (List.mem_cons_of_mem _ (List.mem_append_right _ h)))⟩⟩) gw_X12_cut)
set_option maxHeartbeats 2000000 in
set_option maxRecDepth 100000 in
theorem m_row (l : Launch) (D : va_G) (g : Nat → Nat) (ka : Nat → ClassId) (ad : Nat → Nat) (i : Nat → Nat → Int32) (r : Nat → Nat → Nat) (L : Nat → Nat → Int64) (d : Nat → Nat → UInt64) (x : Int32) (hO : OkI i) (hR : RS r) (sz : Nat) (hw1 : 1 ≤ (i 36 4).toInt) (h124 : (i 380 0).toInt = 124) : Met l yX12_row wsX12_row ({ frames := 2, cells := 0, slots := 0, locals := 49 }) (va_Pc [.ref (g 36), .int x] (sj_B D (hwc g ka i r L d) (hT ka) sz (gx ad (va_A (hwc g ka i r L d) sz)))) (sj_Qi (S := (Nat → Nat → Int32)) D (fun v u => OkI u ∧ (∀ a b, ¬ ((a = 36 ∧ (b = 8 ∨ b = 26)) ∨ a = 392 ∨ a = 393 ∨ a = 394 ∨ a = 395 ∨ a = 396) → u a b = i a b) ∧ ((0 : Int) ≤ v.toInt ∧ v.toInt ≤ 5) ∧ ((v.toInt = 3 ∧ (wid (lnL (i 380) 0 (i 36 4).toInt) < 1 ∨ 4 < wid (lnL (i 380) 0 (i 36 4).toInt)) ∧ u = i) ∨ ((1 ≤ wid (lnL (i 380) 0 (i 36 4).toInt) ∧ wid (lnL (i 380) 0 (i 36 4).toInt) ≤ 4) ∧ ((v.toInt = 4 ∧ ¬ rowM i (wid (lnL (i 380) 0 (i 36 4).toInt)) ∧ u = i) ∨ (rowM i (wid (lnL (i 380) 0 (i 36 4).toInt)) ∧ ((v.toInt = 5 ∧ (i 36 26).toInt = 40 ∧ u = i) ∨ (v.toInt = 0 ∧ (i 36 26).toInt < 40 ∧ rwM i u (wid (lnL (i 380) 0 (i 36 4).toInt))))))))) (fun u => hwc g ka u r L d) (fun _ => []) (va_A (hwc g ka i r L d) sz)) 0 0 (va_A (hwc g ka i r L d) sz) := by
  refine x_met (Ex := gx ad) (cc := cX12_row) (maxL := 7) (ret := (some .int)) (by decide) rfl (Nat.le_of_ble_eq_true rfl) ?_
  intro p e s m below meth c A ls hx hb hr hml hts hown hlocks hA hS hH hK hE hl
  have hown : s.vm.findClass RX12 = some m.cls := hown
  have in12 : ∀ w ∈ wsX120, w ∈ wsX12_row := (fun _ h => (List.mem_cons_of_mem _ (List.mem_append_right _ h)))
  have wd0 := hts (.fieldLink RX12 16 "StoryDeskModel" "width" "I") (List.mem_cons_of_mem _ (List.mem_append_left _ (List.mem_append_left _ lm0)))
  have wd1 := hts (.fieldLink RX12 19 "StoryDeskModel" "line" "[C") (List.mem_cons_of_mem _ (List.mem_append_left _ (List.mem_append_left _ lm1)))
  have wd2 := hts (.fieldLink RX12 77 "StoryDeskModel" "rowsFor" "I") (List.mem_cons_of_mem _ (List.mem_append_left _ (List.mem_append_left _ lm2)))
  have wd3 := hts (.fieldLink RX12 70 "StoryDeskModel" "rows" "I") (List.mem_cons_of_mem _ (List.mem_append_left _ (List.mem_append_left _ lm4)))
  have wd4 := hts (.fieldLink RX12 67 "StoryDeskModel" "rowOwner" "[I") (List.mem_cons_of_mem _ (List.mem_append_left _ (List.mem_append_left _ lm5)))
  have wd5 := hts (.fieldLink RX12 86 "StoryDeskModel" "rowLine" "[I") (List.mem_cons_of_mem _ (List.mem_append_left _ (List.mem_append_left _ lm6)))
  have wd6 := hts (.fieldLink RX12 83 "StoryDeskModel" "rowCells" "[I") (List.mem_cons_of_mem _ (List.mem_append_left _ (List.mem_append_left _ lm3)))
  have wd7 := hts (.fieldLink RX12 50 "StoryDeskModel" "state" "I") (List.mem_cons_of_mem _ (List.mem_append_left _ (List.mem_append_left _ lm7)))
  have hl : lv_has ls 7 [(0, .ref (g 36)), (1, .int x)] := hl
  have hK : va_K D vwCl (hT ka) s := hK
  have hg_1 := s_rng x
  have hw4 : (0 : Int) ≤ (i 36 4).toInt ∧ (i 36 4).toInt ≤ 480 := hO 36 4
  have hd7 : (0 : Int) ≤ (i 36 7).toInt ∧ (i 36 7).toInt ≤ 1 := hO 36 7
  have hwi := wid_ln (f := i 380) (a := 0) (b := (i 36 4).toInt) (by omega) (by omega)
  have hb0 := brs_s (f := i 380) (a := 0) (b := (i 36 4).toInt) (by omega) (by omega)
  rw [show (0 : Int).toNat = 0 from rfl, show (0 : Int) + 1 = 1 from rfl] at hb0
  have hb26 : (0 : Int) ≤ (i 36 26).toInt ∧ (i 36 26).toInt ≤ 40 := hO 36 26
  refine lv_iconst (v := 0) hx hb dX12_row_0 (by decide) ?_
  refine lv_istore_n (lv' := [(2, .int 0), (0, .ref (g 36)), (1, .int x)]) hx hb dX12_row_1 rfl hl (by decide) rfl (fun ls hl => ?_)
  refine lv_iconst (v := 0) hx hb dX12_row_2 (by decide) ?_
  refine lv_istore_n (lv' := [(3, .int 0), (2, .int 0), (0, .ref (g 36)), (1, .int x)]) hx hb dX12_row_3 rfl hl (by decide) rfl (fun ls hl => ?_)
  -- loop at 4
  have lp_2 : ∀ (fuel_lp_2 : Nat) (t : Int32) (f : Int32) (H : Heap) (locs : List Loc) (ls : Array Slot), (480 - f.toInt).toNat < fuel_lp_2 → (0 : Int) ≤ t.toInt ∧ t.toInt ≤ 480 → (0 : Int) ≤ f.toInt ∧ f.toInt ≤ 480 → f.toInt ≤ (i 36 4).toInt ∧ t.toInt ≤ f.toInt → t.toInt + brs (lnL (i 380) f.toInt (i 36 4).toInt) = brs (lnL (i 380) 0 (i 36 4).toInt) → lv_has ls 7 [(3, .int f), (2, .int t), (0, .ref (g 36)), (1, .int x)] → sj_H D A (hwc g ka i r L d) H → va_S A s.heap H locs → W p l e (headSpec wsX12_row ({ frames := 2, cells := 0, slots := 0, locals := 49 })).room s m ([.ref (g 36), .int x] : List Value).toArray below meth c H locs 0 0 (MQ below (sj_Qi (S := (Nat → Nat → Int32)) D (fun v u => OkI u ∧ (∀ a b, ¬ ((a = 36 ∧ (b = 8 ∨ b = 26)) ∨ a = 392 ∨ a = 393 ∨ a = 394 ∨ a = 395 ∨ a = 396) → u a b = i a b) ∧ ((0 : Int) ≤ v.toInt ∧ v.toInt ≤ 5) ∧ ((v.toInt = 3 ∧ (wid (lnL (i 380) 0 (i 36 4).toInt) < 1 ∨ 4 < wid (lnL (i 380) 0 (i 36 4).toInt)) ∧ u = i) ∨ ((1 ≤ wid (lnL (i 380) 0 (i 36 4).toInt) ∧ wid (lnL (i 380) 0 (i 36 4).toInt) ≤ 4) ∧ ((v.toInt = 4 ∧ ¬ rowM i (wid (lnL (i 380) 0 (i 36 4).toInt)) ∧ u = i) ∨ (rowM i (wid (lnL (i 380) 0 (i 36 4).toInt)) ∧ ((v.toInt = 5 ∧ (i 36 26).toInt = 40 ∧ u = i) ∨ (v.toInt = 0 ∧ (i 36 26).toInt < 40 ∧ rwM i u (wid (lnL (i 380) 0 (i 36 4).toInt))))))))) (fun u => hwc g ka u r L d) (fun _ => []) A) ([.ref (g 36), .int x] : List Value).toArray s 0 0 A) (F0 m 4 ls []) := by
    intro fuel_lp_2
    induction fuel_lp_2 with
    | zero => intros; omega
    | succ fuel_lp_2 ih_lp_2 =>
      intro t f H locs ls hm hr_t hr_f hi_lp_2_0 hi_lp_2_1 hl hH hS
      refine lv_iload_n hx hb dX12_row_4 rfl (lv_at hl 0 rfl) ?_
      refine lv_aload_n hx hb dX12_row_5 rfl (lv_at hl 2 rfl) ?_
      have bx_3 : (0 : Int) ≤ (i 36 4).toInt ∧ (i 36 4).toInt ≤ 480 := hO 36 4
      refine h_geti (ci := 12) (C := RX12) (F := TX12) (N := 86) hx hb hts in12 hown hK hH (by decide) (rfl : kd 36 = 12) (by decide) rfl 4 (by decide) wd0 (fun _ h9 => h9) (by decide) rfl dX12_row_6 ?_
      refine lv_icmp_ge (tgt := 37) hx hb dX12_row_9 (by decide) (fun c_4 => ?_) (fun c_4 => ?_)
      · skip
        have h_5 := s_le (rfl : (i 36 4).toInt = _) (rfl : f.toInt = _) c_4
        have hbe8 := brs_end (f := i 380) (a := f.toInt) (b := (i 36 4).toInt) (by omega)
        refine lv_iload_n hx hb dX12_row_37 rfl (lv_at hl 1 rfl) ?_
        refine lv_iconst (v := 2) hx hb dX12_row_38 (by decide) ?_
        refine lv_icmp_lt (tgt := 63) hx hb dX12_row_39 (by decide) (fun c_6 => ?_) (fun c_6 => ?_)
        · skip
          have h_7 := s_lt (rfl : t.toInt = _) (show (2 : Int32).toInt = 2 from rfl) c_6
          refine lv_iconst (v := 3) hx hb dX12_row_63 (by decide) ?_
          have hV_8 : ((3 : Int32).toInt = 3 ∧ (wid (lnL (i 380) 0 (i 36 4).toInt) < 1 ∨ 4 < wid (lnL (i 380) 0 (i 36 4).toInt)) ∧ i = i) ∨ ((1 ≤ wid (lnL (i 380) 0 (i 36 4).toInt) ∧ wid (lnL (i 380) 0 (i 36 4).toInt) ≤ 4) ∧ (((3 : Int32).toInt = 4 ∧ ¬ rowM i (wid (lnL (i 380) 0 (i 36 4).toInt)) ∧ i = i) ∨ (rowM i (wid (lnL (i 380) 0 (i 36 4).toInt)) ∧ (((3 : Int32).toInt = 5 ∧ (i 36 26).toInt = 40 ∧ i = i) ∨ ((3 : Int32).toInt = 0 ∧ (i 36 26).toInt < 40 ∧ rwM i i (wid (lnL (i 380) 0 (i 36 4).toInt))))))) := (Or.inl ⟨by rfl, by omega, rfl⟩)
          exact sj_zret hx hb hr hlocks rfl hS i ⟨hO, (fun a b ha => rfl), ⟨by decide, by decide⟩, hV_8⟩ hH (sj_Knil hK) (Nat.le_of_ble_eq_true rfl) (Nat.le_of_ble_eq_true rfl) dX12_row_64
        · skip
          have h_9 := s_nlt (rfl : t.toInt = _) (show (2 : Int32).toInt = 2 from rfl) c_6
          refine lv_iload_n hx hb dX12_row_42 rfl (lv_at hl 1 rfl) ?_
          refine lv_iconst (v := 5) hx hb dX12_row_43 (by decide) ?_
          refine lv_icmp_gt (tgt := 63) hx hb dX12_row_44 (by decide) (fun c_10 => ?_) (fun c_10 => ?_)
          · skip
            have h_11 := s_lt (show (5 : Int32).toInt = 5 from rfl) (rfl : t.toInt = _) c_10
            refine lv_iconst (v := 3) hx hb dX12_row_63 (by decide) ?_
            have hV_12 : ((3 : Int32).toInt = 3 ∧ (wid (lnL (i 380) 0 (i 36 4).toInt) < 1 ∨ 4 < wid (lnL (i 380) 0 (i 36 4).toInt)) ∧ i = i) ∨ ((1 ≤ wid (lnL (i 380) 0 (i 36 4).toInt) ∧ wid (lnL (i 380) 0 (i 36 4).toInt) ≤ 4) ∧ (((3 : Int32).toInt = 4 ∧ ¬ rowM i (wid (lnL (i 380) 0 (i 36 4).toInt)) ∧ i = i) ∨ (rowM i (wid (lnL (i 380) 0 (i 36 4).toInt)) ∧ (((3 : Int32).toInt = 5 ∧ (i 36 26).toInt = 40 ∧ i = i) ∨ ((3 : Int32).toInt = 0 ∧ (i 36 26).toInt < 40 ∧ rwM i i (wid (lnL (i 380) 0 (i 36 4).toInt))))))) := (Or.inl ⟨by rfl, by omega, rfl⟩)
            exact sj_zret hx hb hr hlocks rfl hS i ⟨hO, (fun a b ha => rfl), ⟨by decide, by decide⟩, hV_12⟩ hH (sj_Knil hK) (Nat.le_of_ble_eq_true rfl) (Nat.le_of_ble_eq_true rfl) dX12_row_64
          · skip
            have h_13 := s_nlt (show (5 : Int32).toInt = 5 from rfl) (rfl : t.toInt = _) c_10
            refine lv_aload_n hx hb dX12_row_47 rfl (lv_at hl 2 rfl) ?_
            refine h_getr (ci := 12) (C := RX12) (F := TX12) (N := 86) hx hb hts in12 hown hK hH (by decide) (rfl : kd 36 = 12) (by decide) rfl 3 (by decide) wd1 (fun _ h9 => h9) (by decide) rfl (t := 380) (hR 36 3 rfl) (by decide) dX12_row_48 ?_
            refine lv_aload_n hx hb dX12_row_51 rfl (lv_at hl 2 rfl) ?_
            refine h_geti (ci := 12) (C := RX12) (F := TX12) (N := 86) hx hb hts in12 hown hK hH (by decide) (rfl : kd 36 = 12) (by decide) rfl 4 (by decide) wd0 (fun _ h9 => h9) (by decide) rfl dX12_row_52 ?_
            refine lv_iconst (v := 1) hx hb dX12_row_55 (by decide) ?_
            refine lv_isub hx hb dX12_row_56 ?_
            obtain ⟨z_14, ez_14, hz_14⟩ := s_sub (rfl : (i 36 4).toInt = _) (show (1 : Int32).toInt = 1 from rfl) (by omega) (by omega)
            refine sj_i ez_14 ?_
            have bx_15 : (0 : Int) ≤ (i 380 ((i 36 4).toInt - 1).toNat).toInt ∧ (i 380 ((i 36 4).toInt - 1).toNat).toInt ≤ 65535 := hO 380 ((i 36 4).toInt - 1).toNat
            refine h_cald hx hb hK hH (by decide) (rfl : kd 380 = 14) (s_vin (N := 480) (rfl : z_14.toInt = _) (rfl : ln 380 = 480) (by omega) (by omega)) dX12_row_57 ?_
            have ek_16 : z_14.toNatClampNeg = ((i 36 4).toInt - 1).toNat := (s_cl (show z_14.toInt = (i 36 4).toInt - 1 by omega))
            refine sj_i (y := (i 380 ((i 36 4).toInt - 1).toNat)) (by rw [ek_16]) ?_
            refine lv_bipush (v := 124) hx hb dX12_row_58 (by decide) ?_
            refine lv_icmp_eq (tgt := 65) hx hb dX12_row_60 (by decide) (fun c_17 => ?_) (fun c_17 => ?_)
            · skip
              have h_18 := s_eq (rfl : (i 380 ((i 36 4).toInt - 1).toNat).toInt = _) (show (124 : Int32).toInt = 124 from rfl) c_17
              refine lv_aload_n hx hb dX12_row_65 rfl (lv_at hl 2 rfl) ?_
              refine lv_aload_n hx hb dX12_row_66 rfl (lv_at hl 2 rfl) ?_
              have bx_19 : (0 : Int) ≤ (i 36 27).toInt ∧ (i 36 27).toInt ≤ 111 := hO 36 27
              refine h_geti (ci := 12) (C := RX12) (F := TX12) (N := 86) hx hb hts in12 hown hK hH (by decide) (rfl : kd 36 = 12) (by decide) rfl 27 (by decide) wd2 (fun _ h9 => h9) (by decide) rfl dX12_row_67 ?_
              refine x_calli (va_runV (As := [.int (i 36 27)]) (rest := []) ⟨hx, hb, hml, hown, hts⟩ (m_firstRow l D g ka ad i r L d (i 36 27) hO hR H.size ) (cwV 1 hts gX12_row_X12_firstRow rfl rfl rfl (by decide +kernel) ⟨(Nat.le_of_ble_eq_true rfl), (Nat.le_of_ble_eq_true rfl)⟩) (x_preV (q := (RX12, TX12, 86)) hH hK (q_obj (by decide) (rfl : kd 36 = 12) (by decide)) rfl gxb (gxw hE hS (x_F hH hS hA))) rfl rfl hl.1 rfl (lv_room (Nat.le_of_ble_eq_true rfl)) dX12_row_70 ⟨(Nat.le_of_ble_eq_true rfl), (Nat.le_of_ble_eq_true rfl)⟩) hH hS hA rfl rfl (fun r_20 _ H locs hw_21 hH hS => ?_)
              obtain ⟨hr_23, he_24⟩ := hw_21
              have hr_23 : (-1 : Int) ≤ r_20.toInt ∧ r_20.toInt ≤ 39 := hr_23
              refine lv_istore_n (lv' := [(3, .int r_20), (2, .int t), (0, .ref (g 36)), (1, .int x)]) hx hb dX12_row_73 rfl hl (by decide) rfl (fun ls hl => ?_)
              refine lv_iload_n hx hb dX12_row_74 rfl (lv_at hl 0 rfl) ?_
              refine lv_if_lt (tgt := 92) hx hb dX12_row_75 (by decide) (fun c_25 => ?_) (fun c_25 => ?_)
              · skip
                have h_26 := s_lt (rfl : r_20.toInt = _) (show (0 : Int32).toInt = 0 from rfl) c_25
                refine lv_aload_n hx hb dX12_row_92 rfl (lv_at hl 2 rfl) ?_
                have bx_27 : (0 : Int) ≤ (i 36 26).toInt ∧ (i 36 26).toInt ≤ 40 := hO 36 26
                refine h_geti (ci := 12) (C := RX12) (F := TX12) (N := 86) hx hb hts in12 hown hK hH (by decide) (rfl : kd 36 = 12) (by decide) rfl 26 (by decide) wd3 (fun _ h9 => h9) (by decide) rfl dX12_row_93 ?_
                refine lv_bipush (v := 40) hx hb dX12_row_96 (by decide) ?_
                refine lv_icmp_ne (tgt := 103) hx hb dX12_row_98 (by decide) (fun c_28 => ?_) (fun c_28 => ?_)
                · skip
                  have h_29 := s_ne (rfl : (i 36 26).toInt = _) (show (40 : Int32).toInt = 40 from rfl) c_28
                  refine lv_aload_n hx hb dX12_row_103 rfl (lv_at hl 2 rfl) ?_
                  refine h_getr (ci := 12) (C := RX12) (F := TX12) (N := 86) hx hb hts in12 hown hK hH (by decide) (rfl : kd 36 = 12) (by decide) rfl 28 (by decide) wd4 (fun _ h9 => h9) (by decide) rfl (t := 392) (hR 36 28 rfl) (by decide) dX12_row_104 ?_
                  refine lv_aload_n hx hb dX12_row_107 rfl (lv_at hl 2 rfl) ?_
                  refine h_geti (ci := 12) (C := RX12) (F := TX12) (N := 86) hx hb hts in12 hown hK hH (by decide) (rfl : kd 36 = 12) (by decide) rfl 26 (by decide) wd3 (fun _ h9 => h9) (by decide) rfl dX12_row_108 ?_
                  refine lv_aload_n hx hb dX12_row_111 rfl (lv_at hl 2 rfl) ?_
                  refine h_geti (ci := 12) (C := RX12) (F := TX12) (N := 86) hx hb hts in12 hown hK hH (by decide) (rfl : kd 36 = 12) (by decide) rfl 27 (by decide) wd2 (fun _ h9 => h9) (by decide) rfl dX12_row_112 ?_
                  have hO_30 := okp hO (n := 392) (k := ((i 36 26).toInt).toNat) (v := (i 36 27)) (show (-2147483648 : Int) ≤ ((i 36 27) : Int32).toInt ∧ ((i 36 27) : Int32).toInt ≤ 2147483647 from s_rng (i 36 27))
                  refine h_iast hx hb hK hH hS (by decide) (rfl : kd 392 = 13) (s_vin (N := 40) (rfl : (i 36 26).toInt = _) (rfl : ln 392 = 40) (by omega) (by omega)) dX12_row_115 (fun H locs hH hS => ?_)
                  rw [s_cl (show (i 36 26).toInt = (i 36 26).toInt by omega)] at hH
                  refine lv_aload_n hx hb dX12_row_116 rfl (lv_at hl 2 rfl) ?_
                  refine h_getr (ci := 12) (C := RX12) (F := TX12) (N := 86) hx hb hts in12 hown hK hH (by decide) (rfl : kd 36 = 12) (by decide) rfl 29 (by decide) wd5 (fun _ h9 => h9) (by decide) rfl (t := 393) (hR 36 29 rfl) (by decide) dX12_row_117 ?_
                  refine lv_aload_n hx hb dX12_row_120 rfl (lv_at hl 2 rfl) ?_
                  refine h_geti (ci := 12) (C := RX12) (F := TX12) (N := 86) hx hb hts in12 hown hK hH (by decide) (rfl : kd 36 = 12) (by decide) rfl 26 (by decide) wd3 (fun _ h9 => h9) (by decide) rfl dX12_row_121 ?_
                  refine sj_i (y := (i 36 26)) (congrFun (up2_n _ _ (by decide)) _) ?_
                  refine lv_iload_n hx hb dX12_row_124 rfl (lv_at hl 3 rfl) ?_
                  have hO_31 := okp hO_30 (n := 393) (k := ((i 36 26).toInt).toNat) (v := x) (show (-2147483648 : Int) ≤ (x : Int32).toInt ∧ (x : Int32).toInt ≤ 2147483647 from s_rng x)
                  refine h_iast hx hb hK hH hS (by decide) (rfl : kd 393 = 13) (s_vin (N := 40) (rfl : (i 36 26).toInt = _) (rfl : ln 393 = 40) (by omega) (by omega)) dX12_row_125 (fun H locs hH hS => ?_)
                  rw [s_cl (show (i 36 26).toInt = (i 36 26).toInt by omega)] at hH
                  refine lv_aload_n hx hb dX12_row_126 rfl (lv_at hl 2 rfl) ?_
                  refine h_getr (ci := 12) (C := RX12) (F := TX12) (N := 86) hx hb hts in12 hown hK hH (by decide) (rfl : kd 36 = 12) (by decide) rfl 30 (by decide) wd6 (fun _ h9 => h9) (by decide) rfl (t := 394) (hR 36 30 rfl) (by decide) dX12_row_127 ?_
                  refine lv_aload_n hx hb dX12_row_130 rfl (lv_at hl 2 rfl) ?_
                  refine h_geti (ci := 12) (C := RX12) (F := TX12) (N := 86) hx hb hts in12 hown hK hH (by decide) (rfl : kd 36 = 12) (by decide) rfl 26 (by decide) wd3 (fun _ h9 => h9) (by decide) rfl dX12_row_131 ?_
                  refine sj_i (y := (i 36 26)) ((congrFun (up2_n _ _ (by decide)) _).trans (congrFun (up2_n _ _ (by decide)) _)) ?_
                  refine lv_iload_n hx hb dX12_row_134 rfl (lv_at hl 1 rfl) ?_
                  refine lv_iconst (v := 1) hx hb dX12_row_135 (by decide) ?_
                  refine lv_isub hx hb dX12_row_136 ?_
                  obtain ⟨z_32, ez_32, hz_32⟩ := s_sub (rfl : t.toInt = _) (show (1 : Int32).toInt = 1 from rfl) (by omega) (by omega)
                  refine sj_i ez_32 ?_
                  have hO_33 := okp hO_31 (n := 394) (k := ((i 36 26).toInt).toNat) (v := z_32) (show (0 : Int) ≤ (z_32 : Int32).toInt ∧ (z_32 : Int32).toInt ≤ 4 from ⟨by omega, by omega⟩)
                  refine h_iast hx hb hK hH hS (by decide) (rfl : kd 394 = 13) (s_vin (N := 40) (rfl : (i 36 26).toInt = _) (rfl : ln 394 = 40) (by omega) (by omega)) dX12_row_137 (fun H locs hH hS => ?_)
                  rw [s_cl (show (i 36 26).toInt = (i 36 26).toInt by omega)] at hH
                  refine lv_iconst (v := 1) hx hb dX12_row_138 (by decide) ?_
                  refine lv_istore (lv' := [(4, .int 1), (3, .int r_20), (2, .int t), (0, .ref (g 36)), (1, .int x)]) hx hb dX12_row_139 hl (by decide) rfl (fun ls hl => ?_)
                  refine lv_iconst (v := 0) hx hb dX12_row_141 (by decide) ?_
                  refine lv_istore (lv' := [(5, .int 0), (4, .int 1), (3, .int r_20), (2, .int t), (0, .ref (g 36)), (1, .int x)]) hx hb dX12_row_142 hl (by decide) rfl (fun ls hl => ?_)
                  -- loop at 144
                  have lp_34 : ∀ (fuel_lp_34 : Nat) (k9 : Int32) (c9 : Int32) (j1 : Nat → Nat → Int32) (H : Heap) (locs : List Loc) (ls : Array Slot), (t.toInt - 1 - c9.toInt).toNat < fuel_lp_34 → (1 : Int) ≤ k9.toInt ∧ k9.toInt ≤ 480 → (0 : Int) ≤ c9.toInt ∧ c9.toInt ≤ 4 → k9.toInt ≤ (i 36 4).toInt ∧ c9.toInt ≤ t.toInt - 1 → brs (lnL (i 380) k9.toInt (i 36 4).toInt) = t.toInt - 1 - c9.toInt → OkI j1 → (∀ a b, ¬ (a = 395 ∨ a = 396) → j1 a b = (up2 (up2 (up2 i 392 ((i 36 26).toInt).toNat (i 36 27)) 393 ((i 36 26).toInt).toNat x) 394 ((i 36 26).toInt).toNat z_32) a b) → lv_has ls 7 [(5, .int c9), (4, .int k9), (3, .int r_20), (2, .int t), (0, .ref (g 36)), (1, .int x)] → sj_H D A (hwc g ka j1 r L d) H → va_S A s.heap H locs → W p l e (headSpec wsX12_row ({ frames := 2, cells := 0, slots := 0, locals := 49 })).room s m ([.ref (g 36), .int x] : List Value).toArray below meth c H locs 0 0 (MQ below (sj_Qi (S := (Nat → Nat → Int32)) D (fun v u => OkI u ∧ (∀ a b, ¬ ((a = 36 ∧ (b = 8 ∨ b = 26)) ∨ a = 392 ∨ a = 393 ∨ a = 394 ∨ a = 395 ∨ a = 396) → u a b = i a b) ∧ ((0 : Int) ≤ v.toInt ∧ v.toInt ≤ 5) ∧ ((v.toInt = 3 ∧ (wid (lnL (i 380) 0 (i 36 4).toInt) < 1 ∨ 4 < wid (lnL (i 380) 0 (i 36 4).toInt)) ∧ u = i) ∨ ((1 ≤ wid (lnL (i 380) 0 (i 36 4).toInt) ∧ wid (lnL (i 380) 0 (i 36 4).toInt) ≤ 4) ∧ ((v.toInt = 4 ∧ ¬ rowM i (wid (lnL (i 380) 0 (i 36 4).toInt)) ∧ u = i) ∨ (rowM i (wid (lnL (i 380) 0 (i 36 4).toInt)) ∧ ((v.toInt = 5 ∧ (i 36 26).toInt = 40 ∧ u = i) ∨ (v.toInt = 0 ∧ (i 36 26).toInt < 40 ∧ rwM i u (wid (lnL (i 380) 0 (i 36 4).toInt))))))))) (fun u => hwc g ka u r L d) (fun _ => []) A) ([.ref (g 36), .int x] : List Value).toArray s 0 0 A) (F0 m 144 ls []) := by
                    intro fuel_lp_34
                    induction fuel_lp_34 with
                    | zero => intros; omega
                    | succ fuel_lp_34 ih_lp_34 =>
                      intro k9 c9 j1 H locs ls hm hr_k9 hr_c9 hi_lp_34_0 hi_lp_34_1 hO_j1 hfr_j1 hl hH hS
                      refine lv_iload hx hb dX12_row_144 (lv_at hl 0 rfl) ?_
                      refine lv_iload_n hx hb dX12_row_146 rfl (lv_at hl 3 rfl) ?_
                      refine lv_iconst (v := 1) hx hb dX12_row_147 (by decide) ?_
                      refine lv_isub hx hb dX12_row_148 ?_
                      obtain ⟨z_35, ez_35, hz_35⟩ := s_sub (rfl : t.toInt = _) (show (1 : Int32).toInt = 1 from rfl) (by omega) (by omega)
                      refine sj_i ez_35 ?_
                      refine lv_icmp_ge (tgt := 203) hx hb dX12_row_149 (by decide) (fun c_36 => ?_) (fun c_36 => ?_)
                      · skip
                        have h_37 := s_le (rfl : z_35.toInt = _) (rfl : c9.toInt = _) c_36
                        refine lv_aload_n hx hb dX12_row_203 rfl (lv_at hl 4 rfl) ?_
                        refine lv_dup hx hb dX12_row_204 rfl ?_
                        refine h_geti (ci := 12) (C := RX12) (F := TX12) (N := 86) hx hb hts in12 hown hK hH (by decide) (rfl : kd 36 = 12) (by decide) rfl 26 (by decide) wd3 (fun _ h9 => h9) (by decide) rfl dX12_row_205 ?_
                        refine sj_i (y := (i 36 26)) ((hfr_j1 36 26 (by omega)).trans ((congrFun (up2_n _ _ (by decide)) _).trans ((congrFun (up2_n _ _ (by decide)) _).trans (congrFun (up2_n _ _ (by decide)) _)))) ?_
                        refine lv_iconst (v := 1) hx hb dX12_row_208 (by decide) ?_
                        refine lv_iadd hx hb dX12_row_209 ?_
                        obtain ⟨z_38, ez_38, hz_38⟩ := s_add (rfl : (i 36 26).toInt = _) (show (1 : Int32).toInt = 1 from rfl) (by omega) (by omega)
                        refine sj_i ez_38 ?_
                        have hO_39 := okp hO_j1 (n := 36) (k := 26) (v := z_38) (show (0 : Int) ≤ (z_38 : Int32).toInt ∧ (z_38 : Int32).toInt ≤ 40 from ⟨by omega, by omega⟩)
                        refine h_puti (ty := .int) (ci := 12) (C := RX12) (F := TX12) (N := 86) hx hb hts in12 tyX12 tyX12_ok nmX12 hown hK hH hS (by decide) (rfl : kd 36 = 12) (by decide) rfl 26 (by decide) wd3 (fun _ h9 => h9) rfl (by decide +kernel) rfl rfl (by decide) rfl dX12_row_210 (fun H locs hH hS => ?_)
                        refine lv_aload_n hx hb dX12_row_213 rfl (lv_at hl 4 rfl) ?_
                        refine lv_aload_n hx hb dX12_row_214 rfl (lv_at hl 4 rfl) ?_
                        have bx_40 : (0 : Int) ≤ (i 36 8).toInt ∧ (i 36 8).toInt ≤ 8 := hO 36 8
                        refine h_geti (ci := 12) (C := RX12) (F := TX12) (N := 86) hx hb hts in12 hown hK hH (by decide) (rfl : kd 36 = 12) (by decide) rfl 8 (by decide) wd7 (fun _ h9 => h9) (by decide) rfl dX12_row_215 ?_
                        refine sj_i (y := (i 36 8)) ((up2_k _ _ (by decide)).trans ((hfr_j1 36 8 (by omega)).trans ((congrFun (up2_n _ _ (by decide)) _).trans ((congrFun (up2_n _ _ (by decide)) _).trans (congrFun (up2_n _ _ (by decide)) _))))) ?_
                        refine lv_bipush (v := 6) hx hb dX12_row_218 (by decide) ?_
                        refine lv_icmp_ne (tgt := 228) hx hb dX12_row_220 (by decide) (fun c_41 => ?_) (fun c_41 => ?_)
                        · skip
                          have h_42 := s_ne (rfl : (i 36 8).toInt = _) (show (6 : Int32).toInt = 6 from rfl) c_41
                          refine lv_aload_n hx hb dX12_row_228 rfl (lv_at hl 4 rfl) ?_
                          refine h_geti (ci := 12) (C := RX12) (F := TX12) (N := 86) hx hb hts in12 hown hK hH (by decide) (rfl : kd 36 = 12) (by decide) rfl 8 (by decide) wd7 (fun _ h9 => h9) (by decide) rfl dX12_row_229 ?_
                          refine sj_i (y := (i 36 8)) ((up2_k _ _ (by decide)).trans ((hfr_j1 36 8 (by omega)).trans ((congrFun (up2_n _ _ (by decide)) _).trans ((congrFun (up2_n _ _ (by decide)) _).trans (congrFun (up2_n _ _ (by decide)) _))))) ?_
                          have hO_43 := okp hO_39 (n := 36) (k := 8) (v := (i 36 8)) (show (0 : Int) ≤ ((i 36 8) : Int32).toInt ∧ ((i 36 8) : Int32).toInt ≤ 8 from ⟨by omega, by omega⟩)
                          refine h_puti (ty := .int) (ci := 12) (C := RX12) (F := TX12) (N := 86) hx hb hts in12 tyX12 tyX12_ok nmX12 hown hK hH hS (by decide) (rfl : kd 36 = 12) (by decide) rfl 8 (by decide) wd7 (fun _ h9 => h9) rfl (by decide +kernel) rfl rfl (by decide) rfl dX12_row_232 (fun H locs hH hS => ?_)
                          refine lv_iconst (v := 0) hx hb dX12_row_235 (by decide) ?_
                          have hrm : rowM i (wid (lnL (i 380) 0 (i 36 4).toInt)) := (he_24.elim (fun q9 => Or.inl (by have := q9.2; omega)) (fun q9 => Or.inr ⟨r_20.toInt.toNat, by omega, q9.2.2.1, by have := q9.2.2.2; omega, by have := q9.1; omega⟩))
                          have hp_44 : ((up2 (up2 j1 36 26 z_38) 36 8 (i 36 8)) 36 26).toInt = (z_38 : Int32).toInt := congrArg Int32.toInt (((up2_k _ _ (by decide)).trans (up2_at _ _ _ _)))
                          have hp_45 : ((up2 (up2 j1 36 26 z_38) 36 8 (i 36 8)) 36 8).toInt = ((i 36 8) : Int32).toInt := congrArg Int32.toInt ((up2_at _ _ _ _))
                          have hp_46 : ((up2 (up2 j1 36 26 z_38) 36 8 (i 36 8)) 392 (i 36 26).toInt.toNat).toInt = ((i 36 27) : Int32).toInt := congrArg Int32.toInt (((congrFun (up2_n _ _ (by decide)) _).trans ((congrFun (up2_n _ _ (by decide)) _).trans ((hfr_j1 392 ((i 36 26).toInt).toNat (by omega)).trans ((congrFun (up2_n _ _ (by decide)) _).trans ((congrFun (up2_n _ _ (by decide)) _).trans (up2_at _ _ _ _)))))))
                          have hp_47 : ((up2 (up2 j1 36 26 z_38) 36 8 (i 36 8)) 394 (i 36 26).toInt.toNat).toInt = (z_32 : Int32).toInt := congrArg Int32.toInt (((congrFun (up2_n _ _ (by decide)) _).trans ((congrFun (up2_n _ _ (by decide)) _).trans ((hfr_j1 394 ((i 36 26).toInt).toNat (by omega)).trans (up2_at _ _ _ _)))))
                          have hbe9 := brs_end (f := i 380) (a := (i 36 4).toInt) (b := (i 36 4).toInt) (by omega)
                          have hV_48 : ((0 : Int32).toInt = 3 ∧ (wid (lnL (i 380) 0 (i 36 4).toInt) < 1 ∨ 4 < wid (lnL (i 380) 0 (i 36 4).toInt)) ∧ (up2 (up2 j1 36 26 z_38) 36 8 (i 36 8)) = i) ∨ ((1 ≤ wid (lnL (i 380) 0 (i 36 4).toInt) ∧ wid (lnL (i 380) 0 (i 36 4).toInt) ≤ 4) ∧ (((0 : Int32).toInt = 4 ∧ ¬ rowM i (wid (lnL (i 380) 0 (i 36 4).toInt)) ∧ (up2 (up2 j1 36 26 z_38) 36 8 (i 36 8)) = i) ∨ (rowM i (wid (lnL (i 380) 0 (i 36 4).toInt)) ∧ (((0 : Int32).toInt = 5 ∧ (i 36 26).toInt = 40 ∧ (up2 (up2 j1 36 26 z_38) 36 8 (i 36 8)) = i) ∨ ((0 : Int32).toInt = 0 ∧ (i 36 26).toInt < 40 ∧ rwM i (up2 (up2 j1 36 26 z_38) 36 8 (i 36 8)) (wid (lnL (i 380) 0 (i 36 4).toInt))))))) := (Or.inr ⟨⟨by omega, by omega⟩, Or.inr ⟨hrm, Or.inr ⟨by rfl, by omega, by omega, by omega, by omega, by omega, (fun k hk => ⟨((up2_o _ _ (by omega)).trans ((up2_o _ _ (by omega)).trans ((hfr_j1 392 k (by omega)).trans ((up2_o _ _ (by omega)).trans ((up2_o _ _ (by omega)).trans (up2_o _ _ (by omega))))))), ((up2_o _ _ (by omega)).trans ((up2_o _ _ (by omega)).trans ((hfr_j1 394 k (by omega)).trans ((up2_o _ _ (by omega)).trans ((up2_o _ _ (by omega)).trans (up2_o _ _ (by omega)))))))⟩), (fun b hb => by
                                have hb9 : b ≠ 26 ∧ b ≠ 8 := ⟨fun e9 => hb (by rw [e9]; decide), fun e9 => hb (by rw [e9]; decide)⟩
                                exact ((up2_o _ _ (by omega)).trans ((up2_o _ _ (by omega)).trans ((hfr_j1 36 b (by omega)).trans ((up2_o _ _ (by omega)).trans ((up2_o _ _ (by omega)).trans (up2_o _ _ (by omega)))))))), (fun a h1 h2 => by
                                have h9 : a ≠ 392 ∧ a ≠ 393 ∧ a ≠ 394 ∧ a ≠ 395 ∧ a ≠ 396 := ⟨fun e9 => h2 (by rw [e9]; decide), fun e9 => h2 (by rw [e9]; decide), fun e9 => h2 (by rw [e9]; decide), fun e9 => h2 (by rw [e9]; decide), fun e9 => h2 (by rw [e9]; decide)⟩
                                exact funext fun b => ((up2_o _ _ (by omega)).trans ((up2_o _ _ (by omega)).trans ((hfr_j1 a b (by omega)).trans ((up2_o _ _ (by omega)).trans ((up2_o _ _ (by omega)).trans (up2_o _ _ (by omega))))))))⟩⟩⟩)
                          exact sj_zret hx hb hr hlocks rfl hS (up2 (up2 j1 36 26 z_38) 36 8 (i 36 8)) ⟨hO_43, (fun a b ha => ((up2_o _ _ (by omega)).trans ((up2_o _ _ (by omega)).trans ((hfr_j1 a b (by omega)).trans ((up2_o _ _ (by omega)).trans ((up2_o _ _ (by omega)).trans (up2_o _ _ (by omega)))))))), ⟨by decide, by decide⟩, hV_48⟩ hH (sj_Knil hK) (Nat.le_of_ble_eq_true rfl) (Nat.le_of_ble_eq_true rfl) dX12_row_236
                        · skip
                          have h_49 := s_eq (rfl : (i 36 8).toInt = _) (show (6 : Int32).toInt = 6 from rfl) c_41
                          refine lv_bipush (v := 7) hx hb dX12_row_223 (by decide) ?_
                          refine lv_goto (tgt := 232) hx hb dX12_row_225 (by decide) ?_
                          have hO_50 := okp hO_39 (n := 36) (k := 8) (v := 7) (show (0 : Int) ≤ (7 : Int32).toInt ∧ (7 : Int32).toInt ≤ 8 from ⟨by decide, by decide⟩)
                          refine h_puti (ty := .int) (ci := 12) (C := RX12) (F := TX12) (N := 86) hx hb hts in12 tyX12 tyX12_ok nmX12 hown hK hH hS (by decide) (rfl : kd 36 = 12) (by decide) rfl 8 (by decide) wd7 (fun _ h9 => h9) rfl (by decide +kernel) rfl rfl (by decide) rfl dX12_row_232 (fun H locs hH hS => ?_)
                          refine lv_iconst (v := 0) hx hb dX12_row_235 (by decide) ?_
                          have hrm : rowM i (wid (lnL (i 380) 0 (i 36 4).toInt)) := (he_24.elim (fun q9 => Or.inl (by have := q9.2; omega)) (fun q9 => Or.inr ⟨r_20.toInt.toNat, by omega, q9.2.2.1, by have := q9.2.2.2; omega, by have := q9.1; omega⟩))
                          have hp_51 : ((up2 (up2 j1 36 26 z_38) 36 8 7) 36 26).toInt = (z_38 : Int32).toInt := congrArg Int32.toInt (((up2_k _ _ (by decide)).trans (up2_at _ _ _ _)))
                          have hp_52 : ((up2 (up2 j1 36 26 z_38) 36 8 7) 36 8).toInt = (7 : Int32).toInt := congrArg Int32.toInt ((up2_at _ _ _ _))
                          have hl_53 : (7 : Int32).toInt = 7 := rfl
                          have hp_54 : ((up2 (up2 j1 36 26 z_38) 36 8 7) 392 (i 36 26).toInt.toNat).toInt = ((i 36 27) : Int32).toInt := congrArg Int32.toInt (((congrFun (up2_n _ _ (by decide)) _).trans ((congrFun (up2_n _ _ (by decide)) _).trans ((hfr_j1 392 ((i 36 26).toInt).toNat (by omega)).trans ((congrFun (up2_n _ _ (by decide)) _).trans ((congrFun (up2_n _ _ (by decide)) _).trans (up2_at _ _ _ _)))))))
                          have hp_55 : ((up2 (up2 j1 36 26 z_38) 36 8 7) 394 (i 36 26).toInt.toNat).toInt = (z_32 : Int32).toInt := congrArg Int32.toInt (((congrFun (up2_n _ _ (by decide)) _).trans ((congrFun (up2_n _ _ (by decide)) _).trans ((hfr_j1 394 ((i 36 26).toInt).toNat (by omega)).trans (up2_at _ _ _ _)))))
                          have hbe9 := brs_end (f := i 380) (a := (i 36 4).toInt) (b := (i 36 4).toInt) (by omega)
                          have hV_56 : ((0 : Int32).toInt = 3 ∧ (wid (lnL (i 380) 0 (i 36 4).toInt) < 1 ∨ 4 < wid (lnL (i 380) 0 (i 36 4).toInt)) ∧ (up2 (up2 j1 36 26 z_38) 36 8 7) = i) ∨ ((1 ≤ wid (lnL (i 380) 0 (i 36 4).toInt) ∧ wid (lnL (i 380) 0 (i 36 4).toInt) ≤ 4) ∧ (((0 : Int32).toInt = 4 ∧ ¬ rowM i (wid (lnL (i 380) 0 (i 36 4).toInt)) ∧ (up2 (up2 j1 36 26 z_38) 36 8 7) = i) ∨ (rowM i (wid (lnL (i 380) 0 (i 36 4).toInt)) ∧ (((0 : Int32).toInt = 5 ∧ (i 36 26).toInt = 40 ∧ (up2 (up2 j1 36 26 z_38) 36 8 7) = i) ∨ ((0 : Int32).toInt = 0 ∧ (i 36 26).toInt < 40 ∧ rwM i (up2 (up2 j1 36 26 z_38) 36 8 7) (wid (lnL (i 380) 0 (i 36 4).toInt))))))) := (Or.inr ⟨⟨by omega, by omega⟩, Or.inr ⟨hrm, Or.inr ⟨by rfl, by omega, by omega, by omega, by omega, by omega, (fun k hk => ⟨((up2_o _ _ (by omega)).trans ((up2_o _ _ (by omega)).trans ((hfr_j1 392 k (by omega)).trans ((up2_o _ _ (by omega)).trans ((up2_o _ _ (by omega)).trans (up2_o _ _ (by omega))))))), ((up2_o _ _ (by omega)).trans ((up2_o _ _ (by omega)).trans ((hfr_j1 394 k (by omega)).trans ((up2_o _ _ (by omega)).trans ((up2_o _ _ (by omega)).trans (up2_o _ _ (by omega)))))))⟩), (fun b hb => by
                                have hb9 : b ≠ 26 ∧ b ≠ 8 := ⟨fun e9 => hb (by rw [e9]; decide), fun e9 => hb (by rw [e9]; decide)⟩
                                exact ((up2_o _ _ (by omega)).trans ((up2_o _ _ (by omega)).trans ((hfr_j1 36 b (by omega)).trans ((up2_o _ _ (by omega)).trans ((up2_o _ _ (by omega)).trans (up2_o _ _ (by omega)))))))), (fun a h1 h2 => by
                                have h9 : a ≠ 392 ∧ a ≠ 393 ∧ a ≠ 394 ∧ a ≠ 395 ∧ a ≠ 396 := ⟨fun e9 => h2 (by rw [e9]; decide), fun e9 => h2 (by rw [e9]; decide), fun e9 => h2 (by rw [e9]; decide), fun e9 => h2 (by rw [e9]; decide), fun e9 => h2 (by rw [e9]; decide)⟩
                                exact funext fun b => ((up2_o _ _ (by omega)).trans ((up2_o _ _ (by omega)).trans ((hfr_j1 a b (by omega)).trans ((up2_o _ _ (by omega)).trans ((up2_o _ _ (by omega)).trans (up2_o _ _ (by omega))))))))⟩⟩⟩)
                          exact sj_zret hx hb hr hlocks rfl hS (up2 (up2 j1 36 26 z_38) 36 8 7) ⟨hO_50, (fun a b ha => ((up2_o _ _ (by omega)).trans ((up2_o _ _ (by omega)).trans ((hfr_j1 a b (by omega)).trans ((up2_o _ _ (by omega)).trans ((up2_o _ _ (by omega)).trans (up2_o _ _ (by omega)))))))), ⟨by decide, by decide⟩, hV_56⟩ hH (sj_Knil hK) (Nat.le_of_ble_eq_true rfl) (Nat.le_of_ble_eq_true rfl) dX12_row_236
                      · skip
                        have h_57 := s_nle (rfl : z_35.toInt = _) (rfl : c9.toInt = _) c_36
                        refine lv_iload hx hb dX12_row_152 (lv_at hl 1 rfl) ?_
                        refine lv_istore (lv' := [(6, .int k9), (5, .int c9), (4, .int k9), (3, .int r_20), (2, .int t), (0, .ref (g 36)), (1, .int x)]) hx hb dX12_row_154 hl (by decide) rfl (fun ls hl => ?_)
                        -- loop at 156
                        have lp_58 : ∀ (fuel_lp_58 : Nat) (e9 : Int32) (H : Heap) (locs : List Loc) (ls : Array Slot), (480 - e9.toInt).toNat < fuel_lp_58 → (1 : Int) ≤ e9.toInt ∧ e9.toInt ≤ 480 → k9.toInt ≤ e9.toInt ∧ e9.toInt ≤ (i 36 4).toInt ∧ c9.toInt < t.toInt - 1 → brs (lnL (i 380) e9.toInt (i 36 4).toInt) = t.toInt - 1 - c9.toInt → lv_has ls 7 [(6, .int e9), (5, .int c9), (4, .int k9), (3, .int r_20), (2, .int t), (0, .ref (g 36)), (1, .int x)] → sj_H D A (hwc g ka j1 r L d) H → va_S A s.heap H locs → W p l e (headSpec wsX12_row ({ frames := 2, cells := 0, slots := 0, locals := 49 })).room s m ([.ref (g 36), .int x] : List Value).toArray below meth c H locs 0 0 (MQ below (sj_Qi (S := (Nat → Nat → Int32)) D (fun v u => OkI u ∧ (∀ a b, ¬ ((a = 36 ∧ (b = 8 ∨ b = 26)) ∨ a = 392 ∨ a = 393 ∨ a = 394 ∨ a = 395 ∨ a = 396) → u a b = i a b) ∧ ((0 : Int) ≤ v.toInt ∧ v.toInt ≤ 5) ∧ ((v.toInt = 3 ∧ (wid (lnL (i 380) 0 (i 36 4).toInt) < 1 ∨ 4 < wid (lnL (i 380) 0 (i 36 4).toInt)) ∧ u = i) ∨ ((1 ≤ wid (lnL (i 380) 0 (i 36 4).toInt) ∧ wid (lnL (i 380) 0 (i 36 4).toInt) ≤ 4) ∧ ((v.toInt = 4 ∧ ¬ rowM i (wid (lnL (i 380) 0 (i 36 4).toInt)) ∧ u = i) ∨ (rowM i (wid (lnL (i 380) 0 (i 36 4).toInt)) ∧ ((v.toInt = 5 ∧ (i 36 26).toInt = 40 ∧ u = i) ∨ (v.toInt = 0 ∧ (i 36 26).toInt < 40 ∧ rwM i u (wid (lnL (i 380) 0 (i 36 4).toInt))))))))) (fun u => hwc g ka u r L d) (fun _ => []) A) ([.ref (g 36), .int x] : List Value).toArray s 0 0 A) (F0 m 156 ls []) := by
                          intro fuel_lp_58
                          induction fuel_lp_58 with
                          | zero => intros; omega
                          | succ fuel_lp_58 ih_lp_58 =>
                            intro e9 H locs ls hm hr_e9 hi_lp_58_0 hi_lp_58_1 hl hH hS
                            have he9 : e9.toInt < (i 36 4).toInt := by
                              rcases Int.lt_or_le e9.toInt (i 36 4).toInt with h9 | h9
                              · exact h9
                              · exfalso
                                have := brs_end (f := i 380) (a := e9.toInt) (b := (i 36 4).toInt) h9
                                omega
                            refine lv_aload_n hx hb dX12_row_156 rfl (lv_at hl 5 rfl) ?_
                            refine h_getr (ci := 12) (C := RX12) (F := TX12) (N := 86) hx hb hts in12 hown hK hH (by decide) (rfl : kd 36 = 12) (by decide) rfl 3 (by decide) wd1 (fun _ h9 => h9) (by decide) rfl (t := 380) (hR 36 3 rfl) (by decide) dX12_row_157 ?_
                            refine lv_iload hx hb dX12_row_160 (lv_at hl 0 rfl) ?_
                            have bx_59 : (0 : Int) ≤ (i 380 (e9.toInt).toNat).toInt ∧ (i 380 (e9.toInt).toNat).toInt ≤ 65535 := hO 380 (e9.toInt).toNat
                            have hbs_60 := brs_s (f := i 380) (a := e9.toInt) (b := (i 36 4).toInt) (by omega) (by omega)
                            have hbn_61 := brs_0 (lnL (i 380) (e9.toInt + 1) (i 36 4).toInt)
                            refine h_cald hx hb hK hH (by decide) (rfl : kd 380 = 14) (s_vin (N := 480) (rfl : e9.toInt = _) (rfl : ln 380 = 480) (by omega) (by omega)) dX12_row_162 ?_
                            have ek_62 : e9.toNatClampNeg = (e9.toInt).toNat := (s_cl (show e9.toInt = e9.toInt by omega))
                            refine sj_i (y := (i 380 (e9.toInt).toNat)) (by rw [ek_62]; exact ((hfr_j1 380 (e9.toInt).toNat (by omega)).trans ((congrFun (up2_n _ _ (by decide)) _).trans ((congrFun (up2_n _ _ (by decide)) _).trans (congrFun (up2_n _ _ (by decide)) _))))) ?_
                            refine lv_bipush (v := 124) hx hb dX12_row_163 (by decide) ?_
                            refine lv_icmp_eq (tgt := 174) hx hb dX12_row_165 (by decide) (fun c_63 => ?_) (fun c_63 => ?_)
                            · skip
                              have h_64 := s_eq (rfl : (i 380 (e9.toInt).toNat).toInt = _) (show (124 : Int32).toInt = 124 from rfl) c_63
                              refine lv_aload_n hx hb dX12_row_174 rfl (lv_at hl 5 rfl) ?_
                              refine lv_iconst (v := 4) hx hb dX12_row_175 (by decide) ?_
                              refine lv_aload_n hx hb dX12_row_176 rfl (lv_at hl 5 rfl) ?_
                              refine h_geti (ci := 12) (C := RX12) (F := TX12) (N := 86) hx hb hts in12 hown hK hH (by decide) (rfl : kd 36 = 12) (by decide) rfl 26 (by decide) wd3 (fun _ h9 => h9) (by decide) rfl dX12_row_177 ?_
                              refine sj_i (y := (i 36 26)) ((hfr_j1 36 26 (by omega)).trans ((congrFun (up2_n _ _ (by decide)) _).trans ((congrFun (up2_n _ _ (by decide)) _).trans (congrFun (up2_n _ _ (by decide)) _)))) ?_
                              refine lv_imul hx hb dX12_row_180 ?_
                              obtain ⟨z_65, ez_65, hz_65⟩ := s_mul (show (4 : Int32).toInt = 4 from rfl) (rfl : (i 36 26).toInt = _) (by omega) (by omega)
                              refine sj_i ez_65 ?_
                              refine lv_iload hx hb dX12_row_181 (lv_at hl 1 rfl) ?_
                              refine lv_iadd hx hb dX12_row_183 ?_
                              obtain ⟨z_66, ez_66, hz_66⟩ := s_add (rfl : z_65.toInt = _) (rfl : c9.toInt = _) (by omega) (by omega)
                              refine sj_i ez_66 ?_
                              refine lv_iload hx hb dX12_row_184 (lv_at hl 2 rfl) ?_
                              refine lv_iload hx hb dX12_row_186 (lv_at hl 0 rfl) ?_
                              refine x_callv (va_runV (As := [.int z_66, .int k9, .int e9]) (rest := []) ⟨hx, hb, hml, hown, hts⟩ (m_cut l D g ka ad j1 r L d z_66 k9 e9 hO_j1 hR H.size (by first | omega | decide) (by first | omega | decide) (by first | omega | decide) (by first | omega | decide) (by first | omega | decide)) (cwV 3 hts gX12_row_X12_cut rfl rfl rfl (by decide +kernel) ⟨(Nat.le_of_ble_eq_true rfl), (Nat.le_of_ble_eq_true rfl)⟩) (x_preV (q := (RX12, TX12, 86)) hH hK (q_obj (by decide) (rfl : kd 36 = 12) (by decide)) rfl gxb (gxw hE hS (x_F hH hS hA))) rfl rfl hl.1 rfl (lv_room (Nat.le_of_ble_eq_true rfl)) dX12_row_188 ⟨(Nat.le_of_ble_eq_true rfl), (Nat.le_of_ble_eq_true rfl)⟩) hH hS hA rfl rfl (fun im_69 H locs hw_68 hH hS => ?_)
                              have hH : sj_H D A (hwc g ka im_69 r L d) H := hH
                              obtain ⟨hO_71, hfr_70⟩ := hw_68
                              refine lv_iload hx hb dX12_row_191 (lv_at hl 0 rfl) ?_
                              refine lv_iconst (v := 1) hx hb dX12_row_193 (by decide) ?_
                              refine lv_iadd hx hb dX12_row_194 ?_
                              obtain ⟨z_72, ez_72, hz_72⟩ := s_add (rfl : e9.toInt = _) (show (1 : Int32).toInt = 1 from rfl) (by omega) (by omega)
                              refine sj_i ez_72 ?_
                              refine lv_istore (lv' := [(4, .int z_72), (6, .int e9), (5, .int c9), (3, .int r_20), (2, .int t), (0, .ref (g 36)), (1, .int x)]) hx hb dX12_row_195 hl (by decide) rfl (fun ls hl => ?_)
                              obtain ⟨z_73, ez_73, hz_73⟩ := s_add (rfl : c9.toInt = _) (show (1 : Int32).toInt = 1 from rfl) (by omega) (by omega)
                              refine lv_iinc (v := z_73) (lv' := [(5, .int z_73), (4, .int z_72), (6, .int e9), (3, .int r_20), (2, .int t), (0, .ref (g 36)), (1, .int x)]) hx hb dX12_row_197 hl (k := 2) rfl ez_73 (by decide) rfl (fun ls hl => ?_)
                              refine lv_goto (tgt := 144) hx hb dX12_row_200 (by decide) ?_
                              exact ih_lp_34 z_72 z_73 _ _ _ ls (by omega) (by omega) (by omega) (by omega) (by rw [show (z_72).toInt = e9.toInt + 1 by omega]; omega) hO_71 (fun a b ha => ((hfr_70 a b (by omega)).trans (hfr_j1 a b (by omega)))) (lv_sub hl [0, 1, 3, 4, 5, 6] rfl) hH hS
                            · skip
                              have h_74 := s_ne (rfl : (i 380 (e9.toInt).toNat).toInt = _) (show (124 : Int32).toInt = 124 from rfl) c_63
                              obtain ⟨z_75, ez_75, hz_75⟩ := s_add (rfl : e9.toInt = _) (show (1 : Int32).toInt = 1 from rfl) (by omega) (by omega)
                              refine lv_iinc (v := z_75) (lv' := [(6, .int z_75), (5, .int c9), (4, .int k9), (3, .int r_20), (2, .int t), (0, .ref (g 36)), (1, .int x)]) hx hb dX12_row_168 hl (k := 0) rfl ez_75 (by decide) rfl (fun ls hl => ?_)
                              refine lv_goto (tgt := 156) hx hb dX12_row_171 (by decide) ?_
                              exact ih_lp_58 z_75 _ _ ls (by omega) (by omega) (by omega) (by rw [show (z_75).toInt = e9.toInt + 1 by omega]; omega) (lv_sub hl [0, 1, 2, 3, 4, 5, 6] rfl) hH hS
                        exact lp_58 _ k9 _ _ ls (Nat.lt_succ_self _) (by omega) (by omega) (by omega) (lv_sub hl [0, 1, 2, 3, 4, 5, 6] rfl) hH hS
                  have hl_76 : (1 : Int32).toInt = 1 := rfl
                  have hl_77 : (0 : Int32).toInt = 0 := rfl
                  exact lp_34 _ 1 0 _ _ _ ls (Nat.lt_succ_self _) (by omega) (by omega) (by omega) (by rw [show (1 : Int32).toInt = 1 from rfl, show (0 : Int32).toInt = 0 from rfl]; omega) hO_33 (fun a b ha => rfl) (lv_sub hl [0, 1, 2, 3, 4, 5] rfl) hH hS
                · skip
                  have h_78 := s_eq (rfl : (i 36 26).toInt = _) (show (40 : Int32).toInt = 40 from rfl) c_28
                  refine lv_iconst (v := 5) hx hb dX12_row_101 (by decide) ?_
                  have hrm : rowM i (wid (lnL (i 380) 0 (i 36 4).toInt)) := (he_24.elim (fun q9 => Or.inl (by have := q9.2; omega)) (fun q9 => Or.inr ⟨r_20.toInt.toNat, by omega, q9.2.2.1, by have := q9.2.2.2; omega, by have := q9.1; omega⟩))
                  have hV_79 : ((5 : Int32).toInt = 3 ∧ (wid (lnL (i 380) 0 (i 36 4).toInt) < 1 ∨ 4 < wid (lnL (i 380) 0 (i 36 4).toInt)) ∧ i = i) ∨ ((1 ≤ wid (lnL (i 380) 0 (i 36 4).toInt) ∧ wid (lnL (i 380) 0 (i 36 4).toInt) ≤ 4) ∧ (((5 : Int32).toInt = 4 ∧ ¬ rowM i (wid (lnL (i 380) 0 (i 36 4).toInt)) ∧ i = i) ∨ (rowM i (wid (lnL (i 380) 0 (i 36 4).toInt)) ∧ (((5 : Int32).toInt = 5 ∧ (i 36 26).toInt = 40 ∧ i = i) ∨ ((5 : Int32).toInt = 0 ∧ (i 36 26).toInt < 40 ∧ rwM i i (wid (lnL (i 380) 0 (i 36 4).toInt))))))) := (Or.inr ⟨⟨by omega, by omega⟩, Or.inr ⟨hrm, Or.inl ⟨by rfl, by omega, rfl⟩⟩⟩)
                  exact sj_zret hx hb hr hlocks rfl hS i ⟨hO, (fun a b ha => rfl), ⟨by decide, by decide⟩, hV_79⟩ hH (sj_Knil hK) (Nat.le_of_ble_eq_true rfl) (Nat.le_of_ble_eq_true rfl) dX12_row_102
              · skip
                have h_80 := s_nlt (rfl : r_20.toInt = _) (show (0 : Int32).toInt = 0 from rfl) c_25
                refine lv_aload_n hx hb dX12_row_78 rfl (lv_at hl 2 rfl) ?_
                refine h_getr (ci := 12) (C := RX12) (F := TX12) (N := 86) hx hb hts in12 hown hK hH (by decide) (rfl : kd 36 = 12) (by decide) rfl 30 (by decide) wd6 (fun _ h9 => h9) (by decide) rfl (t := 394) (hR 36 30 rfl) (by decide) dX12_row_79 ?_
                refine lv_iload_n hx hb dX12_row_82 rfl (lv_at hl 0 rfl) ?_
                have bx_81 : (0 : Int) ≤ (i 394 (r_20.toInt).toNat).toInt ∧ (i 394 (r_20.toInt).toNat).toInt ≤ 4 := hO 394 (r_20.toInt).toNat
                refine h_iald hx hb hK hH (by decide) (rfl : kd 394 = 13) (s_vin (N := 40) (rfl : r_20.toInt = _) (rfl : ln 394 = 40) (by omega) (by omega)) dX12_row_83 ?_
                have ek_82 : r_20.toNatClampNeg = (r_20.toInt).toNat := (s_cl (show r_20.toInt = r_20.toInt by omega))
                refine sj_i (y := (i 394 (r_20.toInt).toNat)) (by rw [ek_82]) ?_
                refine lv_iload_n hx hb dX12_row_84 rfl (lv_at hl 1 rfl) ?_
                refine lv_iconst (v := 1) hx hb dX12_row_85 (by decide) ?_
                refine lv_isub hx hb dX12_row_86 ?_
                obtain ⟨z_83, ez_83, hz_83⟩ := s_sub (rfl : t.toInt = _) (show (1 : Int32).toInt = 1 from rfl) (by omega) (by omega)
                refine sj_i ez_83 ?_
                refine lv_icmp_eq (tgt := 92) hx hb dX12_row_87 (by decide) (fun c_84 => ?_) (fun c_84 => ?_)
                · skip
                  have h_85 := s_eq (rfl : (i 394 (r_20.toInt).toNat).toInt = _) (rfl : z_83.toInt = _) c_84
                  refine lv_aload_n hx hb dX12_row_92 rfl (lv_at hl 2 rfl) ?_
                  have bx_86 : (0 : Int) ≤ (i 36 26).toInt ∧ (i 36 26).toInt ≤ 40 := hO 36 26
                  refine h_geti (ci := 12) (C := RX12) (F := TX12) (N := 86) hx hb hts in12 hown hK hH (by decide) (rfl : kd 36 = 12) (by decide) rfl 26 (by decide) wd3 (fun _ h9 => h9) (by decide) rfl dX12_row_93 ?_
                  refine lv_bipush (v := 40) hx hb dX12_row_96 (by decide) ?_
                  refine lv_icmp_ne (tgt := 103) hx hb dX12_row_98 (by decide) (fun c_87 => ?_) (fun c_87 => ?_)
                  · skip
                    have h_88 := s_ne (rfl : (i 36 26).toInt = _) (show (40 : Int32).toInt = 40 from rfl) c_87
                    refine lv_aload_n hx hb dX12_row_103 rfl (lv_at hl 2 rfl) ?_
                    refine h_getr (ci := 12) (C := RX12) (F := TX12) (N := 86) hx hb hts in12 hown hK hH (by decide) (rfl : kd 36 = 12) (by decide) rfl 28 (by decide) wd4 (fun _ h9 => h9) (by decide) rfl (t := 392) (hR 36 28 rfl) (by decide) dX12_row_104 ?_
                    refine lv_aload_n hx hb dX12_row_107 rfl (lv_at hl 2 rfl) ?_
                    refine h_geti (ci := 12) (C := RX12) (F := TX12) (N := 86) hx hb hts in12 hown hK hH (by decide) (rfl : kd 36 = 12) (by decide) rfl 26 (by decide) wd3 (fun _ h9 => h9) (by decide) rfl dX12_row_108 ?_
                    refine lv_aload_n hx hb dX12_row_111 rfl (lv_at hl 2 rfl) ?_
                    refine h_geti (ci := 12) (C := RX12) (F := TX12) (N := 86) hx hb hts in12 hown hK hH (by decide) (rfl : kd 36 = 12) (by decide) rfl 27 (by decide) wd2 (fun _ h9 => h9) (by decide) rfl dX12_row_112 ?_
                    have hO_89 := okp hO (n := 392) (k := ((i 36 26).toInt).toNat) (v := (i 36 27)) (show (-2147483648 : Int) ≤ ((i 36 27) : Int32).toInt ∧ ((i 36 27) : Int32).toInt ≤ 2147483647 from s_rng (i 36 27))
                    refine h_iast hx hb hK hH hS (by decide) (rfl : kd 392 = 13) (s_vin (N := 40) (rfl : (i 36 26).toInt = _) (rfl : ln 392 = 40) (by omega) (by omega)) dX12_row_115 (fun H locs hH hS => ?_)
                    rw [s_cl (show (i 36 26).toInt = (i 36 26).toInt by omega)] at hH
                    refine lv_aload_n hx hb dX12_row_116 rfl (lv_at hl 2 rfl) ?_
                    refine h_getr (ci := 12) (C := RX12) (F := TX12) (N := 86) hx hb hts in12 hown hK hH (by decide) (rfl : kd 36 = 12) (by decide) rfl 29 (by decide) wd5 (fun _ h9 => h9) (by decide) rfl (t := 393) (hR 36 29 rfl) (by decide) dX12_row_117 ?_
                    refine lv_aload_n hx hb dX12_row_120 rfl (lv_at hl 2 rfl) ?_
                    refine h_geti (ci := 12) (C := RX12) (F := TX12) (N := 86) hx hb hts in12 hown hK hH (by decide) (rfl : kd 36 = 12) (by decide) rfl 26 (by decide) wd3 (fun _ h9 => h9) (by decide) rfl dX12_row_121 ?_
                    refine sj_i (y := (i 36 26)) (congrFun (up2_n _ _ (by decide)) _) ?_
                    refine lv_iload_n hx hb dX12_row_124 rfl (lv_at hl 3 rfl) ?_
                    have hO_90 := okp hO_89 (n := 393) (k := ((i 36 26).toInt).toNat) (v := x) (show (-2147483648 : Int) ≤ (x : Int32).toInt ∧ (x : Int32).toInt ≤ 2147483647 from s_rng x)
                    refine h_iast hx hb hK hH hS (by decide) (rfl : kd 393 = 13) (s_vin (N := 40) (rfl : (i 36 26).toInt = _) (rfl : ln 393 = 40) (by omega) (by omega)) dX12_row_125 (fun H locs hH hS => ?_)
                    rw [s_cl (show (i 36 26).toInt = (i 36 26).toInt by omega)] at hH
                    refine lv_aload_n hx hb dX12_row_126 rfl (lv_at hl 2 rfl) ?_
                    refine h_getr (ci := 12) (C := RX12) (F := TX12) (N := 86) hx hb hts in12 hown hK hH (by decide) (rfl : kd 36 = 12) (by decide) rfl 30 (by decide) wd6 (fun _ h9 => h9) (by decide) rfl (t := 394) (hR 36 30 rfl) (by decide) dX12_row_127 ?_
                    refine lv_aload_n hx hb dX12_row_130 rfl (lv_at hl 2 rfl) ?_
                    refine h_geti (ci := 12) (C := RX12) (F := TX12) (N := 86) hx hb hts in12 hown hK hH (by decide) (rfl : kd 36 = 12) (by decide) rfl 26 (by decide) wd3 (fun _ h9 => h9) (by decide) rfl dX12_row_131 ?_
                    refine sj_i (y := (i 36 26)) ((congrFun (up2_n _ _ (by decide)) _).trans (congrFun (up2_n _ _ (by decide)) _)) ?_
                    refine lv_iload_n hx hb dX12_row_134 rfl (lv_at hl 1 rfl) ?_
                    refine lv_iconst (v := 1) hx hb dX12_row_135 (by decide) ?_
                    refine lv_isub hx hb dX12_row_136 ?_
                    obtain ⟨z_91, ez_91, hz_91⟩ := s_sub (rfl : t.toInt = _) (show (1 : Int32).toInt = 1 from rfl) (by omega) (by omega)
                    refine sj_i ez_91 ?_
                    have hO_92 := okp hO_90 (n := 394) (k := ((i 36 26).toInt).toNat) (v := z_91) (show (0 : Int) ≤ (z_91 : Int32).toInt ∧ (z_91 : Int32).toInt ≤ 4 from ⟨by omega, by omega⟩)
                    refine h_iast hx hb hK hH hS (by decide) (rfl : kd 394 = 13) (s_vin (N := 40) (rfl : (i 36 26).toInt = _) (rfl : ln 394 = 40) (by omega) (by omega)) dX12_row_137 (fun H locs hH hS => ?_)
                    rw [s_cl (show (i 36 26).toInt = (i 36 26).toInt by omega)] at hH
                    refine lv_iconst (v := 1) hx hb dX12_row_138 (by decide) ?_
                    refine lv_istore (lv' := [(4, .int 1), (3, .int r_20), (2, .int t), (0, .ref (g 36)), (1, .int x)]) hx hb dX12_row_139 hl (by decide) rfl (fun ls hl => ?_)
                    refine lv_iconst (v := 0) hx hb dX12_row_141 (by decide) ?_
                    refine lv_istore (lv' := [(5, .int 0), (4, .int 1), (3, .int r_20), (2, .int t), (0, .ref (g 36)), (1, .int x)]) hx hb dX12_row_142 hl (by decide) rfl (fun ls hl => ?_)
                    -- loop at 144
                    have lp_93 : ∀ (fuel_lp_93 : Nat) (k9 : Int32) (c9 : Int32) (j1 : Nat → Nat → Int32) (H : Heap) (locs : List Loc) (ls : Array Slot), (t.toInt - 1 - c9.toInt).toNat < fuel_lp_93 → (1 : Int) ≤ k9.toInt ∧ k9.toInt ≤ 480 → (0 : Int) ≤ c9.toInt ∧ c9.toInt ≤ 4 → k9.toInt ≤ (i 36 4).toInt ∧ c9.toInt ≤ t.toInt - 1 → brs (lnL (i 380) k9.toInt (i 36 4).toInt) = t.toInt - 1 - c9.toInt → OkI j1 → (∀ a b, ¬ (a = 395 ∨ a = 396) → j1 a b = (up2 (up2 (up2 i 392 ((i 36 26).toInt).toNat (i 36 27)) 393 ((i 36 26).toInt).toNat x) 394 ((i 36 26).toInt).toNat z_91) a b) → lv_has ls 7 [(5, .int c9), (4, .int k9), (3, .int r_20), (2, .int t), (0, .ref (g 36)), (1, .int x)] → sj_H D A (hwc g ka j1 r L d) H → va_S A s.heap H locs → W p l e (headSpec wsX12_row ({ frames := 2, cells := 0, slots := 0, locals := 49 })).room s m ([.ref (g 36), .int x] : List Value).toArray below meth c H locs 0 0 (MQ below (sj_Qi (S := (Nat → Nat → Int32)) D (fun v u => OkI u ∧ (∀ a b, ¬ ((a = 36 ∧ (b = 8 ∨ b = 26)) ∨ a = 392 ∨ a = 393 ∨ a = 394 ∨ a = 395 ∨ a = 396) → u a b = i a b) ∧ ((0 : Int) ≤ v.toInt ∧ v.toInt ≤ 5) ∧ ((v.toInt = 3 ∧ (wid (lnL (i 380) 0 (i 36 4).toInt) < 1 ∨ 4 < wid (lnL (i 380) 0 (i 36 4).toInt)) ∧ u = i) ∨ ((1 ≤ wid (lnL (i 380) 0 (i 36 4).toInt) ∧ wid (lnL (i 380) 0 (i 36 4).toInt) ≤ 4) ∧ ((v.toInt = 4 ∧ ¬ rowM i (wid (lnL (i 380) 0 (i 36 4).toInt)) ∧ u = i) ∨ (rowM i (wid (lnL (i 380) 0 (i 36 4).toInt)) ∧ ((v.toInt = 5 ∧ (i 36 26).toInt = 40 ∧ u = i) ∨ (v.toInt = 0 ∧ (i 36 26).toInt < 40 ∧ rwM i u (wid (lnL (i 380) 0 (i 36 4).toInt))))))))) (fun u => hwc g ka u r L d) (fun _ => []) A) ([.ref (g 36), .int x] : List Value).toArray s 0 0 A) (F0 m 144 ls []) := by
                      intro fuel_lp_93
                      induction fuel_lp_93 with
                      | zero => intros; omega
                      | succ fuel_lp_93 ih_lp_93 =>
                        intro k9 c9 j1 H locs ls hm hr_k9 hr_c9 hi_lp_93_0 hi_lp_93_1 hO_j1 hfr_j1 hl hH hS
                        refine lv_iload hx hb dX12_row_144 (lv_at hl 0 rfl) ?_
                        refine lv_iload_n hx hb dX12_row_146 rfl (lv_at hl 3 rfl) ?_
                        refine lv_iconst (v := 1) hx hb dX12_row_147 (by decide) ?_
                        refine lv_isub hx hb dX12_row_148 ?_
                        obtain ⟨z_94, ez_94, hz_94⟩ := s_sub (rfl : t.toInt = _) (show (1 : Int32).toInt = 1 from rfl) (by omega) (by omega)
                        refine sj_i ez_94 ?_
                        refine lv_icmp_ge (tgt := 203) hx hb dX12_row_149 (by decide) (fun c_95 => ?_) (fun c_95 => ?_)
                        · skip
                          have h_96 := s_le (rfl : z_94.toInt = _) (rfl : c9.toInt = _) c_95
                          refine lv_aload_n hx hb dX12_row_203 rfl (lv_at hl 4 rfl) ?_
                          refine lv_dup hx hb dX12_row_204 rfl ?_
                          refine h_geti (ci := 12) (C := RX12) (F := TX12) (N := 86) hx hb hts in12 hown hK hH (by decide) (rfl : kd 36 = 12) (by decide) rfl 26 (by decide) wd3 (fun _ h9 => h9) (by decide) rfl dX12_row_205 ?_
                          refine sj_i (y := (i 36 26)) ((hfr_j1 36 26 (by omega)).trans ((congrFun (up2_n _ _ (by decide)) _).trans ((congrFun (up2_n _ _ (by decide)) _).trans (congrFun (up2_n _ _ (by decide)) _)))) ?_
                          refine lv_iconst (v := 1) hx hb dX12_row_208 (by decide) ?_
                          refine lv_iadd hx hb dX12_row_209 ?_
                          obtain ⟨z_97, ez_97, hz_97⟩ := s_add (rfl : (i 36 26).toInt = _) (show (1 : Int32).toInt = 1 from rfl) (by omega) (by omega)
                          refine sj_i ez_97 ?_
                          have hO_98 := okp hO_j1 (n := 36) (k := 26) (v := z_97) (show (0 : Int) ≤ (z_97 : Int32).toInt ∧ (z_97 : Int32).toInt ≤ 40 from ⟨by omega, by omega⟩)
                          refine h_puti (ty := .int) (ci := 12) (C := RX12) (F := TX12) (N := 86) hx hb hts in12 tyX12 tyX12_ok nmX12 hown hK hH hS (by decide) (rfl : kd 36 = 12) (by decide) rfl 26 (by decide) wd3 (fun _ h9 => h9) rfl (by decide +kernel) rfl rfl (by decide) rfl dX12_row_210 (fun H locs hH hS => ?_)
                          refine lv_aload_n hx hb dX12_row_213 rfl (lv_at hl 4 rfl) ?_
                          refine lv_aload_n hx hb dX12_row_214 rfl (lv_at hl 4 rfl) ?_
                          have bx_99 : (0 : Int) ≤ (i 36 8).toInt ∧ (i 36 8).toInt ≤ 8 := hO 36 8
                          refine h_geti (ci := 12) (C := RX12) (F := TX12) (N := 86) hx hb hts in12 hown hK hH (by decide) (rfl : kd 36 = 12) (by decide) rfl 8 (by decide) wd7 (fun _ h9 => h9) (by decide) rfl dX12_row_215 ?_
                          refine sj_i (y := (i 36 8)) ((up2_k _ _ (by decide)).trans ((hfr_j1 36 8 (by omega)).trans ((congrFun (up2_n _ _ (by decide)) _).trans ((congrFun (up2_n _ _ (by decide)) _).trans (congrFun (up2_n _ _ (by decide)) _))))) ?_
                          refine lv_bipush (v := 6) hx hb dX12_row_218 (by decide) ?_
                          refine lv_icmp_ne (tgt := 228) hx hb dX12_row_220 (by decide) (fun c_100 => ?_) (fun c_100 => ?_)
                          · skip
                            have h_101 := s_ne (rfl : (i 36 8).toInt = _) (show (6 : Int32).toInt = 6 from rfl) c_100
                            refine lv_aload_n hx hb dX12_row_228 rfl (lv_at hl 4 rfl) ?_
                            refine h_geti (ci := 12) (C := RX12) (F := TX12) (N := 86) hx hb hts in12 hown hK hH (by decide) (rfl : kd 36 = 12) (by decide) rfl 8 (by decide) wd7 (fun _ h9 => h9) (by decide) rfl dX12_row_229 ?_
                            refine sj_i (y := (i 36 8)) ((up2_k _ _ (by decide)).trans ((hfr_j1 36 8 (by omega)).trans ((congrFun (up2_n _ _ (by decide)) _).trans ((congrFun (up2_n _ _ (by decide)) _).trans (congrFun (up2_n _ _ (by decide)) _))))) ?_
                            have hO_102 := okp hO_98 (n := 36) (k := 8) (v := (i 36 8)) (show (0 : Int) ≤ ((i 36 8) : Int32).toInt ∧ ((i 36 8) : Int32).toInt ≤ 8 from ⟨by omega, by omega⟩)
                            refine h_puti (ty := .int) (ci := 12) (C := RX12) (F := TX12) (N := 86) hx hb hts in12 tyX12 tyX12_ok nmX12 hown hK hH hS (by decide) (rfl : kd 36 = 12) (by decide) rfl 8 (by decide) wd7 (fun _ h9 => h9) rfl (by decide +kernel) rfl rfl (by decide) rfl dX12_row_232 (fun H locs hH hS => ?_)
                            refine lv_iconst (v := 0) hx hb dX12_row_235 (by decide) ?_
                            have hrm : rowM i (wid (lnL (i 380) 0 (i 36 4).toInt)) := (he_24.elim (fun q9 => Or.inl (by have := q9.2; omega)) (fun q9 => Or.inr ⟨r_20.toInt.toNat, by omega, q9.2.2.1, by have := q9.2.2.2; omega, by have := q9.1; omega⟩))
                            have hp_103 : ((up2 (up2 j1 36 26 z_97) 36 8 (i 36 8)) 36 26).toInt = (z_97 : Int32).toInt := congrArg Int32.toInt (((up2_k _ _ (by decide)).trans (up2_at _ _ _ _)))
                            have hp_104 : ((up2 (up2 j1 36 26 z_97) 36 8 (i 36 8)) 36 8).toInt = ((i 36 8) : Int32).toInt := congrArg Int32.toInt ((up2_at _ _ _ _))
                            have hp_105 : ((up2 (up2 j1 36 26 z_97) 36 8 (i 36 8)) 392 (i 36 26).toInt.toNat).toInt = ((i 36 27) : Int32).toInt := congrArg Int32.toInt (((congrFun (up2_n _ _ (by decide)) _).trans ((congrFun (up2_n _ _ (by decide)) _).trans ((hfr_j1 392 ((i 36 26).toInt).toNat (by omega)).trans ((congrFun (up2_n _ _ (by decide)) _).trans ((congrFun (up2_n _ _ (by decide)) _).trans (up2_at _ _ _ _)))))))
                            have hp_106 : ((up2 (up2 j1 36 26 z_97) 36 8 (i 36 8)) 394 (i 36 26).toInt.toNat).toInt = (z_91 : Int32).toInt := congrArg Int32.toInt (((congrFun (up2_n _ _ (by decide)) _).trans ((congrFun (up2_n _ _ (by decide)) _).trans ((hfr_j1 394 ((i 36 26).toInt).toNat (by omega)).trans (up2_at _ _ _ _)))))
                            have hbe9 := brs_end (f := i 380) (a := (i 36 4).toInt) (b := (i 36 4).toInt) (by omega)
                            have hV_107 : ((0 : Int32).toInt = 3 ∧ (wid (lnL (i 380) 0 (i 36 4).toInt) < 1 ∨ 4 < wid (lnL (i 380) 0 (i 36 4).toInt)) ∧ (up2 (up2 j1 36 26 z_97) 36 8 (i 36 8)) = i) ∨ ((1 ≤ wid (lnL (i 380) 0 (i 36 4).toInt) ∧ wid (lnL (i 380) 0 (i 36 4).toInt) ≤ 4) ∧ (((0 : Int32).toInt = 4 ∧ ¬ rowM i (wid (lnL (i 380) 0 (i 36 4).toInt)) ∧ (up2 (up2 j1 36 26 z_97) 36 8 (i 36 8)) = i) ∨ (rowM i (wid (lnL (i 380) 0 (i 36 4).toInt)) ∧ (((0 : Int32).toInt = 5 ∧ (i 36 26).toInt = 40 ∧ (up2 (up2 j1 36 26 z_97) 36 8 (i 36 8)) = i) ∨ ((0 : Int32).toInt = 0 ∧ (i 36 26).toInt < 40 ∧ rwM i (up2 (up2 j1 36 26 z_97) 36 8 (i 36 8)) (wid (lnL (i 380) 0 (i 36 4).toInt))))))) := (Or.inr ⟨⟨by omega, by omega⟩, Or.inr ⟨hrm, Or.inr ⟨by rfl, by omega, by omega, by omega, by omega, by omega, (fun k hk => ⟨((up2_o _ _ (by omega)).trans ((up2_o _ _ (by omega)).trans ((hfr_j1 392 k (by omega)).trans ((up2_o _ _ (by omega)).trans ((up2_o _ _ (by omega)).trans (up2_o _ _ (by omega))))))), ((up2_o _ _ (by omega)).trans ((up2_o _ _ (by omega)).trans ((hfr_j1 394 k (by omega)).trans ((up2_o _ _ (by omega)).trans ((up2_o _ _ (by omega)).trans (up2_o _ _ (by omega)))))))⟩), (fun b hb => by
                                  have hb9 : b ≠ 26 ∧ b ≠ 8 := ⟨fun e9 => hb (by rw [e9]; decide), fun e9 => hb (by rw [e9]; decide)⟩
                                  exact ((up2_o _ _ (by omega)).trans ((up2_o _ _ (by omega)).trans ((hfr_j1 36 b (by omega)).trans ((up2_o _ _ (by omega)).trans ((up2_o _ _ (by omega)).trans (up2_o _ _ (by omega)))))))), (fun a h1 h2 => by
                                  have h9 : a ≠ 392 ∧ a ≠ 393 ∧ a ≠ 394 ∧ a ≠ 395 ∧ a ≠ 396 := ⟨fun e9 => h2 (by rw [e9]; decide), fun e9 => h2 (by rw [e9]; decide), fun e9 => h2 (by rw [e9]; decide), fun e9 => h2 (by rw [e9]; decide), fun e9 => h2 (by rw [e9]; decide)⟩
                                  exact funext fun b => ((up2_o _ _ (by omega)).trans ((up2_o _ _ (by omega)).trans ((hfr_j1 a b (by omega)).trans ((up2_o _ _ (by omega)).trans ((up2_o _ _ (by omega)).trans (up2_o _ _ (by omega))))))))⟩⟩⟩)
                            exact sj_zret hx hb hr hlocks rfl hS (up2 (up2 j1 36 26 z_97) 36 8 (i 36 8)) ⟨hO_102, (fun a b ha => ((up2_o _ _ (by omega)).trans ((up2_o _ _ (by omega)).trans ((hfr_j1 a b (by omega)).trans ((up2_o _ _ (by omega)).trans ((up2_o _ _ (by omega)).trans (up2_o _ _ (by omega)))))))), ⟨by decide, by decide⟩, hV_107⟩ hH (sj_Knil hK) (Nat.le_of_ble_eq_true rfl) (Nat.le_of_ble_eq_true rfl) dX12_row_236
                          · skip
                            have h_108 := s_eq (rfl : (i 36 8).toInt = _) (show (6 : Int32).toInt = 6 from rfl) c_100
                            refine lv_bipush (v := 7) hx hb dX12_row_223 (by decide) ?_
                            refine lv_goto (tgt := 232) hx hb dX12_row_225 (by decide) ?_
                            have hO_109 := okp hO_98 (n := 36) (k := 8) (v := 7) (show (0 : Int) ≤ (7 : Int32).toInt ∧ (7 : Int32).toInt ≤ 8 from ⟨by decide, by decide⟩)
                            refine h_puti (ty := .int) (ci := 12) (C := RX12) (F := TX12) (N := 86) hx hb hts in12 tyX12 tyX12_ok nmX12 hown hK hH hS (by decide) (rfl : kd 36 = 12) (by decide) rfl 8 (by decide) wd7 (fun _ h9 => h9) rfl (by decide +kernel) rfl rfl (by decide) rfl dX12_row_232 (fun H locs hH hS => ?_)
                            refine lv_iconst (v := 0) hx hb dX12_row_235 (by decide) ?_
                            have hrm : rowM i (wid (lnL (i 380) 0 (i 36 4).toInt)) := (he_24.elim (fun q9 => Or.inl (by have := q9.2; omega)) (fun q9 => Or.inr ⟨r_20.toInt.toNat, by omega, q9.2.2.1, by have := q9.2.2.2; omega, by have := q9.1; omega⟩))
                            have hp_110 : ((up2 (up2 j1 36 26 z_97) 36 8 7) 36 26).toInt = (z_97 : Int32).toInt := congrArg Int32.toInt (((up2_k _ _ (by decide)).trans (up2_at _ _ _ _)))
                            have hp_111 : ((up2 (up2 j1 36 26 z_97) 36 8 7) 36 8).toInt = (7 : Int32).toInt := congrArg Int32.toInt ((up2_at _ _ _ _))
                            have hl_112 : (7 : Int32).toInt = 7 := rfl
                            have hp_113 : ((up2 (up2 j1 36 26 z_97) 36 8 7) 392 (i 36 26).toInt.toNat).toInt = ((i 36 27) : Int32).toInt := congrArg Int32.toInt (((congrFun (up2_n _ _ (by decide)) _).trans ((congrFun (up2_n _ _ (by decide)) _).trans ((hfr_j1 392 ((i 36 26).toInt).toNat (by omega)).trans ((congrFun (up2_n _ _ (by decide)) _).trans ((congrFun (up2_n _ _ (by decide)) _).trans (up2_at _ _ _ _)))))))
                            have hp_114 : ((up2 (up2 j1 36 26 z_97) 36 8 7) 394 (i 36 26).toInt.toNat).toInt = (z_91 : Int32).toInt := congrArg Int32.toInt (((congrFun (up2_n _ _ (by decide)) _).trans ((congrFun (up2_n _ _ (by decide)) _).trans ((hfr_j1 394 ((i 36 26).toInt).toNat (by omega)).trans (up2_at _ _ _ _)))))
                            have hbe9 := brs_end (f := i 380) (a := (i 36 4).toInt) (b := (i 36 4).toInt) (by omega)
                            have hV_115 : ((0 : Int32).toInt = 3 ∧ (wid (lnL (i 380) 0 (i 36 4).toInt) < 1 ∨ 4 < wid (lnL (i 380) 0 (i 36 4).toInt)) ∧ (up2 (up2 j1 36 26 z_97) 36 8 7) = i) ∨ ((1 ≤ wid (lnL (i 380) 0 (i 36 4).toInt) ∧ wid (lnL (i 380) 0 (i 36 4).toInt) ≤ 4) ∧ (((0 : Int32).toInt = 4 ∧ ¬ rowM i (wid (lnL (i 380) 0 (i 36 4).toInt)) ∧ (up2 (up2 j1 36 26 z_97) 36 8 7) = i) ∨ (rowM i (wid (lnL (i 380) 0 (i 36 4).toInt)) ∧ (((0 : Int32).toInt = 5 ∧ (i 36 26).toInt = 40 ∧ (up2 (up2 j1 36 26 z_97) 36 8 7) = i) ∨ ((0 : Int32).toInt = 0 ∧ (i 36 26).toInt < 40 ∧ rwM i (up2 (up2 j1 36 26 z_97) 36 8 7) (wid (lnL (i 380) 0 (i 36 4).toInt))))))) := (Or.inr ⟨⟨by omega, by omega⟩, Or.inr ⟨hrm, Or.inr ⟨by rfl, by omega, by omega, by omega, by omega, by omega, (fun k hk => ⟨((up2_o _ _ (by omega)).trans ((up2_o _ _ (by omega)).trans ((hfr_j1 392 k (by omega)).trans ((up2_o _ _ (by omega)).trans ((up2_o _ _ (by omega)).trans (up2_o _ _ (by omega))))))), ((up2_o _ _ (by omega)).trans ((up2_o _ _ (by omega)).trans ((hfr_j1 394 k (by omega)).trans ((up2_o _ _ (by omega)).trans ((up2_o _ _ (by omega)).trans (up2_o _ _ (by omega)))))))⟩), (fun b hb => by
                                  have hb9 : b ≠ 26 ∧ b ≠ 8 := ⟨fun e9 => hb (by rw [e9]; decide), fun e9 => hb (by rw [e9]; decide)⟩
                                  exact ((up2_o _ _ (by omega)).trans ((up2_o _ _ (by omega)).trans ((hfr_j1 36 b (by omega)).trans ((up2_o _ _ (by omega)).trans ((up2_o _ _ (by omega)).trans (up2_o _ _ (by omega)))))))), (fun a h1 h2 => by
                                  have h9 : a ≠ 392 ∧ a ≠ 393 ∧ a ≠ 394 ∧ a ≠ 395 ∧ a ≠ 396 := ⟨fun e9 => h2 (by rw [e9]; decide), fun e9 => h2 (by rw [e9]; decide), fun e9 => h2 (by rw [e9]; decide), fun e9 => h2 (by rw [e9]; decide), fun e9 => h2 (by rw [e9]; decide)⟩
                                  exact funext fun b => ((up2_o _ _ (by omega)).trans ((up2_o _ _ (by omega)).trans ((hfr_j1 a b (by omega)).trans ((up2_o _ _ (by omega)).trans ((up2_o _ _ (by omega)).trans (up2_o _ _ (by omega))))))))⟩⟩⟩)
                            exact sj_zret hx hb hr hlocks rfl hS (up2 (up2 j1 36 26 z_97) 36 8 7) ⟨hO_109, (fun a b ha => ((up2_o _ _ (by omega)).trans ((up2_o _ _ (by omega)).trans ((hfr_j1 a b (by omega)).trans ((up2_o _ _ (by omega)).trans ((up2_o _ _ (by omega)).trans (up2_o _ _ (by omega)))))))), ⟨by decide, by decide⟩, hV_115⟩ hH (sj_Knil hK) (Nat.le_of_ble_eq_true rfl) (Nat.le_of_ble_eq_true rfl) dX12_row_236
                        · skip
                          have h_116 := s_nle (rfl : z_94.toInt = _) (rfl : c9.toInt = _) c_95
                          refine lv_iload hx hb dX12_row_152 (lv_at hl 1 rfl) ?_
                          refine lv_istore (lv' := [(6, .int k9), (5, .int c9), (4, .int k9), (3, .int r_20), (2, .int t), (0, .ref (g 36)), (1, .int x)]) hx hb dX12_row_154 hl (by decide) rfl (fun ls hl => ?_)
                          -- loop at 156
                          have lp_117 : ∀ (fuel_lp_117 : Nat) (e9 : Int32) (H : Heap) (locs : List Loc) (ls : Array Slot), (480 - e9.toInt).toNat < fuel_lp_117 → (1 : Int) ≤ e9.toInt ∧ e9.toInt ≤ 480 → k9.toInt ≤ e9.toInt ∧ e9.toInt ≤ (i 36 4).toInt ∧ c9.toInt < t.toInt - 1 → brs (lnL (i 380) e9.toInt (i 36 4).toInt) = t.toInt - 1 - c9.toInt → lv_has ls 7 [(6, .int e9), (5, .int c9), (4, .int k9), (3, .int r_20), (2, .int t), (0, .ref (g 36)), (1, .int x)] → sj_H D A (hwc g ka j1 r L d) H → va_S A s.heap H locs → W p l e (headSpec wsX12_row ({ frames := 2, cells := 0, slots := 0, locals := 49 })).room s m ([.ref (g 36), .int x] : List Value).toArray below meth c H locs 0 0 (MQ below (sj_Qi (S := (Nat → Nat → Int32)) D (fun v u => OkI u ∧ (∀ a b, ¬ ((a = 36 ∧ (b = 8 ∨ b = 26)) ∨ a = 392 ∨ a = 393 ∨ a = 394 ∨ a = 395 ∨ a = 396) → u a b = i a b) ∧ ((0 : Int) ≤ v.toInt ∧ v.toInt ≤ 5) ∧ ((v.toInt = 3 ∧ (wid (lnL (i 380) 0 (i 36 4).toInt) < 1 ∨ 4 < wid (lnL (i 380) 0 (i 36 4).toInt)) ∧ u = i) ∨ ((1 ≤ wid (lnL (i 380) 0 (i 36 4).toInt) ∧ wid (lnL (i 380) 0 (i 36 4).toInt) ≤ 4) ∧ ((v.toInt = 4 ∧ ¬ rowM i (wid (lnL (i 380) 0 (i 36 4).toInt)) ∧ u = i) ∨ (rowM i (wid (lnL (i 380) 0 (i 36 4).toInt)) ∧ ((v.toInt = 5 ∧ (i 36 26).toInt = 40 ∧ u = i) ∨ (v.toInt = 0 ∧ (i 36 26).toInt < 40 ∧ rwM i u (wid (lnL (i 380) 0 (i 36 4).toInt))))))))) (fun u => hwc g ka u r L d) (fun _ => []) A) ([.ref (g 36), .int x] : List Value).toArray s 0 0 A) (F0 m 156 ls []) := by
                            intro fuel_lp_117
                            induction fuel_lp_117 with
                            | zero => intros; omega
                            | succ fuel_lp_117 ih_lp_117 =>
                              intro e9 H locs ls hm hr_e9 hi_lp_117_0 hi_lp_117_1 hl hH hS
                              have he9 : e9.toInt < (i 36 4).toInt := by
                                rcases Int.lt_or_le e9.toInt (i 36 4).toInt with h9 | h9
                                · exact h9
                                · exfalso
                                  have := brs_end (f := i 380) (a := e9.toInt) (b := (i 36 4).toInt) h9
                                  omega
                              refine lv_aload_n hx hb dX12_row_156 rfl (lv_at hl 5 rfl) ?_
                              refine h_getr (ci := 12) (C := RX12) (F := TX12) (N := 86) hx hb hts in12 hown hK hH (by decide) (rfl : kd 36 = 12) (by decide) rfl 3 (by decide) wd1 (fun _ h9 => h9) (by decide) rfl (t := 380) (hR 36 3 rfl) (by decide) dX12_row_157 ?_
                              refine lv_iload hx hb dX12_row_160 (lv_at hl 0 rfl) ?_
                              have bx_118 : (0 : Int) ≤ (i 380 (e9.toInt).toNat).toInt ∧ (i 380 (e9.toInt).toNat).toInt ≤ 65535 := hO 380 (e9.toInt).toNat
                              have hbs_119 := brs_s (f := i 380) (a := e9.toInt) (b := (i 36 4).toInt) (by omega) (by omega)
                              have hbn_120 := brs_0 (lnL (i 380) (e9.toInt + 1) (i 36 4).toInt)
                              refine h_cald hx hb hK hH (by decide) (rfl : kd 380 = 14) (s_vin (N := 480) (rfl : e9.toInt = _) (rfl : ln 380 = 480) (by omega) (by omega)) dX12_row_162 ?_
                              have ek_121 : e9.toNatClampNeg = (e9.toInt).toNat := (s_cl (show e9.toInt = e9.toInt by omega))
                              refine sj_i (y := (i 380 (e9.toInt).toNat)) (by rw [ek_121]; exact ((hfr_j1 380 (e9.toInt).toNat (by omega)).trans ((congrFun (up2_n _ _ (by decide)) _).trans ((congrFun (up2_n _ _ (by decide)) _).trans (congrFun (up2_n _ _ (by decide)) _))))) ?_
                              refine lv_bipush (v := 124) hx hb dX12_row_163 (by decide) ?_
                              refine lv_icmp_eq (tgt := 174) hx hb dX12_row_165 (by decide) (fun c_122 => ?_) (fun c_122 => ?_)
                              · skip
                                have h_123 := s_eq (rfl : (i 380 (e9.toInt).toNat).toInt = _) (show (124 : Int32).toInt = 124 from rfl) c_122
                                refine lv_aload_n hx hb dX12_row_174 rfl (lv_at hl 5 rfl) ?_
                                refine lv_iconst (v := 4) hx hb dX12_row_175 (by decide) ?_
                                refine lv_aload_n hx hb dX12_row_176 rfl (lv_at hl 5 rfl) ?_
                                refine h_geti (ci := 12) (C := RX12) (F := TX12) (N := 86) hx hb hts in12 hown hK hH (by decide) (rfl : kd 36 = 12) (by decide) rfl 26 (by decide) wd3 (fun _ h9 => h9) (by decide) rfl dX12_row_177 ?_
                                refine sj_i (y := (i 36 26)) ((hfr_j1 36 26 (by omega)).trans ((congrFun (up2_n _ _ (by decide)) _).trans ((congrFun (up2_n _ _ (by decide)) _).trans (congrFun (up2_n _ _ (by decide)) _)))) ?_
                                refine lv_imul hx hb dX12_row_180 ?_
                                obtain ⟨z_124, ez_124, hz_124⟩ := s_mul (show (4 : Int32).toInt = 4 from rfl) (rfl : (i 36 26).toInt = _) (by omega) (by omega)
                                refine sj_i ez_124 ?_
                                refine lv_iload hx hb dX12_row_181 (lv_at hl 1 rfl) ?_
                                refine lv_iadd hx hb dX12_row_183 ?_
                                obtain ⟨z_125, ez_125, hz_125⟩ := s_add (rfl : z_124.toInt = _) (rfl : c9.toInt = _) (by omega) (by omega)
                                refine sj_i ez_125 ?_
                                refine lv_iload hx hb dX12_row_184 (lv_at hl 2 rfl) ?_
                                refine lv_iload hx hb dX12_row_186 (lv_at hl 0 rfl) ?_
                                refine x_callv (va_runV (As := [.int z_125, .int k9, .int e9]) (rest := []) ⟨hx, hb, hml, hown, hts⟩ (m_cut l D g ka ad j1 r L d z_125 k9 e9 hO_j1 hR H.size (by first | omega | decide) (by first | omega | decide) (by first | omega | decide) (by first | omega | decide) (by first | omega | decide)) (cwV 3 hts gX12_row_X12_cut rfl rfl rfl (by decide +kernel) ⟨(Nat.le_of_ble_eq_true rfl), (Nat.le_of_ble_eq_true rfl)⟩) (x_preV (q := (RX12, TX12, 86)) hH hK (q_obj (by decide) (rfl : kd 36 = 12) (by decide)) rfl gxb (gxw hE hS (x_F hH hS hA))) rfl rfl hl.1 rfl (lv_room (Nat.le_of_ble_eq_true rfl)) dX12_row_188 ⟨(Nat.le_of_ble_eq_true rfl), (Nat.le_of_ble_eq_true rfl)⟩) hH hS hA rfl rfl (fun im_128 H locs hw_127 hH hS => ?_)
                                have hH : sj_H D A (hwc g ka im_128 r L d) H := hH
                                obtain ⟨hO_130, hfr_129⟩ := hw_127
                                refine lv_iload hx hb dX12_row_191 (lv_at hl 0 rfl) ?_
                                refine lv_iconst (v := 1) hx hb dX12_row_193 (by decide) ?_
                                refine lv_iadd hx hb dX12_row_194 ?_
                                obtain ⟨z_131, ez_131, hz_131⟩ := s_add (rfl : e9.toInt = _) (show (1 : Int32).toInt = 1 from rfl) (by omega) (by omega)
                                refine sj_i ez_131 ?_
                                refine lv_istore (lv' := [(4, .int z_131), (6, .int e9), (5, .int c9), (3, .int r_20), (2, .int t), (0, .ref (g 36)), (1, .int x)]) hx hb dX12_row_195 hl (by decide) rfl (fun ls hl => ?_)
                                obtain ⟨z_132, ez_132, hz_132⟩ := s_add (rfl : c9.toInt = _) (show (1 : Int32).toInt = 1 from rfl) (by omega) (by omega)
                                refine lv_iinc (v := z_132) (lv' := [(5, .int z_132), (4, .int z_131), (6, .int e9), (3, .int r_20), (2, .int t), (0, .ref (g 36)), (1, .int x)]) hx hb dX12_row_197 hl (k := 2) rfl ez_132 (by decide) rfl (fun ls hl => ?_)
                                refine lv_goto (tgt := 144) hx hb dX12_row_200 (by decide) ?_
                                exact ih_lp_93 z_131 z_132 _ _ _ ls (by omega) (by omega) (by omega) (by omega) (by rw [show (z_131).toInt = e9.toInt + 1 by omega]; omega) hO_130 (fun a b ha => ((hfr_129 a b (by omega)).trans (hfr_j1 a b (by omega)))) (lv_sub hl [0, 1, 3, 4, 5, 6] rfl) hH hS
                              · skip
                                have h_133 := s_ne (rfl : (i 380 (e9.toInt).toNat).toInt = _) (show (124 : Int32).toInt = 124 from rfl) c_122
                                obtain ⟨z_134, ez_134, hz_134⟩ := s_add (rfl : e9.toInt = _) (show (1 : Int32).toInt = 1 from rfl) (by omega) (by omega)
                                refine lv_iinc (v := z_134) (lv' := [(6, .int z_134), (5, .int c9), (4, .int k9), (3, .int r_20), (2, .int t), (0, .ref (g 36)), (1, .int x)]) hx hb dX12_row_168 hl (k := 0) rfl ez_134 (by decide) rfl (fun ls hl => ?_)
                                refine lv_goto (tgt := 156) hx hb dX12_row_171 (by decide) ?_
                                exact ih_lp_117 z_134 _ _ ls (by omega) (by omega) (by omega) (by rw [show (z_134).toInt = e9.toInt + 1 by omega]; omega) (lv_sub hl [0, 1, 2, 3, 4, 5, 6] rfl) hH hS
                          exact lp_117 _ k9 _ _ ls (Nat.lt_succ_self _) (by omega) (by omega) (by omega) (lv_sub hl [0, 1, 2, 3, 4, 5, 6] rfl) hH hS
                    have hl_135 : (1 : Int32).toInt = 1 := rfl
                    have hl_136 : (0 : Int32).toInt = 0 := rfl
                    exact lp_93 _ 1 0 _ _ _ ls (Nat.lt_succ_self _) (by omega) (by omega) (by omega) (by rw [show (1 : Int32).toInt = 1 from rfl, show (0 : Int32).toInt = 0 from rfl]; omega) hO_92 (fun a b ha => rfl) (lv_sub hl [0, 1, 2, 3, 4, 5] rfl) hH hS
                  · skip
                    have h_137 := s_eq (rfl : (i 36 26).toInt = _) (show (40 : Int32).toInt = 40 from rfl) c_87
                    refine lv_iconst (v := 5) hx hb dX12_row_101 (by decide) ?_
                    have hrm : rowM i (wid (lnL (i 380) 0 (i 36 4).toInt)) := (he_24.elim (fun q9 => Or.inl (by have := q9.2; omega)) (fun q9 => Or.inr ⟨r_20.toInt.toNat, by omega, q9.2.2.1, by have := q9.2.2.2; omega, by have := q9.1; omega⟩))
                    have hV_138 : ((5 : Int32).toInt = 3 ∧ (wid (lnL (i 380) 0 (i 36 4).toInt) < 1 ∨ 4 < wid (lnL (i 380) 0 (i 36 4).toInt)) ∧ i = i) ∨ ((1 ≤ wid (lnL (i 380) 0 (i 36 4).toInt) ∧ wid (lnL (i 380) 0 (i 36 4).toInt) ≤ 4) ∧ (((5 : Int32).toInt = 4 ∧ ¬ rowM i (wid (lnL (i 380) 0 (i 36 4).toInt)) ∧ i = i) ∨ (rowM i (wid (lnL (i 380) 0 (i 36 4).toInt)) ∧ (((5 : Int32).toInt = 5 ∧ (i 36 26).toInt = 40 ∧ i = i) ∨ ((5 : Int32).toInt = 0 ∧ (i 36 26).toInt < 40 ∧ rwM i i (wid (lnL (i 380) 0 (i 36 4).toInt))))))) := (Or.inr ⟨⟨by omega, by omega⟩, Or.inr ⟨hrm, Or.inl ⟨by rfl, by omega, rfl⟩⟩⟩)
                    exact sj_zret hx hb hr hlocks rfl hS i ⟨hO, (fun a b ha => rfl), ⟨by decide, by decide⟩, hV_138⟩ hH (sj_Knil hK) (Nat.le_of_ble_eq_true rfl) (Nat.le_of_ble_eq_true rfl) dX12_row_102
                · skip
                  have h_139 := s_ne (rfl : (i 394 (r_20.toInt).toNat).toInt = _) (rfl : z_83.toInt = _) c_84
                  refine lv_iconst (v := 4) hx hb dX12_row_90 (by decide) ?_
                  have hV_140 : ((4 : Int32).toInt = 3 ∧ (wid (lnL (i 380) 0 (i 36 4).toInt) < 1 ∨ 4 < wid (lnL (i 380) 0 (i 36 4).toInt)) ∧ i = i) ∨ ((1 ≤ wid (lnL (i 380) 0 (i 36 4).toInt) ∧ wid (lnL (i 380) 0 (i 36 4).toInt) ≤ 4) ∧ (((4 : Int32).toInt = 4 ∧ ¬ rowM i (wid (lnL (i 380) 0 (i 36 4).toInt)) ∧ i = i) ∨ (rowM i (wid (lnL (i 380) 0 (i 36 4).toInt)) ∧ (((4 : Int32).toInt = 5 ∧ (i 36 26).toInt = 40 ∧ i = i) ∨ ((4 : Int32).toInt = 0 ∧ (i 36 26).toInt < 40 ∧ rwM i i (wid (lnL (i 380) 0 (i 36 4).toInt))))))) := (Or.inr ⟨⟨by omega, by omega⟩, Or.inl ⟨by rfl, row_no he_24 (by omega) (by omega), rfl⟩⟩)
                  exact sj_zret hx hb hr hlocks rfl hS i ⟨hO, (fun a b ha => rfl), ⟨by decide, by decide⟩, hV_140⟩ hH (sj_Knil hK) (Nat.le_of_ble_eq_true rfl) (Nat.le_of_ble_eq_true rfl) dX12_row_91
            · skip
              have h_141 := s_ne (rfl : (i 380 ((i 36 4).toInt - 1).toNat).toInt = _) (show (124 : Int32).toInt = 124 from rfl) c_17
              refine lv_iconst (v := 3) hx hb dX12_row_63 (by decide) ?_
              have hV_142 : ((3 : Int32).toInt = 3 ∧ (wid (lnL (i 380) 0 (i 36 4).toInt) < 1 ∨ 4 < wid (lnL (i 380) 0 (i 36 4).toInt)) ∧ i = i) ∨ ((1 ≤ wid (lnL (i 380) 0 (i 36 4).toInt) ∧ wid (lnL (i 380) 0 (i 36 4).toInt) ≤ 4) ∧ (((3 : Int32).toInt = 4 ∧ ¬ rowM i (wid (lnL (i 380) 0 (i 36 4).toInt)) ∧ i = i) ∨ (rowM i (wid (lnL (i 380) 0 (i 36 4).toInt)) ∧ (((3 : Int32).toInt = 5 ∧ (i 36 26).toInt = 40 ∧ i = i) ∨ ((3 : Int32).toInt = 0 ∧ (i 36 26).toInt < 40 ∧ rwM i i (wid (lnL (i 380) 0 (i 36 4).toInt))))))) := (Or.inl ⟨by rfl, by omega, rfl⟩)
              exact sj_zret hx hb hr hlocks rfl hS i ⟨hO, (fun a b ha => rfl), ⟨by decide, by decide⟩, hV_142⟩ hH (sj_Knil hK) (Nat.le_of_ble_eq_true rfl) (Nat.le_of_ble_eq_true rfl) dX12_row_64
      · skip
        have h_143 := s_nle (rfl : (i 36 4).toInt = _) (rfl : f.toInt = _) c_4
        refine lv_iload_n hx hb dX12_row_12 rfl (lv_at hl 1 rfl) ?_
        refine lv_aload_n hx hb dX12_row_13 rfl (lv_at hl 2 rfl) ?_
        refine h_getr (ci := 12) (C := RX12) (F := TX12) (N := 86) hx hb hts in12 hown hK hH (by decide) (rfl : kd 36 = 12) (by decide) rfl 3 (by decide) wd1 (fun _ h9 => h9) (by decide) rfl (t := 380) (hR 36 3 rfl) (by decide) dX12_row_14 ?_
        refine lv_iload_n hx hb dX12_row_17 rfl (lv_at hl 0 rfl) ?_
        have bx_144 : (0 : Int) ≤ (i 380 (f.toInt).toNat).toInt ∧ (i 380 (f.toInt).toNat).toInt ≤ 65535 := hO 380 (f.toInt).toNat
        have hbs_145 := brs_s (f := i 380) (a := f.toInt) (b := (i 36 4).toInt) (by omega) (by omega)
        have hbn_146 := brs_0 (lnL (i 380) (f.toInt + 1) (i 36 4).toInt)
        refine h_cald hx hb hK hH (by decide) (rfl : kd 380 = 14) (s_vin (N := 480) (rfl : f.toInt = _) (rfl : ln 380 = 480) (by omega) (by omega)) dX12_row_18 ?_
        have ek_147 : f.toNatClampNeg = (f.toInt).toNat := (s_cl (show f.toInt = f.toInt by omega))
        refine sj_i (y := (i 380 (f.toInt).toNat)) (by rw [ek_147]) ?_
        refine lv_bipush (v := 124) hx hb dX12_row_19 (by decide) ?_
        refine lv_icmp_ne (tgt := 28) hx hb dX12_row_21 (by decide) (fun c_148 => ?_) (fun c_148 => ?_)
        · skip
          have h_149 := s_ne (rfl : (i 380 (f.toInt).toNat).toInt = _) (show (124 : Int32).toInt = 124 from rfl) c_148
          refine lv_iconst (v := 0) hx hb dX12_row_28 (by decide) ?_
          refine lv_iadd hx hb dX12_row_29 ?_
          obtain ⟨z_150, ez_150, hz_150⟩ := s_add (rfl : t.toInt = _) (show (0 : Int32).toInt = 0 from rfl) (by omega) (by omega)
          refine sj_i ez_150 ?_
          refine lv_istore_n (lv' := [(2, .int z_150), (3, .int f), (0, .ref (g 36)), (1, .int x)]) hx hb dX12_row_30 rfl hl (by decide) rfl (fun ls hl => ?_)
          obtain ⟨z_151, ez_151, hz_151⟩ := s_add (rfl : f.toInt = _) (show (1 : Int32).toInt = 1 from rfl) (by omega) (by omega)
          refine lv_iinc (v := z_151) (lv' := [(3, .int z_151), (2, .int z_150), (0, .ref (g 36)), (1, .int x)]) hx hb dX12_row_31 hl (k := 1) rfl ez_151 (by decide) rfl (fun ls hl => ?_)
          refine lv_goto (tgt := 4) hx hb dX12_row_34 (by decide) ?_
          exact ih_lp_2 z_150 z_151 _ _ ls (by omega) (by omega) (by omega) (by omega) (by rw [show (z_151).toInt = f.toInt + 1 by omega]; omega) (lv_sub hl [0, 1, 2, 3] rfl) hH hS
        · skip
          have h_152 := s_eq (rfl : (i 380 (f.toInt).toNat).toInt = _) (show (124 : Int32).toInt = 124 from rfl) c_148
          refine lv_iconst (v := 1) hx hb dX12_row_24 (by decide) ?_
          refine lv_goto (tgt := 29) hx hb dX12_row_25 (by decide) ?_
          refine lv_iadd hx hb dX12_row_29 ?_
          obtain ⟨z_153, ez_153, hz_153⟩ := s_add (rfl : t.toInt = _) (show (1 : Int32).toInt = 1 from rfl) (by omega) (by omega)
          refine sj_i ez_153 ?_
          refine lv_istore_n (lv' := [(2, .int z_153), (3, .int f), (0, .ref (g 36)), (1, .int x)]) hx hb dX12_row_30 rfl hl (by decide) rfl (fun ls hl => ?_)
          obtain ⟨z_154, ez_154, hz_154⟩ := s_add (rfl : f.toInt = _) (show (1 : Int32).toInt = 1 from rfl) (by omega) (by omega)
          refine lv_iinc (v := z_154) (lv' := [(3, .int z_154), (2, .int z_153), (0, .ref (g 36)), (1, .int x)]) hx hb dX12_row_31 hl (k := 1) rfl ez_154 (by decide) rfl (fun ls hl => ?_)
          refine lv_goto (tgt := 4) hx hb dX12_row_34 (by decide) ?_
          exact ih_lp_2 z_153 z_154 _ _ ls (by omega) (by omega) (by omega) (by omega) (by rw [show (z_154).toInt = f.toInt + 1 by omega]; omega) (lv_sub hl [0, 1, 2, 3] rfl) hH hS
  have hl_155 : (0 : Int32).toInt = 0 := rfl
  have hl_156 : (0 : Int32).toInt = 0 := rfl
  exact lp_2 _ 0 0 _ _ ls (Nat.lt_succ_self _) (by omega) (by omega) (by omega) (by rw [show (0 : Int32).toInt = 0 from rfl]; omega) (lv_sub hl [0, 1, 2, 3] rfl) hH hS
