theorem lsz_fr {m u : Nat → Nat → Int32} (h49 : u 36 49 = m 36 49) (h : u 410 = m 410) : lsz u = lsz m := by unfold lsz; rw [h49, h]
theorem dX12_word_0 : decode cX12_word 0 = .ok (.aload_n 0, 1) := by decide +kernel
theorem dX12_word_1 : decode cX12_word 1 = .ok (.getfield 260, 3) := by decide +kernel
theorem dX12_word_4 : decode cX12_word 4 = .ok (.istore_n 2, 1) := by decide +kernel
theorem dX12_word_5 : decode cX12_word 5 = .ok (.aload_n 0, 1) := by decide +kernel
theorem dX12_word_6 : decode cX12_word 6 = .ok (.invokevirtual 278, 3) := by decide +kernel
theorem dX12_word_9 : decode cX12_word 9 = .ok (.aload_n 0, 1) := by decide +kernel
theorem dX12_word_10 : decode cX12_word 10 = .ok (.getfield 269, 3) := by decide +kernel
theorem dX12_word_13 : decode cX12_word 13 = .ok (.aload_n 0, 1) := by decide +kernel
theorem dX12_word_14 : decode cX12_word 14 = .ok (.getfield 272, 3) := by decide +kernel
theorem dX12_word_17 : decode cX12_word 17 = .ok (.if_icmp .ge 80, 3) := by decide +kernel
theorem dX12_word_97 : decode cX12_word 97 = .ok (.aload_n 0, 1) := by decide +kernel
theorem dX12_word_98 : decode cX12_word 98 = .ok (.getfield 266, 3) := by decide +kernel
theorem dX12_word_101 : decode cX12_word 101 = .ok (.aload_n 0, 1) := by decide +kernel
theorem dX12_word_102 : decode cX12_word 102 = .ok (.getfield 260, 3) := by decide +kernel
theorem dX12_word_105 : decode cX12_word 105 = .ok (.iconst 1, 1) := by decide +kernel
theorem dX12_word_106 : decode cX12_word 106 = .ok (.isub, 1) := by decide +kernel
theorem dX12_word_107 : decode cX12_word 107 = .ok (.iaload, 1) := by decide +kernel
theorem dX12_word_108 : decode cX12_word 108 = .ok (.ifCond .ne 5, 3) := by decide +kernel
theorem dX12_word_113 : decode cX12_word 113 = .ok (.aload_n 0, 1) := by decide +kernel
theorem dX12_word_114 : decode cX12_word 114 = .ok (.getfield 260, 3) := by decide +kernel
theorem dX12_word_117 : decode cX12_word 117 = .ok (.iload_n 2, 1) := by decide +kernel
theorem dX12_word_118 : decode cX12_word 118 = .ok (.isub, 1) := by decide +kernel
theorem dX12_word_119 : decode cX12_word 119 = .ok (.iconst 1, 1) := by decide +kernel
theorem dX12_word_120 : decode cX12_word 120 = .ok (.if_icmp .le 17, 3) := by decide +kernel
theorem dX12_word_137 : decode cX12_word 137 = .ok (.iconst 0, 1) := by decide +kernel
theorem dX12_word_138 : decode cX12_word 138 = .ok (.istore_n 3, 1) := by decide +kernel
theorem dX12_word_139 : decode cX12_word 139 = .ok (.iload_n 3, 1) := by decide +kernel
theorem dX12_word_140 : decode cX12_word 140 = .ok (.aload_n 0, 1) := by decide +kernel
theorem dX12_word_141 : decode cX12_word 141 = .ok (.getfield 266, 3) := by decide +kernel
theorem dX12_word_144 : decode cX12_word 144 = .ok (.iload_n 2, 1) := by decide +kernel
theorem dX12_word_145 : decode cX12_word 145 = .ok (.iaload, 1) := by decide +kernel
theorem dX12_word_146 : decode cX12_word 146 = .ok (.if_icmp .ge 28, 3) := by decide +kernel
theorem dX12_word_174 : decode cX12_word 174 = .ok (.iconst 1, 1) := by decide +kernel
theorem dX12_word_175 : decode cX12_word 175 = .ok (.ireturn, 1) := by decide +kernel
theorem dX12_word_149 : decode cX12_word 149 = .ok (.aload_n 0, 1) := by decide +kernel
theorem dX12_word_150 : decode cX12_word 150 = .ok (.iconst 1, 1) := by decide +kernel
theorem dX12_word_151 : decode cX12_word 151 = .ok (.aload_n 0, 1) := by decide +kernel
theorem dX12_word_152 : decode cX12_word 152 = .ok (.getfield 275, 3) := by decide +kernel
theorem dX12_word_155 : decode cX12_word 155 = .ok (.aload_n 0, 1) := by decide +kernel
theorem dX12_word_156 : decode cX12_word 156 = .ok (.getfield 257, 3) := by decide +kernel
theorem dX12_word_159 : decode cX12_word 159 = .ok (.iload_n 2, 1) := by decide +kernel
theorem dX12_word_160 : decode cX12_word 160 = .ok (.iaload, 1) := by decide +kernel
theorem dX12_word_161 : decode cX12_word 161 = .ok (.iload_n 3, 1) := by decide +kernel
theorem dX12_word_162 : decode cX12_word 162 = .ok (.iadd, 1) := by decide +kernel
theorem dX12_word_163 : decode cX12_word 163 = .ok (.caload, 1) := by decide +kernel
theorem dX12_word_164 : decode cX12_word 164 = .ok (.iconst 0, 1) := by decide +kernel
theorem dX12_word_165 : decode cX12_word 165 = .ok (.invokevirtual 285, 3) := by decide +kernel
theorem dX12_word_168 : decode cX12_word 168 = .ok (.iinc 3 1, 3) := by decide +kernel
theorem dX12_word_171 : decode cX12_word 171 = .ok (.goto (-32), 3) := by decide +kernel
theorem dX12_word_123 : decode cX12_word 123 = .ok (.aload_n 0, 1) := by decide +kernel
theorem dX12_word_124 : decode cX12_word 124 = .ok (.iconst 3, 1) := by decide +kernel
theorem dX12_word_125 : decode cX12_word 125 = .ok (.iload_n 2, 1) := by decide +kernel
theorem dX12_word_126 : decode cX12_word 126 = .ok (.aload_n 0, 1) := by decide +kernel
theorem dX12_word_127 : decode cX12_word 127 = .ok (.getfield 260, 3) := by decide +kernel
theorem dX12_word_130 : decode cX12_word 130 = .ok (.iload_n 2, 1) := by decide +kernel
theorem dX12_word_131 : decode cX12_word 131 = .ok (.isub, 1) := by decide +kernel
theorem dX12_word_132 : decode cX12_word 132 = .ok (.invokevirtual 285, 3) := by decide +kernel
theorem dX12_word_135 : decode cX12_word 135 = .ok (.iconst 1, 1) := by decide +kernel
theorem dX12_word_136 : decode cX12_word 136 = .ok (.ireturn, 1) := by decide +kernel
theorem dX12_word_111 : decode cX12_word 111 = .ok (.iconst 0, 1) := by decide +kernel
theorem dX12_word_112 : decode cX12_word 112 = .ok (.ireturn, 1) := by decide +kernel
theorem dX12_word_20 : decode cX12_word 20 = .ok (.aload_n 1, 1) := by decide +kernel
theorem dX12_word_21 : decode cX12_word 21 = .ok (.aload_n 0, 1) := by decide +kernel
theorem dX12_word_22 : decode cX12_word 22 = .ok (.getfield 269, 3) := by decide +kernel
theorem dX12_word_25 : decode cX12_word 25 = .ok (.caload, 1) := by decide +kernel
theorem dX12_word_26 : decode cX12_word 26 = .ok (.invokestatic 288, 3) := by decide +kernel
theorem dX12_word_29 : decode cX12_word 29 = .ok (.ifCond .eq 14, 3) := by decide +kernel
theorem dX12_word_43 : decode cX12_word 43 = .ok (.aload_n 1, 1) := by decide +kernel
theorem dX12_word_44 : decode cX12_word 44 = .ok (.aload_n 0, 1) := by decide +kernel
theorem dX12_word_45 : decode cX12_word 45 = .ok (.getfield 269, 3) := by decide +kernel
theorem dX12_word_48 : decode cX12_word 48 = .ok (.caload, 1) := by decide +kernel
theorem dX12_word_49 : decode cX12_word 49 = .ok (.bipush 47, 2) := by decide +kernel
theorem dX12_word_51 : decode cX12_word 51 = .ok (.if_icmp .ne 36, 3) := by decide +kernel
theorem dX12_word_87 : decode cX12_word 87 = .ok (.aload_n 0, 1) := by decide +kernel
theorem dX12_word_88 : decode cX12_word 88 = .ok (.aload_n 1, 1) := by decide +kernel
theorem dX12_word_89 : decode cX12_word 89 = .ok (.invokevirtual 281, 3) := by decide +kernel
theorem dX12_word_92 : decode cX12_word 92 = .ok (.ifCond .ne (-83), 3) := by decide +kernel
theorem dX12_word_95 : decode cX12_word 95 = .ok (.iconst 0, 1) := by decide +kernel
theorem dX12_word_96 : decode cX12_word 96 = .ok (.ireturn, 1) := by decide +kernel
theorem dX12_word_54 : decode cX12_word 54 = .ok (.aload_n 0, 1) := by decide +kernel
theorem dX12_word_55 : decode cX12_word 55 = .ok (.getfield 266, 3) := by decide +kernel
theorem dX12_word_58 : decode cX12_word 58 = .ok (.aload_n 0, 1) := by decide +kernel
theorem dX12_word_59 : decode cX12_word 59 = .ok (.getfield 260, 3) := by decide +kernel
theorem dX12_word_62 : decode cX12_word 62 = .ok (.iconst 1, 1) := by decide +kernel
theorem dX12_word_63 : decode cX12_word 63 = .ok (.isub, 1) := by decide +kernel
theorem dX12_word_64 : decode cX12_word 64 = .ok (.iaload, 1) := by decide +kernel
theorem dX12_word_65 : decode cX12_word 65 = .ok (.ifCond .ne 5, 3) := by decide +kernel
theorem dX12_word_70 : decode cX12_word 70 = .ok (.aload_n 0, 1) := by decide +kernel
theorem dX12_word_71 : decode cX12_word 71 = .ok (.invokevirtual 278, 3) := by decide +kernel
theorem dX12_word_74 : decode cX12_word 74 = .ok (.aload_n 0, 1) := by decide +kernel
theorem dX12_word_75 : decode cX12_word 75 = .ok (.dup, 1) := by decide +kernel
theorem dX12_word_76 : decode cX12_word 76 = .ok (.getfield 269, 3) := by decide +kernel
theorem dX12_word_79 : decode cX12_word 79 = .ok (.iconst 1, 1) := by decide +kernel
theorem dX12_word_80 : decode cX12_word 80 = .ok (.iadd, 1) := by decide +kernel
theorem dX12_word_81 : decode cX12_word 81 = .ok (.putfield 269, 3) := by decide +kernel
theorem dX12_word_84 : decode cX12_word 84 = .ok (.goto (-75), 3) := by decide +kernel
theorem dX12_word_68 : decode cX12_word 68 = .ok (.iconst 0, 1) := by decide +kernel
theorem dX12_word_69 : decode cX12_word 69 = .ok (.ireturn, 1) := by decide +kernel
theorem dX12_word_32 : decode cX12_word 32 = .ok (.aload_n 1, 1) := by decide +kernel
theorem dX12_word_33 : decode cX12_word 33 = .ok (.aload_n 0, 1) := by decide +kernel
theorem dX12_word_34 : decode cX12_word 34 = .ok (.getfield 269, 3) := by decide +kernel
theorem dX12_word_37 : decode cX12_word 37 = .ok (.caload, 1) := by decide +kernel
theorem dX12_word_38 : decode cX12_word 38 = .ok (.bipush 47, 2) := by decide +kernel
theorem dX12_word_40 : decode cX12_word 40 = .ok (.if_icmp .ne 57, 3) := by decide +kernel
theorem gX12_word_X12_openText : GoodIn wsX12_word (wsV RX12 278 RX12 yX12_openText wsX12_openText) := goodIn_app (goodIn_sub (List.forall_mem_cons.mpr ⟨(List.mem_cons_of_mem _ (List.mem_append_left _ (List.mem_append_left _ lm6))), List.forall_mem_cons.mpr ⟨(List.mem_cons_of_mem _ (List.mem_append_left _ (List.mem_append_left _ lm7))), List.forall_mem_cons.mpr ⟨(List.mem_cons_of_mem _ (List.mem_append_left _ (List.mem_append_left _ lm8))), List.forall_mem_cons.mpr ⟨(List.mem_cons_of_mem _ (List.mem_append_left _ (List.mem_append_left _ lm9))), (fun _ h => absurd h List.not_mem_nil)⟩⟩⟩⟩) (by decide +kernel)) (goodIn_sub (by unfold wsX12_openText; exact List.forall_mem_cons.mpr ⟨(List.mem_cons_of_mem _ (List.mem_append_left _ (List.mem_append_left _ lm10))), List.forall_mem_append.mpr ⟨List.forall_mem_cons.mpr ⟨(List.mem_cons_of_mem _ (List.mem_append_left _ (List.mem_append_left _ lm5))), List.forall_mem_cons.mpr ⟨(List.mem_cons_of_mem _ (List.mem_append_left _ (List.mem_append_left _ lm0))), List.forall_mem_cons.mpr ⟨(List.mem_cons_of_mem _ (List.mem_append_left _ (List.mem_append_left _ lm11))), List.forall_mem_cons.mpr ⟨(List.mem_cons_of_mem _ (List.mem_append_left _ (List.mem_append_left _ lm3))), (fun _ h => absurd h List.not_mem_nil)⟩⟩⟩⟩, (fun _ h => (List.mem_cons_of_mem _ (List.mem_append_right _ h)))⟩⟩) gw_X12_openText)
theorem gX12_word_X12_addPart : GoodIn wsX12_word (wsV RX12 285 RX12 yX12_addPart wsX12_addPart) := goodIn_app (goodIn_sub (List.forall_mem_cons.mpr ⟨(List.mem_cons_of_mem _ (List.mem_append_left _ (List.mem_append_left _ lm19))), List.forall_mem_cons.mpr ⟨(List.mem_cons_of_mem _ (List.mem_append_left _ (List.mem_append_left _ lm20))), List.forall_mem_cons.mpr ⟨(List.mem_cons_of_mem _ (List.mem_append_left _ (List.mem_append_left _ lm21))), List.forall_mem_cons.mpr ⟨(List.mem_cons_of_mem _ (List.mem_append_left _ (List.mem_append_left _ lm9))), (fun _ h => absurd h List.not_mem_nil)⟩⟩⟩⟩) (by decide +kernel)) (goodIn_sub (by unfold wsX12_addPart; exact List.forall_mem_cons.mpr ⟨(List.mem_cons_of_mem _ (List.mem_append_left _ (List.mem_append_left _ lm22))), List.forall_mem_append.mpr ⟨List.forall_mem_cons.mpr ⟨(List.mem_cons_of_mem _ (List.mem_append_left _ (List.mem_append_left _ lm23))), List.forall_mem_cons.mpr ⟨(List.mem_cons_of_mem _ (List.mem_append_left _ (List.mem_append_right _ lm0))), List.forall_mem_cons.mpr ⟨(List.mem_cons_of_mem _ (List.mem_append_left _ (List.mem_append_right _ lm1))), List.forall_mem_cons.mpr ⟨(List.mem_cons_of_mem _ (List.mem_append_left _ (List.mem_append_right _ lm2))), (fun _ h => absurd h List.not_mem_nil)⟩⟩⟩⟩, (fun _ h => (List.mem_cons_of_mem _ (List.mem_append_right _ h)))⟩⟩) gw_X12_addPart)
theorem gw_X12_special : wsX12_special.all goodWord = true := by decide +kernel
theorem gX12_word_X12_special : GoodIn wsX12_word (va_wsS RX12 288 yX12_special wsX12_special) := goodIn_app (goodIn_sub (List.forall_mem_cons.mpr ⟨(List.mem_cons_of_mem _ (List.mem_append_left _ (List.mem_append_left _ lm12))), List.forall_mem_cons.mpr ⟨(List.mem_cons_of_mem _ (List.mem_append_left _ (List.mem_append_left _ lm13))), List.forall_mem_cons.mpr ⟨(List.mem_cons_of_mem _ (List.mem_append_left _ (List.mem_append_left _ lm9))), (fun _ h => absurd h List.not_mem_nil)⟩⟩⟩) (by decide +kernel)) (goodIn_sub (by unfold wsX12_special; exact List.forall_mem_cons.mpr ⟨(List.mem_cons_of_mem _ (List.mem_append_left _ (List.mem_append_left _ lm14))), (fun _ h => absurd h List.not_mem_nil)⟩) gw_X12_special)
theorem gX12_word_X12_takeOne : GoodIn wsX12_word (wsV RX12 281 RX12 yX12_takeOne wsX12_takeOne) := goodIn_app (goodIn_sub (List.forall_mem_cons.mpr ⟨(List.mem_cons_of_mem _ (List.mem_append_left _ (List.mem_append_left _ lm15))), List.forall_mem_cons.mpr ⟨(List.mem_cons_of_mem _ (List.mem_append_left _ (List.mem_append_left _ lm16))), List.forall_mem_cons.mpr ⟨(List.mem_cons_of_mem _ (List.mem_append_left _ (List.mem_append_left _ lm17))), List.forall_mem_cons.mpr ⟨(List.mem_cons_of_mem _ (List.mem_append_left _ (List.mem_append_left _ lm9))), (fun _ h => absurd h List.not_mem_nil)⟩⟩⟩⟩) (by decide +kernel)) (goodIn_sub (by unfold wsX12_takeOne; exact List.forall_mem_cons.mpr ⟨(List.mem_cons_of_mem _ (List.mem_append_left _ (List.mem_append_left _ lm18))), List.forall_mem_append.mpr ⟨List.forall_mem_cons.mpr ⟨(List.mem_cons_of_mem _ (List.mem_append_left _ (List.mem_append_left _ lm1))), List.forall_mem_cons.mpr ⟨(List.mem_cons_of_mem _ (List.mem_append_left _ (List.mem_append_left _ lm2))), List.forall_mem_cons.mpr ⟨(List.mem_cons_of_mem _ (List.mem_append_left _ (List.mem_append_left _ lm4))), List.forall_mem_cons.mpr ⟨(List.mem_cons_of_mem _ (List.mem_append_left _ (List.mem_append_left _ lm11))), List.forall_mem_cons.mpr ⟨(List.mem_cons_of_mem _ (List.mem_append_left _ (List.mem_append_left _ lm3))), List.forall_mem_cons.mpr ⟨(List.mem_cons_of_mem _ (List.mem_append_left _ (List.mem_append_left _ lm0))), (fun _ h => absurd h List.not_mem_nil)⟩⟩⟩⟩⟩⟩, (fun _ h => (List.mem_cons_of_mem _ (List.mem_append_right _ h)))⟩⟩) gw_X12_takeOne)
set_option maxHeartbeats 2000000 in
set_option maxRecDepth 100000 in
theorem m_word_T (l : Launch) (D : va_G) (g : Nat → Nat) (ka : Nat → ClassId) (ad : Nat → Nat) (i : Nat → Nat → Int32) (r : Nat → Nat → Nat) (L : Nat → Nat → Int64) (d : Nat → Nat → UInt64)  (hO : OkI i) (hR : RS r) (sz : Nat) (hpu : (i 36 54).toInt < (i 36 55).toInt) (hul : (i 36 55).toInt ≤ 480) (ht : (i 36 49).toInt + ((i 36 55).toInt - (i 36 54).toInt) ≤ 63) (hp : (i 36 45).toInt + ((i 36 55).toInt - (i 36 54).toInt) ≤ 64) (hpo : (i 36 52).toInt + ((i 36 55).toInt - (i 36 54).toInt) ≤ 64) (hex : exI i) : Met l yX12_word wsX12_word ({ frames := 1, cells := 0, slots := 0, locals := 23 }) (va_Pc [.ref (g 36), .ref (g 379)] (sj_B D (hwc g ka i r L d) (hT ka) sz (gx ad (va_A (hwc g ka i r L d) sz)))) (sj_Qi (S := (Nat → Nat → Int32)) D (fun v u => OkI u ∧ (∀ a b, ¬ ((a = 36 ∧ (b = 45 ∨ b = 49 ∨ b = 52 ∨ b = 54)) ∨ a = 406 ∨ a = 407 ∨ a = 408 ∨ a = 409 ∨ a = 410 ∨ a = 411) → u a b = i a b) ∧ ((0 : Int) ≤ v.toInt ∧ v.toInt ≤ 1) ∧ ((v.toInt = 1 ∧ wdL (lnL (i 379) (i 36 54).toInt (i 36 55).toInt) 0 = some (lnL (i 379) (u 36 54).toInt (i 36 55).toInt) ∧ (i 36 54).toInt + 1 ≤ (u 36 54).toInt ∧ (u 36 54).toInt ≤ (i 36 55).toInt ∧ (u 36 45).toInt - (i 36 45).toInt ≤ (u 36 54).toInt - (i 36 54).toInt ∧ (u 36 49).toInt - (i 36 49).toInt ≤ (u 36 54).toInt - (i 36 54).toInt ∧ (u 36 52).toInt - (i 36 52).toInt ≤ (u 36 54).toInt - (i 36 54).toInt ∧ c4 u = c4 i ∧ exI u) ∨ (v.toInt = 0 ∧ wdL (lnL (i 379) (i 36 54).toInt (i 36 55).toInt) 0 = none))) (fun u => hwc g ka u r L d) (fun _ => []) (va_A (hwc g ka i r L d) sz)) 0 0 (va_A (hwc g ka i r L d) sz) := by
  refine x_met (Ex := gx ad) (cc := cX12_word) (maxL := 4) (ret := (some .boolean)) (by decide) rfl (Nat.le_of_ble_eq_true rfl) ?_
  intro p e s m below meth c A ls hx hb hr hml hts hown hlocks hA hS hH hK hE hl
  have hown : s.vm.findClass RX12 = some m.cls := hown
  have in12 : ∀ w ∈ wsX120, w ∈ wsX12_word := (fun _ h => (List.mem_cons_of_mem _ (List.mem_append_right _ h)))
  have wd0 := hts (.fieldLink RX12 260 "StoryDeskModel" "texts" "I") (List.mem_cons_of_mem _ (List.mem_append_left _ (List.mem_append_left _ lm0)))
  have wd1 := hts (.fieldLink RX12 269 "StoryDeskModel" "place" "I") (List.mem_cons_of_mem _ (List.mem_append_left _ (List.mem_append_left _ lm1)))
  have wd2 := hts (.fieldLink RX12 272 "StoryDeskModel" "until" "I") (List.mem_cons_of_mem _ (List.mem_append_left _ (List.mem_append_left _ lm2)))
  have wd3 := hts (.fieldLink RX12 266 "StoryDeskModel" "textSize" "[I") (List.mem_cons_of_mem _ (List.mem_append_left _ (List.mem_append_left _ lm3)))
  have wd4 := hts (.fieldLink RX12 275 "StoryDeskModel" "pool" "[C") (List.mem_cons_of_mem _ (List.mem_append_left _ (List.mem_append_left _ lm4)))
  have wd5 := hts (.fieldLink RX12 257 "StoryDeskModel" "textAt" "[I") (List.mem_cons_of_mem _ (List.mem_append_left _ (List.mem_append_left _ lm5)))
  have hl : lv_has ls 4 [(0, .ref (g 36)), (1, .ref (g 379))] := hl
  have hK : va_K D vwCl (hT ka) s := hK
  have hx45 : (0 : Int) ≤ (i 36 45).toInt ∧ (i 36 45).toInt ≤ 64 := hO 36 45
  have hx49 : (0 : Int) ≤ (i 36 49).toInt ∧ (i 36 49).toInt ≤ 64 := hO 36 49
  have hx52 : (0 : Int) ≤ (i 36 52).toInt ∧ (i 36 52).toInt ≤ 64 := hO 36 52
  have hx54 : (0 : Int) ≤ (i 36 54).toInt ∧ (i 36 54).toInt ≤ 720 := hO 36 54
  have hx55 : (0 : Int) ≤ (i 36 55).toInt ∧ (i 36 55).toInt ≤ 720 := hO 36 55
  refine lv_aload_n hx hb dX12_word_0 rfl (lv_at hl 0 rfl) ?_
  have bx_1 : (0 : Int) ≤ (i 36 49).toInt ∧ (i 36 49).toInt ≤ 64 := hO 36 49
  refine h_geti (ci := 12) (C := RX12) (F := TX12) (N := 86) hx hb hts in12 hown hK hH (by decide) (rfl : kd 36 = 12) (by decide) rfl 49 (by decide) wd0 (fun _ h9 => h9) (by decide) rfl dX12_word_1 ?_
  refine lv_istore_n (lv' := [(2, .int (i 36 49)), (0, .ref (g 36)), (1, .ref (g 379))]) hx hb dX12_word_4 rfl hl (by decide) rfl (fun ls hl => ?_)
  refine lv_aload_n hx hb dX12_word_5 rfl (lv_at hl 1 rfl) ?_
  refine x_callv (va_runV (As := []) (rest := []) ⟨hx, hb, hml, hown, hts⟩ (m_openText l D g ka ad i r L d  hO hR s.heap.size (by first | omega | decide) hex) (cwV 0 hts gX12_word_X12_openText rfl rfl rfl (by decide +kernel) ⟨(Nat.le_of_ble_eq_true rfl), (Nat.le_of_ble_eq_true rfl)⟩) (x_preV (q := (RX12, TX12, 86)) hH hK (q_obj (by decide) (rfl : kd 36 = 12) (by decide)) rfl gxb (gxw hE hS (x_F hH hS hA))) rfl rfl hl.1 rfl (lv_room (Nat.le_of_ble_eq_true rfl)) dX12_word_6 ⟨(Nat.le_of_ble_eq_true rfl), (Nat.le_of_ble_eq_true rfl)⟩) hH hS hA rfl rfl (fun im_4 H locs hw_3 hH hS => ?_)
  have hH : sj_H D A (hwc g ka im_4 r L d) H := hH
  obtain ⟨hO_6, hfr_5, hx2_7, hx2_8, hx2_9, hx2_10⟩ := hw_3
  have hot_11 := hx2_8
  have hot_12 := hx2_9
  -- loop at 9
  have lp_13 : ∀ (fuel_lp_13 : Nat)  (j1 : Nat → Nat → Int32) (H : Heap) (locs : List Loc) (ls : Array Slot), ((i 36 55).toInt - (j1 36 54).toInt).toNat < fuel_lp_13 → ((i 36 54).toInt ≤ (j1 36 54).toInt ∧ (j1 36 54).toInt ≤ (i 36 55).toInt) ∧ (j1 36 52).toInt - (i 36 52).toInt ≤ (j1 36 54).toInt - (i 36 54).toInt ∧ (i 36 49).toInt + 1 ≤ (j1 36 49).toInt ∧ 0 ≤ lsz j1 ∧ 2 * ((j1 36 49).toInt - (i 36 49).toInt - 1) + lsz j1 ≤ (j1 36 54).toInt - (i 36 54).toInt → wdL (lnL (i 379) (i 36 54).toInt (i 36 55).toInt) 0 = wdL (lnL (i 379) (j1 36 54).toInt (i 36 55).toInt) (lsz j1) → exI j1 → OkI j1 → (∀ a b, ¬ ((a = 36 ∧ (b = 49 ∨ b = 52 ∨ b = 54)) ∨ a = 409 ∨ a = 410 ∨ a = 411) → j1 a b = im_4 a b) → lv_has ls 4 [(2, .int (i 36 49)), (0, .ref (g 36)), (1, .ref (g 379))] → sj_H D A (hwc g ka j1 r L d) H → va_S A s.heap H locs → W p l e (headSpec wsX12_word ({ frames := 1, cells := 0, slots := 0, locals := 23 })).room s m ([.ref (g 36), .ref (g 379)] : List Value).toArray below meth c H locs 0 0 (MQ below (sj_Qi (S := (Nat → Nat → Int32)) D (fun v u => OkI u ∧ (∀ a b, ¬ ((a = 36 ∧ (b = 45 ∨ b = 49 ∨ b = 52 ∨ b = 54)) ∨ a = 406 ∨ a = 407 ∨ a = 408 ∨ a = 409 ∨ a = 410 ∨ a = 411) → u a b = i a b) ∧ ((0 : Int) ≤ v.toInt ∧ v.toInt ≤ 1) ∧ ((v.toInt = 1 ∧ wdL (lnL (i 379) (i 36 54).toInt (i 36 55).toInt) 0 = some (lnL (i 379) (u 36 54).toInt (i 36 55).toInt) ∧ (i 36 54).toInt + 1 ≤ (u 36 54).toInt ∧ (u 36 54).toInt ≤ (i 36 55).toInt ∧ (u 36 45).toInt - (i 36 45).toInt ≤ (u 36 54).toInt - (i 36 54).toInt ∧ (u 36 49).toInt - (i 36 49).toInt ≤ (u 36 54).toInt - (i 36 54).toInt ∧ (u 36 52).toInt - (i 36 52).toInt ≤ (u 36 54).toInt - (i 36 54).toInt ∧ c4 u = c4 i ∧ exI u) ∨ (v.toInt = 0 ∧ wdL (lnL (i 379) (i 36 54).toInt (i 36 55).toInt) 0 = none))) (fun u => hwc g ka u r L d) (fun _ => []) A) ([.ref (g 36), .ref (g 379)] : List Value).toArray s 0 0 A) (F0 m 9 ls []) := by
    intro fuel_lp_13
    induction fuel_lp_13 with
    | zero => intros; omega
    | succ fuel_lp_13 ih_lp_13 =>
      intro j1 H locs ls hm hi_lp_13_0 hi_lp_13_1 hi_lp_13_2 hO_j1 hfr_j1 hl hH hS
      refine lv_aload_n hx hb dX12_word_9 rfl (lv_at hl 1 rfl) ?_
      have bx_14 : (0 : Int) ≤ (j1 36 54).toInt ∧ (j1 36 54).toInt ≤ 720 := hO_j1 36 54
      refine h_geti (ci := 12) (C := RX12) (F := TX12) (N := 86) hx hb hts in12 hown hK hH (by decide) (rfl : kd 36 = 12) (by decide) rfl 54 (by decide) wd1 (fun _ h9 => h9) (by decide) rfl dX12_word_10 ?_
      refine lv_aload_n hx hb dX12_word_13 rfl (lv_at hl 1 rfl) ?_
      have bx_15 : (0 : Int) ≤ (i 36 55).toInt ∧ (i 36 55).toInt ≤ 720 := hO 36 55
      refine h_geti (ci := 12) (C := RX12) (F := TX12) (N := 86) hx hb hts in12 hown hK hH (by decide) (rfl : kd 36 = 12) (by decide) rfl 55 (by decide) wd2 (fun _ h9 => h9) (by decide) rfl dX12_word_14 ?_
      refine sj_i (y := (i 36 55)) ((hfr_j1 36 55 (by omega)).trans (hfr_5 36 55 (by omega))) ?_
      refine lv_icmp_ge (tgt := 97) hx hb dX12_word_17 (by decide) (fun c_16 => ?_) (fun c_16 => ?_)
      · skip
        have h_17 := s_le (rfl : (i 36 55).toInt = _) (rfl : (j1 36 54).toInt = _) c_16
        refine lv_aload_n hx hb dX12_word_97 rfl (lv_at hl 1 rfl) ?_
        refine h_getr (ci := 12) (C := RX12) (F := TX12) (N := 86) hx hb hts in12 hown hK hH (by decide) (rfl : kd 36 = 12) (by decide) rfl 51 (by decide) wd3 (fun _ h9 => h9) (by decide) rfl (t := 410) (hR 36 51 rfl) (by decide) dX12_word_98 ?_
        refine lv_aload_n hx hb dX12_word_101 rfl (lv_at hl 1 rfl) ?_
        have bx_18 : (0 : Int) ≤ (j1 36 49).toInt ∧ (j1 36 49).toInt ≤ 64 := hO_j1 36 49
        refine h_geti (ci := 12) (C := RX12) (F := TX12) (N := 86) hx hb hts in12 hown hK hH (by decide) (rfl : kd 36 = 12) (by decide) rfl 49 (by decide) wd0 (fun _ h9 => h9) (by decide) rfl dX12_word_102 ?_
        refine lv_iconst (v := 1) hx hb dX12_word_105 (by decide) ?_
        refine lv_isub hx hb dX12_word_106 ?_
        obtain ⟨z_19, ez_19, hz_19⟩ := s_sub (rfl : (j1 36 49).toInt = _) (show (1 : Int32).toInt = 1 from rfl) (by omega) (by omega)
        refine sj_i ez_19 ?_
        have hls_20 : lsz j1 = ((j1 410 ((j1 36 49).toInt - 1).toNat) : Int32).toInt := by unfold lsz; rw [show j1 36 49 = (j1 36 49) from rfl]; try exact congrArg Int32.toInt (rfl)
        refine h_iald hx hb hK hH (by decide) (rfl : kd 410 = 13) (s_vin (N := 64) (rfl : z_19.toInt = _) (rfl : ln 410 = 64) (by omega) (by omega)) dX12_word_107 ?_
        have ek_21 : z_19.toNatClampNeg = ((j1 36 49).toInt - 1).toNat := (s_cl (show z_19.toInt = (j1 36 49).toInt - 1 by omega))
        refine sj_i (y := (j1 410 ((j1 36 49).toInt - 1).toNat)) (by rw [ek_21]) ?_
        refine lv_if_ne (tgt := 113) hx hb dX12_word_108 (by decide) (fun c_22 => ?_) (fun c_22 => ?_)
        · skip
          have h_23 := s_ne (rfl : (j1 410 ((j1 36 49).toInt - 1).toNat).toInt = _) (show (0 : Int32).toInt = 0 from rfl) c_22
          refine lv_aload_n hx hb dX12_word_113 rfl (lv_at hl 1 rfl) ?_
          refine h_geti (ci := 12) (C := RX12) (F := TX12) (N := 86) hx hb hts in12 hown hK hH (by decide) (rfl : kd 36 = 12) (by decide) rfl 49 (by decide) wd0 (fun _ h9 => h9) (by decide) rfl dX12_word_114 ?_
          refine lv_iload_n hx hb dX12_word_117 rfl (lv_at hl 0 rfl) ?_
          refine lv_isub hx hb dX12_word_118 ?_
          obtain ⟨z_24, ez_24, hz_24⟩ := s_sub (rfl : (j1 36 49).toInt = _) (rfl : (i 36 49).toInt = _) (by omega) (by omega)
          refine sj_i ez_24 ?_
          refine lv_iconst (v := 1) hx hb dX12_word_119 (by decide) ?_
          refine lv_icmp_le (tgt := 137) hx hb dX12_word_120 (by decide) (fun c_25 => ?_) (fun c_25 => ?_)
          · skip
            have h_26 := s_le (rfl : z_24.toInt = _) (show (1 : Int32).toInt = 1 from rfl) c_25
            have hl9 : (j1 410 (i 36 49).toInt.toNat).toInt = lsz j1 := by unfold lsz; rw [show ((j1 36 49).toInt - 1).toNat = (i 36 49).toInt.toNat by omega]
            have hw9 := hi_lp_13_2.2 (i 36 49).toInt.toNat (by omega)
            have hw1 := hw9.1
            have hw2 := hw9.2.1
            have hw3 := hw9.2.2
            have hx52j : (0 : Int) ≤ (j1 36 52).toInt ∧ (j1 36 52).toInt ≤ 64 := hO_j1 36 52
            refine lv_iconst (v := 0) hx hb dX12_word_137 (by decide) ?_
            refine lv_istore_n (lv' := [(3, .int 0), (2, .int (i 36 49)), (0, .ref (g 36)), (1, .ref (g 379))]) hx hb dX12_word_138 rfl hl (by decide) rfl (fun ls hl => ?_)
            -- loop at 139
            have lp_27 : ∀ (fuel_lp_27 : Nat) (k9 : Int32) (j2 : Nat → Nat → Int32) (H : Heap) (locs : List Loc) (ls : Array Slot), (64 - k9.toInt).toNat < fuel_lp_27 → (0 : Int) ≤ k9.toInt ∧ k9.toInt ≤ 64 → (j2 36 45).toInt = (i 36 45).toInt + k9.toInt ∧ k9.toInt ≤ lsz j1 → c4 j2 = c4 i → exI j2 → OkI j2 → (∀ a b, ¬ ((a = 36 ∧ (b = 45)) ∨ a = 406 ∨ a = 407 ∨ a = 408) → j2 a b = j1 a b) → lv_has ls 4 [(3, .int k9), (2, .int (i 36 49)), (0, .ref (g 36)), (1, .ref (g 379))] → sj_H D A (hwc g ka j2 r L d) H → va_S A s.heap H locs → W p l e (headSpec wsX12_word ({ frames := 1, cells := 0, slots := 0, locals := 23 })).room s m ([.ref (g 36), .ref (g 379)] : List Value).toArray below meth c H locs 0 0 (MQ below (sj_Qi (S := (Nat → Nat → Int32)) D (fun v u => OkI u ∧ (∀ a b, ¬ ((a = 36 ∧ (b = 45 ∨ b = 49 ∨ b = 52 ∨ b = 54)) ∨ a = 406 ∨ a = 407 ∨ a = 408 ∨ a = 409 ∨ a = 410 ∨ a = 411) → u a b = i a b) ∧ ((0 : Int) ≤ v.toInt ∧ v.toInt ≤ 1) ∧ ((v.toInt = 1 ∧ wdL (lnL (i 379) (i 36 54).toInt (i 36 55).toInt) 0 = some (lnL (i 379) (u 36 54).toInt (i 36 55).toInt) ∧ (i 36 54).toInt + 1 ≤ (u 36 54).toInt ∧ (u 36 54).toInt ≤ (i 36 55).toInt ∧ (u 36 45).toInt - (i 36 45).toInt ≤ (u 36 54).toInt - (i 36 54).toInt ∧ (u 36 49).toInt - (i 36 49).toInt ≤ (u 36 54).toInt - (i 36 54).toInt ∧ (u 36 52).toInt - (i 36 52).toInt ≤ (u 36 54).toInt - (i 36 54).toInt ∧ c4 u = c4 i ∧ exI u) ∨ (v.toInt = 0 ∧ wdL (lnL (i 379) (i 36 54).toInt (i 36 55).toInt) 0 = none))) (fun u => hwc g ka u r L d) (fun _ => []) A) ([.ref (g 36), .ref (g 379)] : List Value).toArray s 0 0 A) (F0 m 139 ls []) := by
              intro fuel_lp_27
              induction fuel_lp_27 with
              | zero => intros; omega
              | succ fuel_lp_27 ih_lp_27 =>
                intro k9 j2 H locs ls hm hr_k9 hi_lp_27_0 hi_lp_27_1 hi_lp_27_2 hO_j2 hfr_j2 hl hH hS
                refine lv_iload_n hx hb dX12_word_139 rfl (lv_at hl 0 rfl) ?_
                refine lv_aload_n hx hb dX12_word_140 rfl (lv_at hl 2 rfl) ?_
                refine h_getr (ci := 12) (C := RX12) (F := TX12) (N := 86) hx hb hts in12 hown hK hH (by decide) (rfl : kd 36 = 12) (by decide) rfl 51 (by decide) wd3 (fun _ h9 => h9) (by decide) rfl (t := 410) (hR 36 51 rfl) (by decide) dX12_word_141 ?_
                refine lv_iload_n hx hb dX12_word_144 rfl (lv_at hl 1 rfl) ?_
                refine h_iald hx hb hK hH (by decide) (rfl : kd 410 = 13) (s_vin (N := 64) (rfl : (i 36 49).toInt = _) (rfl : ln 410 = 64) (by omega) (by omega)) dX12_word_145 ?_
                have ek_28 : (i 36 49).toNatClampNeg = ((i 36 49).toInt).toNat := (s_cl (show (i 36 49).toInt = (i 36 49).toInt by omega))
                refine sj_i (y := (j1 410 ((i 36 49).toInt).toNat)) (by rw [ek_28]; exact (hfr_j2 410 ((i 36 49).toInt).toNat (by omega))) ?_
                refine lv_icmp_ge (tgt := 174) hx hb dX12_word_146 (by decide) (fun c_29 => ?_) (fun c_29 => ?_)
                · skip
                  have h_30 := s_le (rfl : (j1 410 ((i 36 49).toInt).toNat).toInt = _) (rfl : k9.toInt = _) c_29
                  refine lv_iconst (v := 1) hx hb dX12_word_174 (by decide) ?_
                  have hp_31 : (j2 36 54).toInt = ((j1 36 54) : Int32).toInt := congrArg Int32.toInt ((hfr_j2 36 54 (by omega)))
                  have hp_32 : (j2 36 52).toInt = ((j1 36 52) : Int32).toInt := congrArg Int32.toInt ((hfr_j2 36 52 (by omega)))
                  have hp_33 : (j2 36 49).toInt = ((j1 36 49) : Int32).toInt := congrArg Int32.toInt ((hfr_j2 36 49 (by omega)))
                  have hp_34 : (j2 36 45).toInt = ((j2 36 45) : Int32).toInt := rfl
                  have hV_35 : ((1 : Int32).toInt = 1 ∧ wdL (lnL (i 379) (i 36 54).toInt (i 36 55).toInt) 0 = some (lnL (i 379) (j2 36 54).toInt (i 36 55).toInt) ∧ (i 36 54).toInt + 1 ≤ (j2 36 54).toInt ∧ (j2 36 54).toInt ≤ (i 36 55).toInt ∧ (j2 36 45).toInt - (i 36 45).toInt ≤ (j2 36 54).toInt - (i 36 54).toInt ∧ (j2 36 49).toInt - (i 36 49).toInt ≤ (j2 36 54).toInt - (i 36 54).toInt ∧ (j2 36 52).toInt - (i 36 52).toInt ≤ (j2 36 54).toInt - (i 36 54).toInt ∧ c4 j2 = c4 i ∧ exI j2) ∨ ((1 : Int32).toInt = 0 ∧ wdL (lnL (i 379) (i 36 54).toInt (i 36 55).toInt) 0 = none) := (Or.inl ⟨by rfl, (hi_lp_13_1.trans (wd_ok (by omega) (Or.inl (by omega)) (by omega))).trans (by rw [show (j2 36 54).toInt = (j1 36 54).toInt by omega]), by omega, by omega, by omega, by omega, by omega, hi_lp_27_1, hi_lp_27_2⟩)
                  exact sj_zret hx hb hr hlocks (by decide +kernel) hS j2 ⟨hO_j2, (fun a b ha => ((hfr_j2 a b (by omega)).trans ((hfr_j1 a b (by omega)).trans (hfr_5 a b (by omega))))), ⟨by decide, by decide⟩, hV_35⟩ hH (sj_Knil hK) (Nat.le_of_ble_eq_true rfl) (Nat.le_of_ble_eq_true rfl) dX12_word_175
                · skip
                  have h_36 := s_nle (rfl : (j1 410 ((i 36 49).toInt).toNat).toInt = _) (rfl : k9.toInt = _) c_29
                  refine lv_aload_n hx hb dX12_word_149 rfl (lv_at hl 2 rfl) ?_
                  refine lv_iconst (v := 1) hx hb dX12_word_150 (by decide) ?_
                  refine lv_aload_n hx hb dX12_word_151 rfl (lv_at hl 2 rfl) ?_
                  refine h_getr (ci := 12) (C := RX12) (F := TX12) (N := 86) hx hb hts in12 hown hK hH (by decide) (rfl : kd 36 = 12) (by decide) rfl 53 (by decide) wd4 (fun _ h9 => h9) (by decide) rfl (t := 411) (hR 36 53 rfl) (by decide) dX12_word_152 ?_
                  refine lv_aload_n hx hb dX12_word_155 rfl (lv_at hl 2 rfl) ?_
                  refine h_getr (ci := 12) (C := RX12) (F := TX12) (N := 86) hx hb hts in12 hown hK hH (by decide) (rfl : kd 36 = 12) (by decide) rfl 50 (by decide) wd5 (fun _ h9 => h9) (by decide) rfl (t := 409) (hR 36 50 rfl) (by decide) dX12_word_156 ?_
                  refine lv_iload_n hx hb dX12_word_159 rfl (lv_at hl 1 rfl) ?_
                  refine h_iald hx hb hK hH (by decide) (rfl : kd 409 = 13) (s_vin (N := 64) (rfl : (i 36 49).toInt = _) (rfl : ln 409 = 64) (by omega) (by omega)) dX12_word_160 ?_
                  have ek_37 : (i 36 49).toNatClampNeg = ((i 36 49).toInt).toNat := (s_cl (show (i 36 49).toInt = (i 36 49).toInt by omega))
                  refine sj_i (y := (j1 409 ((i 36 49).toInt).toNat)) (by rw [ek_37]; exact (hfr_j2 409 ((i 36 49).toInt).toNat (by omega))) ?_
                  refine lv_iload_n hx hb dX12_word_161 rfl (lv_at hl 0 rfl) ?_
                  refine lv_iadd hx hb dX12_word_162 ?_
                  obtain ⟨z_38, ez_38, hz_38⟩ := s_add (rfl : (j1 409 ((i 36 49).toInt).toNat).toInt = _) (rfl : k9.toInt = _) (by omega) (by omega)
                  refine sj_i ez_38 ?_
                  have bx_39 : (0 : Int) ≤ (j1 411 ((j1 409 ((i 36 49).toInt).toNat).toInt + k9.toInt).toNat).toInt ∧ (j1 411 ((j1 409 ((i 36 49).toInt).toNat).toInt + k9.toInt).toNat).toInt ≤ 65535 := hO_j1 411 ((j1 409 ((i 36 49).toInt).toNat).toInt + k9.toInt).toNat
                  refine h_cald hx hb hK hH (by decide) (rfl : kd 411 = 14) (s_vin (N := 64) (rfl : z_38.toInt = _) (rfl : ln 411 = 64) (by omega) (by omega)) dX12_word_163 ?_
                  have ek_40 : z_38.toNatClampNeg = ((j1 409 ((i 36 49).toInt).toNat).toInt + k9.toInt).toNat := (s_cl (show z_38.toInt = (j1 409 ((i 36 49).toInt).toNat).toInt + k9.toInt by omega))
                  refine sj_i (y := (j1 411 ((j1 409 ((i 36 49).toInt).toNat).toInt + k9.toInt).toNat)) (by rw [ek_40]; exact (hfr_j2 411 ((j1 409 ((i 36 49).toInt).toNat).toInt + k9.toInt).toNat (by omega))) ?_
                  refine lv_iconst (v := 0) hx hb dX12_word_164 (by decide) ?_
                  have hl_41 : (1 : Int32).toInt = 1 := rfl
                  have hl_42 : (0 : Int32).toInt = 0 := rfl
                  have hwt_43 : (j2 36 49).toInt = ((j1 36 49) : Int32).toInt := congrArg Int32.toInt (hfr_j2 36 49 (by omega))
                  refine x_callv (va_runV (As := [.int 1, .int (j1 411 ((j1 409 ((i 36 49).toInt).toNat).toInt + k9.toInt).toNat), .int 0]) (rest := []) ⟨hx, hb, hml, hown, hts⟩ (m_addPart l D g ka ad j2 r L d 1 (j1 411 ((j1 409 ((i 36 49).toInt).toNat).toInt + k9.toInt).toNat) 0 hO_j2 hR H.size (by first | omega | decide) hi_lp_27_2 (by unfold pOk; omega)) (cwV 3 hts gX12_word_X12_addPart rfl rfl rfl (by decide +kernel) ⟨(Nat.le_of_ble_eq_true rfl), (Nat.le_of_ble_eq_true rfl)⟩) (x_preV (q := (RX12, TX12, 86)) hH hK (q_obj (by decide) (rfl : kd 36 = 12) (by decide)) rfl gxb (gxw hE hS (x_F hH hS hA))) rfl rfl hl.1 rfl (lv_room (Nat.le_of_ble_eq_true rfl)) dX12_word_165 ⟨(Nat.le_of_ble_eq_true rfl), (Nat.le_of_ble_eq_true rfl)⟩) hH hS hA rfl rfl (fun im_46 H locs hw_45 hH hS => ?_)
                  have hH : sj_H D A (hwc g ka im_46 r L d) H := hH
                  obtain ⟨hO_48, hfr_47, hx2_49, hx2_50, hx2_51⟩ := hw_45
                  have hap_52 := hx2_49
                  have hc49 : c4 im_46 = c4 j2 := (hx2_51.resolve_left (fun q => by have := q.1; omega)).2
                  obtain ⟨z_53, ez_53, hz_53⟩ := s_add (rfl : k9.toInt = _) (show (1 : Int32).toInt = 1 from rfl) (by omega) (by omega)
                  refine lv_iinc (v := z_53) (lv' := [(3, .int z_53), (2, .int (i 36 49)), (0, .ref (g 36)), (1, .ref (g 379))]) hx hb dX12_word_168 hl (k := 0) rfl ez_53 (by decide) rfl (fun ls hl => ?_)
                  refine lv_goto (tgt := 139) hx hb dX12_word_171 (by decide) ?_
                  have hp_54 : (im_46 36 45).toInt = ((im_46 36 45) : Int32).toInt := rfl
                  exact ih_lp_27 z_53 _ _ _ ls (by omega) (by omega) (by omega) (hc49.trans hi_lp_27_1) hx2_50 hO_48 (fun a b ha => ((hfr_47 a b (by omega)).trans (hfr_j2 a b (by omega)))) (lv_sub hl [0, 1, 2, 3] rfl) hH hS
            have hl_55 : (0 : Int32).toInt = 0 := rfl
            have hp_56 : (j1 36 45).toInt = ((i 36 45) : Int32).toInt := congrArg Int32.toInt (((hfr_j1 36 45 (by omega)).trans (hfr_5 36 45 (by omega))))
            exact lp_27 _ 0 _ _ _ ls (Nat.lt_succ_self _) (by omega) (by omega) (c4_fr ((hfr_j1 36 45 (by omega)).trans (hfr_5 36 45 (by omega))) (funext fun b => ((hfr_j1 406 b (by omega)).trans (hfr_5 406 b (by omega))))) hi_lp_13_2 hO_j1 (fun a b ha => rfl) (lv_sub hl [0, 1, 2, 3] rfl) hH hS
          · skip
            have h_57 := s_nle (rfl : z_24.toInt = _) (show (1 : Int32).toInt = 1 from rfl) c_25
            refine lv_aload_n hx hb dX12_word_123 rfl (lv_at hl 1 rfl) ?_
            refine lv_iconst (v := 3) hx hb dX12_word_124 (by decide) ?_
            refine lv_iload_n hx hb dX12_word_125 rfl (lv_at hl 0 rfl) ?_
            refine lv_aload_n hx hb dX12_word_126 rfl (lv_at hl 1 rfl) ?_
            refine h_geti (ci := 12) (C := RX12) (F := TX12) (N := 86) hx hb hts in12 hown hK hH (by decide) (rfl : kd 36 = 12) (by decide) rfl 49 (by decide) wd0 (fun _ h9 => h9) (by decide) rfl dX12_word_127 ?_
            refine lv_iload_n hx hb dX12_word_130 rfl (lv_at hl 0 rfl) ?_
            refine lv_isub hx hb dX12_word_131 ?_
            obtain ⟨z_58, ez_58, hz_58⟩ := s_sub (rfl : (j1 36 49).toInt = _) (rfl : (i 36 49).toInt = _) (by omega) (by omega)
            refine sj_i ez_58 ?_
            have hl_59 : (3 : Int32).toInt = 3 := rfl
            have hwt_60 : (j1 36 45).toInt = ((i 36 45) : Int32).toInt := congrArg Int32.toInt ((hfr_j1 36 45 (by omega)).trans (hfr_5 36 45 (by omega)))
            refine x_callv (va_runV (As := [.int 3, .int (i 36 49), .int z_58]) (rest := []) ⟨hx, hb, hml, hown, hts⟩ (m_addPart l D g ka ad j1 r L d 3 (i 36 49) z_58 hO_j1 hR H.size (by first | omega | decide) hi_lp_13_2 (by unfold pOk; omega)) (cwV 3 hts gX12_word_X12_addPart rfl rfl rfl (by decide +kernel) ⟨(Nat.le_of_ble_eq_true rfl), (Nat.le_of_ble_eq_true rfl)⟩) (x_preV (q := (RX12, TX12, 86)) hH hK (q_obj (by decide) (rfl : kd 36 = 12) (by decide)) rfl gxb (gxw hE hS (x_F hH hS hA))) rfl rfl hl.1 rfl (lv_room (Nat.le_of_ble_eq_true rfl)) dX12_word_132 ⟨(Nat.le_of_ble_eq_true rfl), (Nat.le_of_ble_eq_true rfl)⟩) hH hS hA rfl rfl (fun im_63 H locs hw_62 hH hS => ?_)
            have hH : sj_H D A (hwc g ka im_63 r L d) H := hH
            obtain ⟨hO_65, hfr_64, hx2_66, hx2_67, hx2_68⟩ := hw_62
            have hap_69 := hx2_66
            have hc49 : c4 im_63 = c4 j1 := (hx2_68.resolve_left (fun q => by have := q.1; omega)).2
            refine lv_iconst (v := 1) hx hb dX12_word_135 (by decide) ?_
            have hp_70 : (im_63 36 54).toInt = ((j1 36 54) : Int32).toInt := congrArg Int32.toInt ((hfr_64 36 54 (by omega)))
            have hp_71 : (im_63 36 52).toInt = ((j1 36 52) : Int32).toInt := congrArg Int32.toInt ((hfr_64 36 52 (by omega)))
            have hp_72 : (im_63 36 49).toInt = ((j1 36 49) : Int32).toInt := congrArg Int32.toInt ((hfr_64 36 49 (by omega)))
            have hp_73 : (im_63 36 45).toInt = ((im_63 36 45) : Int32).toInt := rfl
            have hV_74 : ((1 : Int32).toInt = 1 ∧ wdL (lnL (i 379) (i 36 54).toInt (i 36 55).toInt) 0 = some (lnL (i 379) (im_63 36 54).toInt (i 36 55).toInt) ∧ (i 36 54).toInt + 1 ≤ (im_63 36 54).toInt ∧ (im_63 36 54).toInt ≤ (i 36 55).toInt ∧ (im_63 36 45).toInt - (i 36 45).toInt ≤ (im_63 36 54).toInt - (i 36 54).toInt ∧ (im_63 36 49).toInt - (i 36 49).toInt ≤ (im_63 36 54).toInt - (i 36 54).toInt ∧ (im_63 36 52).toInt - (i 36 52).toInt ≤ (im_63 36 54).toInt - (i 36 54).toInt ∧ c4 im_63 = c4 i ∧ exI im_63) ∨ ((1 : Int32).toInt = 0 ∧ wdL (lnL (i 379) (i 36 54).toInt (i 36 55).toInt) 0 = none) := (Or.inl ⟨by rfl, (hi_lp_13_1.trans (wd_ok (by omega) (Or.inl (by omega)) (by omega))).trans (by rw [show (im_63 36 54).toInt = (j1 36 54).toInt by omega]), by omega, by omega, by omega, by omega, by omega, (hc49.trans (c4_fr ((hfr_j1 36 45 (by omega)).trans (hfr_5 36 45 (by omega))) (funext fun b => ((hfr_j1 406 b (by omega)).trans (hfr_5 406 b (by omega)))))), hx2_67⟩)
            exact sj_zret hx hb hr hlocks (by decide +kernel) hS im_63 ⟨hO_65, (fun a b ha => ((hfr_64 a b (by omega)).trans ((hfr_j1 a b (by omega)).trans (hfr_5 a b (by omega))))), ⟨by decide, by decide⟩, hV_74⟩ hH (sj_Knil hK) (Nat.le_of_ble_eq_true rfl) (Nat.le_of_ble_eq_true rfl) dX12_word_136
        · skip
          have h_75 := s_eq (rfl : (j1 410 ((j1 36 49).toInt - 1).toNat).toInt = _) (show (0 : Int32).toInt = 0 from rfl) c_22
          refine lv_iconst (v := 0) hx hb dX12_word_111 (by decide) ?_
          have hV_76 : ((0 : Int32).toInt = 1 ∧ wdL (lnL (i 379) (i 36 54).toInt (i 36 55).toInt) 0 = some (lnL (i 379) (j1 36 54).toInt (i 36 55).toInt) ∧ (i 36 54).toInt + 1 ≤ (j1 36 54).toInt ∧ (j1 36 54).toInt ≤ (i 36 55).toInt ∧ (j1 36 45).toInt - (i 36 45).toInt ≤ (j1 36 54).toInt - (i 36 54).toInt ∧ (j1 36 49).toInt - (i 36 49).toInt ≤ (j1 36 54).toInt - (i 36 54).toInt ∧ (j1 36 52).toInt - (i 36 52).toInt ≤ (j1 36 54).toInt - (i 36 54).toInt ∧ c4 j1 = c4 i ∧ exI j1) ∨ ((0 : Int32).toInt = 0 ∧ wdL (lnL (i 379) (i 36 54).toInt (i 36 55).toInt) 0 = none) := (Or.inr ⟨by rfl, hi_lp_13_1.trans (wd_no (by omega) ⟨Or.inl (by omega), by omega⟩)⟩)
          exact sj_zret hx hb hr hlocks (by decide +kernel) hS j1 ⟨hO_j1, (fun a b ha => ((hfr_j1 a b (by omega)).trans (hfr_5 a b (by omega)))), ⟨by decide, by decide⟩, hV_76⟩ hH (sj_Knil hK) (Nat.le_of_ble_eq_true rfl) (Nat.le_of_ble_eq_true rfl) dX12_word_112
      · skip
        have h_77 := s_nle (rfl : (i 36 55).toInt = _) (rfl : (j1 36 54).toInt = _) c_16
        refine lv_aload_n hx hb dX12_word_20 rfl (lv_at hl 2 rfl) ?_
        refine lv_aload_n hx hb dX12_word_21 rfl (lv_at hl 1 rfl) ?_
        refine h_geti (ci := 12) (C := RX12) (F := TX12) (N := 86) hx hb hts in12 hown hK hH (by decide) (rfl : kd 36 = 12) (by decide) rfl 54 (by decide) wd1 (fun _ h9 => h9) (by decide) rfl dX12_word_22 ?_
        have bx_78 : (0 : Int) ≤ (i 379 ((j1 36 54).toInt).toNat).toInt ∧ (i 379 ((j1 36 54).toInt).toNat).toInt ≤ 65535 := hO 379 ((j1 36 54).toInt).toNat
        refine h_cald hx hb hK hH (by decide) (rfl : kd 379 = 14) (s_vin (N := 480) (rfl : (j1 36 54).toInt = _) (rfl : ln 379 = 480) (by omega) (by omega)) dX12_word_25 ?_
        have ek_79 : (j1 36 54).toNatClampNeg = ((j1 36 54).toInt).toNat := (s_cl (show (j1 36 54).toInt = (j1 36 54).toInt by omega))
        refine sj_i (y := (i 379 ((j1 36 54).toInt).toNat)) (by rw [ek_79]; exact ((hfr_j1 379 ((j1 36 54).toInt).toNat (by omega)).trans (hfr_5 379 ((j1 36 54).toInt).toNat (by omega)))) ?_
        refine x_calli (va_runS (As := [.int (i 379 ((j1 36 54).toInt).toNat)]) (rest := []) ⟨hx, hb, hml, hown, hts⟩ (m_special l D g ka ad j1 r L d (i 379 ((j1 36 54).toInt).toNat) hO_j1 hR H.size ) (cwS 1 hts gX12_word_X12_special rfl rfl rfl (by decide +kernel) ⟨(Nat.le_of_ble_eq_true rfl), (Nat.le_of_ble_eq_true rfl)⟩) (x_preS hH hK gxb (gxw hE hS (x_F hH hS hA))) rfl rfl hl.1 rfl (lv_room (Nat.le_of_ble_eq_true rfl)) dX12_word_26 ⟨(Nat.le_of_ble_eq_true rfl), (Nat.le_of_ble_eq_true rfl)⟩) hH hS hA rfl rfl (fun r_80 _ H locs hw_81 hH hS => ?_)
        obtain ⟨hr_83, he_84⟩ := hw_81
        have hr_83 : (0 : Int) ≤ r_80.toInt ∧ r_80.toInt ≤ 1 := hr_83
        refine lv_if_eq (tgt := 43) hx hb dX12_word_29 (by decide) (fun c_85 => ?_) (fun c_85 => ?_)
        · skip
          have h_86 := s_eq (rfl : r_80.toInt = _) (show (0 : Int32).toInt = 0 from rfl) c_85
          refine lv_aload_n hx hb dX12_word_43 rfl (lv_at hl 2 rfl) ?_
          refine lv_aload_n hx hb dX12_word_44 rfl (lv_at hl 1 rfl) ?_
          refine h_geti (ci := 12) (C := RX12) (F := TX12) (N := 86) hx hb hts in12 hown hK hH (by decide) (rfl : kd 36 = 12) (by decide) rfl 54 (by decide) wd1 (fun _ h9 => h9) (by decide) rfl dX12_word_45 ?_
          refine h_cald hx hb hK hH (by decide) (rfl : kd 379 = 14) (s_vin (N := 480) (rfl : (j1 36 54).toInt = _) (rfl : ln 379 = 480) (by omega) (by omega)) dX12_word_48 ?_
          have ek_87 : (j1 36 54).toNatClampNeg = ((j1 36 54).toInt).toNat := (s_cl (show (j1 36 54).toInt = (j1 36 54).toInt by omega))
          refine sj_i (y := (i 379 ((j1 36 54).toInt).toNat)) (by rw [ek_87]; exact ((hfr_j1 379 ((j1 36 54).toInt).toNat (by omega)).trans (hfr_5 379 ((j1 36 54).toInt).toNat (by omega)))) ?_
          refine lv_bipush (v := 47) hx hb dX12_word_49 (by decide) ?_
          refine lv_icmp_ne (tgt := 87) hx hb dX12_word_51 (by decide) (fun c_88 => ?_) (fun c_88 => ?_)
          · skip
            have h_89 := s_ne (rfl : (i 379 ((j1 36 54).toInt).toNat).toInt = _) (show (47 : Int32).toInt = 47 from rfl) c_88
            refine lv_aload_n hx hb dX12_word_87 rfl (lv_at hl 1 rfl) ?_
            refine lv_aload_n hx hb dX12_word_88 rfl (lv_at hl 2 rfl) ?_
            have hwt_90 : (j1 36 55).toInt = ((i 36 55) : Int32).toInt := congrArg Int32.toInt ((hfr_j1 36 55 (by omega)).trans (hfr_5 36 55 (by omega)))
            refine x_calli (va_runV (As := [.ref (g 379)]) (rest := []) ⟨hx, hb, hml, hown, hts⟩ (m_takeOne_T l D g ka ad j1 r L d  hO_j1 hR H.size (by first | omega | decide) (by first | omega | decide) (by first | omega | decide) (by first | omega | decide) hi_lp_13_2) (cwV 1 hts gX12_word_X12_takeOne rfl rfl rfl (by decide +kernel) ⟨(Nat.le_of_ble_eq_true rfl), (Nat.le_of_ble_eq_true rfl)⟩) (x_preV (q := (RX12, TX12, 86)) hH hK (q_obj (by decide) (rfl : kd 36 = 12) (by decide)) rfl gxb (gxw hE hS (x_F hH hS hA))) rfl rfl hl.1 rfl (lv_room (Nat.le_of_ble_eq_true rfl)) dX12_word_89 ⟨(Nat.le_of_ble_eq_true rfl), (Nat.le_of_ble_eq_true rfl)⟩) hH hS hA rfl rfl (fun r_91 im_93 H locs hw_92 hH hS => ?_)
            have hH : sj_H D A (hwc g ka im_93 r L d) H := hH
            obtain ⟨hO_95, hfr_94, hr_96, hx2_97⟩ := hw_92
            have hr_96 : (0 : Int) ≤ r_91.toInt ∧ r_91.toInt ≤ 1 := hr_96
            have hct : (j1 379 (j1 36 54).toInt.toNat).toInt = (i 379 (j1 36 54).toInt.toNat).toInt := congrArg Int32.toInt (((hfr_j1 379 (j1 36 54).toInt.toNat (by omega)).trans (hfr_5 379 (j1 36 54).toInt.toNat (by omega))))
            have hju : (j1 36 55).toInt = (i 36 55).toInt := congrArg Int32.toInt (((hfr_j1 36 55 (by omega)).trans (hfr_5 36 55 (by omega))))
            refine lv_if_ne (tgt := 9) hx hb dX12_word_92 (by decide) (fun c_98 => ?_) (fun c_98 => ?_)
            · skip
              have h_99 := s_ne (rfl : r_91.toInt = _) (show (0 : Int32).toInt = 0 from rfl) c_98
              have htk := hx2_97.resolve_right (fun q => by have := q.1; omega)
              have htk2 := htk.2.1
              have htk3 := htk.2.2.1
              have htk4 := htk.2.2.2.1
              have hp_100 : (im_93 36 54).toInt = ((im_93 36 54) : Int32).toInt := rfl
              have hp_101 : (im_93 36 52).toInt = ((im_93 36 52) : Int32).toInt := rfl
              have hp_102 : (im_93 36 49).toInt = ((j1 36 49) : Int32).toInt := congrArg Int32.toInt ((hfr_94 36 49 (by omega)))
              have hp_103 : (im_93 36 54).toInt = ((im_93 36 54) : Int32).toInt := rfl
              have hp_104 : (im_93 36 49).toInt = ((j1 36 49) : Int32).toInt := congrArg Int32.toInt ((hfr_94 36 49 (by omega)))
              exact ih_lp_13  _ _ _ ls (by omega) (by omega) (hi_lp_13_1.trans (wd_st (by omega) (by omega) (by unfold spC; omega) (by omega) (by omega) htk4 (by omega))) htk.2.2.2.2.2 hO_95 (fun a b ha => ((hfr_94 a b (by omega)).trans (hfr_j1 a b (by omega)))) (lv_sub hl [0, 1, 2] rfl) hH hS
            · skip
              have h_105 := s_eq (rfl : r_91.toInt = _) (show (0 : Int32).toInt = 0 from rfl) c_98
              have htn := (hx2_97.resolve_left (fun q => by have := q.1; omega)).2
              have htn1 := htn.1
              have htn2 := htn.2
              refine lv_iconst (v := 0) hx hb dX12_word_95 (by decide) ?_
              have hV_106 : ((0 : Int32).toInt = 1 ∧ wdL (lnL (i 379) (i 36 54).toInt (i 36 55).toInt) 0 = some (lnL (i 379) (im_93 36 54).toInt (i 36 55).toInt) ∧ (i 36 54).toInt + 1 ≤ (im_93 36 54).toInt ∧ (im_93 36 54).toInt ≤ (i 36 55).toInt ∧ (im_93 36 45).toInt - (i 36 45).toInt ≤ (im_93 36 54).toInt - (i 36 54).toInt ∧ (im_93 36 49).toInt - (i 36 49).toInt ≤ (im_93 36 54).toInt - (i 36 54).toInt ∧ (im_93 36 52).toInt - (i 36 52).toInt ≤ (im_93 36 54).toInt - (i 36 54).toInt ∧ c4 im_93 = c4 i ∧ exI im_93) ∨ ((0 : Int32).toInt = 0 ∧ wdL (lnL (i 379) (i 36 54).toInt (i 36 55).toInt) 0 = none) := (Or.inr ⟨by rfl, by rw [hi_lp_13_1]; exact wd_escE (by omega) (by omega) (by omega) (by omega)⟩)
              exact sj_zret hx hb hr hlocks (by decide +kernel) hS im_93 ⟨hO_95, (fun a b ha => ((hfr_94 a b (by omega)).trans ((hfr_j1 a b (by omega)).trans (hfr_5 a b (by omega))))), ⟨by decide, by decide⟩, hV_106⟩ hH (sj_Knil hK) (Nat.le_of_ble_eq_true rfl) (Nat.le_of_ble_eq_true rfl) dX12_word_96
          · skip
            have h_107 := s_eq (rfl : (i 379 ((j1 36 54).toInt).toNat).toInt = _) (show (47 : Int32).toInt = 47 from rfl) c_88
            refine lv_aload_n hx hb dX12_word_54 rfl (lv_at hl 1 rfl) ?_
            refine h_getr (ci := 12) (C := RX12) (F := TX12) (N := 86) hx hb hts in12 hown hK hH (by decide) (rfl : kd 36 = 12) (by decide) rfl 51 (by decide) wd3 (fun _ h9 => h9) (by decide) rfl (t := 410) (hR 36 51 rfl) (by decide) dX12_word_55 ?_
            refine lv_aload_n hx hb dX12_word_58 rfl (lv_at hl 1 rfl) ?_
            have bx_108 : (0 : Int) ≤ (j1 36 49).toInt ∧ (j1 36 49).toInt ≤ 64 := hO_j1 36 49
            refine h_geti (ci := 12) (C := RX12) (F := TX12) (N := 86) hx hb hts in12 hown hK hH (by decide) (rfl : kd 36 = 12) (by decide) rfl 49 (by decide) wd0 (fun _ h9 => h9) (by decide) rfl dX12_word_59 ?_
            refine lv_iconst (v := 1) hx hb dX12_word_62 (by decide) ?_
            refine lv_isub hx hb dX12_word_63 ?_
            obtain ⟨z_109, ez_109, hz_109⟩ := s_sub (rfl : (j1 36 49).toInt = _) (show (1 : Int32).toInt = 1 from rfl) (by omega) (by omega)
            refine sj_i ez_109 ?_
            have hls_110 : lsz j1 = ((j1 410 ((j1 36 49).toInt - 1).toNat) : Int32).toInt := by unfold lsz; rw [show j1 36 49 = (j1 36 49) from rfl]; try exact congrArg Int32.toInt (rfl)
            refine h_iald hx hb hK hH (by decide) (rfl : kd 410 = 13) (s_vin (N := 64) (rfl : z_109.toInt = _) (rfl : ln 410 = 64) (by omega) (by omega)) dX12_word_64 ?_
            have ek_111 : z_109.toNatClampNeg = ((j1 36 49).toInt - 1).toNat := (s_cl (show z_109.toInt = (j1 36 49).toInt - 1 by omega))
            refine sj_i (y := (j1 410 ((j1 36 49).toInt - 1).toNat)) (by rw [ek_111]) ?_
            refine lv_if_ne (tgt := 70) hx hb dX12_word_65 (by decide) (fun c_112 => ?_) (fun c_112 => ?_)
            · skip
              have h_113 := s_ne (rfl : (j1 410 ((j1 36 49).toInt - 1).toNat).toInt = _) (show (0 : Int32).toInt = 0 from rfl) c_112
              refine lv_aload_n hx hb dX12_word_70 rfl (lv_at hl 1 rfl) ?_
              refine x_callv (va_runV (As := []) (rest := []) ⟨hx, hb, hml, hown, hts⟩ (m_openText l D g ka ad j1 r L d  hO_j1 hR H.size (by first | omega | decide) hi_lp_13_2) (cwV 0 hts gX12_word_X12_openText rfl rfl rfl (by decide +kernel) ⟨(Nat.le_of_ble_eq_true rfl), (Nat.le_of_ble_eq_true rfl)⟩) (x_preV (q := (RX12, TX12, 86)) hH hK (q_obj (by decide) (rfl : kd 36 = 12) (by decide)) rfl gxb (gxw hE hS (x_F hH hS hA))) rfl rfl hl.1 rfl (lv_room (Nat.le_of_ble_eq_true rfl)) dX12_word_71 ⟨(Nat.le_of_ble_eq_true rfl), (Nat.le_of_ble_eq_true rfl)⟩) hH hS hA rfl rfl (fun im_116 H locs hw_115 hH hS => ?_)
              have hH : sj_H D A (hwc g ka im_116 r L d) H := hH
              obtain ⟨hO_118, hfr_117, hx2_119, hx2_120, hx2_121, hx2_122⟩ := hw_115
              have hot_123 := hx2_120
              have hot_124 := hx2_121
              refine lv_aload_n hx hb dX12_word_74 rfl (lv_at hl 1 rfl) ?_
              refine lv_dup hx hb dX12_word_75 rfl ?_
              refine h_geti (ci := 12) (C := RX12) (F := TX12) (N := 86) hx hb hts in12 hown hK hH (by decide) (rfl : kd 36 = 12) (by decide) rfl 54 (by decide) wd1 (fun _ h9 => h9) (by decide) rfl dX12_word_76 ?_
              refine sj_i (y := (j1 36 54)) (hfr_117 36 54 (by omega)) ?_
              refine lv_iconst (v := 1) hx hb dX12_word_79 (by decide) ?_
              refine lv_iadd hx hb dX12_word_80 ?_
              obtain ⟨z_125, ez_125, hz_125⟩ := s_add (rfl : (j1 36 54).toInt = _) (show (1 : Int32).toInt = 1 from rfl) (by omega) (by omega)
              refine sj_i ez_125 ?_
              have hO_126 := okp hO_118 (n := 36) (k := 54) (v := z_125) (show (0 : Int) ≤ (z_125 : Int32).toInt ∧ (z_125 : Int32).toInt ≤ 720 from ⟨by omega, by omega⟩)
              refine h_puti (ty := .int) (ci := 12) (C := RX12) (F := TX12) (N := 86) hx hb hts in12 tyX12 tyX12_ok nmX12 hown hK hH hS (by decide) (rfl : kd 36 = 12) (by decide) rfl 54 (by decide) wd1 (fun _ h9 => h9) rfl (by decide +kernel) rfl rfl (by decide) rfl dX12_word_81 (fun H locs hH hS => ?_)
              refine lv_goto (tgt := 9) hx hb dX12_word_84 (by decide) ?_
              have hp_127 : ((up2 im_116 36 54 z_125) 36 54).toInt = (z_125 : Int32).toInt := congrArg Int32.toInt ((up2_at _ _ _ _))
              have hp_128 : ((up2 im_116 36 54 z_125) 36 52).toInt = ((j1 36 52) : Int32).toInt := congrArg Int32.toInt (((up2_k _ _ (by decide)).trans (hfr_117 36 52 (by omega))))
              have hp_129 : ((up2 im_116 36 54 z_125) 36 49).toInt = ((im_116 36 49) : Int32).toInt := congrArg Int32.toInt ((up2_k _ _ (by decide)))
              have hlz8 : lsz (up2 im_116 36 54 z_125) = 0 := by rw [lsz_fr (m := im_116) (u := (up2 im_116 36 54 z_125)) (up2_o _ _ (by omega)) (funext fun b => (up2_o _ _ (by omega)))]; exact hx2_121
              have hp_130 : ((up2 im_116 36 54 z_125) 36 54).toInt = (z_125 : Int32).toInt := congrArg Int32.toInt ((up2_at _ _ _ _))
              have hp_131 : ((up2 im_116 36 54 z_125) 36 49).toInt = ((im_116 36 49) : Int32).toInt := congrArg Int32.toInt ((up2_k _ _ (by decide)))
              have hlz : lsz (up2 im_116 36 54 z_125) = 0 := by rw [lsz_fr (m := im_116) (u := (up2 im_116 36 54 z_125)) (up2_o _ _ (by omega)) (funext fun b => (up2_o _ _ (by omega)))]; exact hx2_121
              exact ih_lp_13  _ _ _ ls (by omega) (by omega) (hi_lp_13_1.trans (by rw [wd_sl (by omega) (by omega) (by omega) (by omega), hlz, show ((up2 im_116 36 54 z_125) 36 54).toInt = (j1 36 54).toInt + 1 by omega])) (exI_fr hx2_119 (up2_o _ _ (by omega)) (up2_o _ _ (by omega)) (up2_o _ _ (by omega)) (fun a h1 h2 => funext fun b => (up2_o _ _ (by omega)))) hO_126 (fun a b ha => ((up2_o _ _ (by omega)).trans ((hfr_117 a b (by omega)).trans (hfr_j1 a b (by omega))))) (lv_sub hl [0, 1, 2] rfl) hH hS
            · skip
              have h_132 := s_eq (rfl : (j1 410 ((j1 36 49).toInt - 1).toNat).toInt = _) (show (0 : Int32).toInt = 0 from rfl) c_112
              refine lv_iconst (v := 0) hx hb dX12_word_68 (by decide) ?_
              have hV_133 : ((0 : Int32).toInt = 1 ∧ wdL (lnL (i 379) (i 36 54).toInt (i 36 55).toInt) 0 = some (lnL (i 379) (j1 36 54).toInt (i 36 55).toInt) ∧ (i 36 54).toInt + 1 ≤ (j1 36 54).toInt ∧ (j1 36 54).toInt ≤ (i 36 55).toInt ∧ (j1 36 45).toInt - (i 36 45).toInt ≤ (j1 36 54).toInt - (i 36 54).toInt ∧ (j1 36 49).toInt - (i 36 49).toInt ≤ (j1 36 54).toInt - (i 36 54).toInt ∧ (j1 36 52).toInt - (i 36 52).toInt ≤ (j1 36 54).toInt - (i 36 54).toInt ∧ c4 j1 = c4 i ∧ exI j1) ∨ ((0 : Int32).toInt = 0 ∧ wdL (lnL (i 379) (i 36 54).toInt (i 36 55).toInt) 0 = none) := (Or.inr ⟨by rfl, hi_lp_13_1.trans (wd_no (by omega) ⟨Or.inr ⟨by omega, Or.inr (by omega)⟩, by omega⟩)⟩)
              exact sj_zret hx hb hr hlocks (by decide +kernel) hS j1 ⟨hO_j1, (fun a b ha => ((hfr_j1 a b (by omega)).trans (hfr_5 a b (by omega)))), ⟨by decide, by decide⟩, hV_133⟩ hH (sj_Knil hK) (Nat.le_of_ble_eq_true rfl) (Nat.le_of_ble_eq_true rfl) dX12_word_69
        · skip
          have h_134 := s_ne (rfl : r_80.toInt = _) (show (0 : Int32).toInt = 0 from rfl) c_85
          refine lv_aload_n hx hb dX12_word_32 rfl (lv_at hl 2 rfl) ?_
          refine lv_aload_n hx hb dX12_word_33 rfl (lv_at hl 1 rfl) ?_
          refine h_geti (ci := 12) (C := RX12) (F := TX12) (N := 86) hx hb hts in12 hown hK hH (by decide) (rfl : kd 36 = 12) (by decide) rfl 54 (by decide) wd1 (fun _ h9 => h9) (by decide) rfl dX12_word_34 ?_
          refine h_cald hx hb hK hH (by decide) (rfl : kd 379 = 14) (s_vin (N := 480) (rfl : (j1 36 54).toInt = _) (rfl : ln 379 = 480) (by omega) (by omega)) dX12_word_37 ?_
          have ek_135 : (j1 36 54).toNatClampNeg = ((j1 36 54).toInt).toNat := (s_cl (show (j1 36 54).toInt = (j1 36 54).toInt by omega))
          refine sj_i (y := (i 379 ((j1 36 54).toInt).toNat)) (by rw [ek_135]; exact ((hfr_j1 379 ((j1 36 54).toInt).toNat (by omega)).trans (hfr_5 379 ((j1 36 54).toInt).toNat (by omega)))) ?_
          refine lv_bipush (v := 47) hx hb dX12_word_38 (by decide) ?_
          refine lv_icmp_ne (tgt := 97) hx hb dX12_word_40 (by decide) (fun c_136 => ?_) (fun c_136 => ?_)
          · skip
            have h_137 := s_ne (rfl : (i 379 ((j1 36 54).toInt).toNat).toInt = _) (show (47 : Int32).toInt = 47 from rfl) c_136
            refine lv_aload_n hx hb dX12_word_97 rfl (lv_at hl 1 rfl) ?_
            refine h_getr (ci := 12) (C := RX12) (F := TX12) (N := 86) hx hb hts in12 hown hK hH (by decide) (rfl : kd 36 = 12) (by decide) rfl 51 (by decide) wd3 (fun _ h9 => h9) (by decide) rfl (t := 410) (hR 36 51 rfl) (by decide) dX12_word_98 ?_
            refine lv_aload_n hx hb dX12_word_101 rfl (lv_at hl 1 rfl) ?_
            have bx_138 : (0 : Int) ≤ (j1 36 49).toInt ∧ (j1 36 49).toInt ≤ 64 := hO_j1 36 49
            refine h_geti (ci := 12) (C := RX12) (F := TX12) (N := 86) hx hb hts in12 hown hK hH (by decide) (rfl : kd 36 = 12) (by decide) rfl 49 (by decide) wd0 (fun _ h9 => h9) (by decide) rfl dX12_word_102 ?_
            refine lv_iconst (v := 1) hx hb dX12_word_105 (by decide) ?_
            refine lv_isub hx hb dX12_word_106 ?_
            obtain ⟨z_139, ez_139, hz_139⟩ := s_sub (rfl : (j1 36 49).toInt = _) (show (1 : Int32).toInt = 1 from rfl) (by omega) (by omega)
            refine sj_i ez_139 ?_
            have hls_140 : lsz j1 = ((j1 410 ((j1 36 49).toInt - 1).toNat) : Int32).toInt := by unfold lsz; rw [show j1 36 49 = (j1 36 49) from rfl]; try exact congrArg Int32.toInt (rfl)
            refine h_iald hx hb hK hH (by decide) (rfl : kd 410 = 13) (s_vin (N := 64) (rfl : z_139.toInt = _) (rfl : ln 410 = 64) (by omega) (by omega)) dX12_word_107 ?_
            have ek_141 : z_139.toNatClampNeg = ((j1 36 49).toInt - 1).toNat := (s_cl (show z_139.toInt = (j1 36 49).toInt - 1 by omega))
            refine sj_i (y := (j1 410 ((j1 36 49).toInt - 1).toNat)) (by rw [ek_141]) ?_
            refine lv_if_ne (tgt := 113) hx hb dX12_word_108 (by decide) (fun c_142 => ?_) (fun c_142 => ?_)
            · skip
              have h_143 := s_ne (rfl : (j1 410 ((j1 36 49).toInt - 1).toNat).toInt = _) (show (0 : Int32).toInt = 0 from rfl) c_142
              refine lv_aload_n hx hb dX12_word_113 rfl (lv_at hl 1 rfl) ?_
              refine h_geti (ci := 12) (C := RX12) (F := TX12) (N := 86) hx hb hts in12 hown hK hH (by decide) (rfl : kd 36 = 12) (by decide) rfl 49 (by decide) wd0 (fun _ h9 => h9) (by decide) rfl dX12_word_114 ?_
              refine lv_iload_n hx hb dX12_word_117 rfl (lv_at hl 0 rfl) ?_
              refine lv_isub hx hb dX12_word_118 ?_
              obtain ⟨z_144, ez_144, hz_144⟩ := s_sub (rfl : (j1 36 49).toInt = _) (rfl : (i 36 49).toInt = _) (by omega) (by omega)
              refine sj_i ez_144 ?_
              refine lv_iconst (v := 1) hx hb dX12_word_119 (by decide) ?_
              refine lv_icmp_le (tgt := 137) hx hb dX12_word_120 (by decide) (fun c_145 => ?_) (fun c_145 => ?_)
              · skip
                have h_146 := s_le (rfl : z_144.toInt = _) (show (1 : Int32).toInt = 1 from rfl) c_145
                have hl9 : (j1 410 (i 36 49).toInt.toNat).toInt = lsz j1 := by unfold lsz; rw [show ((j1 36 49).toInt - 1).toNat = (i 36 49).toInt.toNat by omega]
                have hw9 := hi_lp_13_2.2 (i 36 49).toInt.toNat (by omega)
                have hw1 := hw9.1
                have hw2 := hw9.2.1
                have hw3 := hw9.2.2
                have hx52j : (0 : Int) ≤ (j1 36 52).toInt ∧ (j1 36 52).toInt ≤ 64 := hO_j1 36 52
                refine lv_iconst (v := 0) hx hb dX12_word_137 (by decide) ?_
                refine lv_istore_n (lv' := [(3, .int 0), (2, .int (i 36 49)), (0, .ref (g 36)), (1, .ref (g 379))]) hx hb dX12_word_138 rfl hl (by decide) rfl (fun ls hl => ?_)
                -- loop at 139
                have lp_147 : ∀ (fuel_lp_147 : Nat) (k9 : Int32) (j2 : Nat → Nat → Int32) (H : Heap) (locs : List Loc) (ls : Array Slot), (64 - k9.toInt).toNat < fuel_lp_147 → (0 : Int) ≤ k9.toInt ∧ k9.toInt ≤ 64 → (j2 36 45).toInt = (i 36 45).toInt + k9.toInt ∧ k9.toInt ≤ lsz j1 → c4 j2 = c4 i → exI j2 → OkI j2 → (∀ a b, ¬ ((a = 36 ∧ (b = 45)) ∨ a = 406 ∨ a = 407 ∨ a = 408) → j2 a b = j1 a b) → lv_has ls 4 [(3, .int k9), (2, .int (i 36 49)), (0, .ref (g 36)), (1, .ref (g 379))] → sj_H D A (hwc g ka j2 r L d) H → va_S A s.heap H locs → W p l e (headSpec wsX12_word ({ frames := 1, cells := 0, slots := 0, locals := 23 })).room s m ([.ref (g 36), .ref (g 379)] : List Value).toArray below meth c H locs 0 0 (MQ below (sj_Qi (S := (Nat → Nat → Int32)) D (fun v u => OkI u ∧ (∀ a b, ¬ ((a = 36 ∧ (b = 45 ∨ b = 49 ∨ b = 52 ∨ b = 54)) ∨ a = 406 ∨ a = 407 ∨ a = 408 ∨ a = 409 ∨ a = 410 ∨ a = 411) → u a b = i a b) ∧ ((0 : Int) ≤ v.toInt ∧ v.toInt ≤ 1) ∧ ((v.toInt = 1 ∧ wdL (lnL (i 379) (i 36 54).toInt (i 36 55).toInt) 0 = some (lnL (i 379) (u 36 54).toInt (i 36 55).toInt) ∧ (i 36 54).toInt + 1 ≤ (u 36 54).toInt ∧ (u 36 54).toInt ≤ (i 36 55).toInt ∧ (u 36 45).toInt - (i 36 45).toInt ≤ (u 36 54).toInt - (i 36 54).toInt ∧ (u 36 49).toInt - (i 36 49).toInt ≤ (u 36 54).toInt - (i 36 54).toInt ∧ (u 36 52).toInt - (i 36 52).toInt ≤ (u 36 54).toInt - (i 36 54).toInt ∧ c4 u = c4 i ∧ exI u) ∨ (v.toInt = 0 ∧ wdL (lnL (i 379) (i 36 54).toInt (i 36 55).toInt) 0 = none))) (fun u => hwc g ka u r L d) (fun _ => []) A) ([.ref (g 36), .ref (g 379)] : List Value).toArray s 0 0 A) (F0 m 139 ls []) := by
                  intro fuel_lp_147
                  induction fuel_lp_147 with
                  | zero => intros; omega
                  | succ fuel_lp_147 ih_lp_147 =>
                    intro k9 j2 H locs ls hm hr_k9 hi_lp_147_0 hi_lp_147_1 hi_lp_147_2 hO_j2 hfr_j2 hl hH hS
                    refine lv_iload_n hx hb dX12_word_139 rfl (lv_at hl 0 rfl) ?_
                    refine lv_aload_n hx hb dX12_word_140 rfl (lv_at hl 2 rfl) ?_
                    refine h_getr (ci := 12) (C := RX12) (F := TX12) (N := 86) hx hb hts in12 hown hK hH (by decide) (rfl : kd 36 = 12) (by decide) rfl 51 (by decide) wd3 (fun _ h9 => h9) (by decide) rfl (t := 410) (hR 36 51 rfl) (by decide) dX12_word_141 ?_
                    refine lv_iload_n hx hb dX12_word_144 rfl (lv_at hl 1 rfl) ?_
                    refine h_iald hx hb hK hH (by decide) (rfl : kd 410 = 13) (s_vin (N := 64) (rfl : (i 36 49).toInt = _) (rfl : ln 410 = 64) (by omega) (by omega)) dX12_word_145 ?_
                    have ek_148 : (i 36 49).toNatClampNeg = ((i 36 49).toInt).toNat := (s_cl (show (i 36 49).toInt = (i 36 49).toInt by omega))
                    refine sj_i (y := (j1 410 ((i 36 49).toInt).toNat)) (by rw [ek_148]; exact (hfr_j2 410 ((i 36 49).toInt).toNat (by omega))) ?_
                    refine lv_icmp_ge (tgt := 174) hx hb dX12_word_146 (by decide) (fun c_149 => ?_) (fun c_149 => ?_)
                    · skip
                      have h_150 := s_le (rfl : (j1 410 ((i 36 49).toInt).toNat).toInt = _) (rfl : k9.toInt = _) c_149
                      refine lv_iconst (v := 1) hx hb dX12_word_174 (by decide) ?_
                      have hp_151 : (j2 36 54).toInt = ((j1 36 54) : Int32).toInt := congrArg Int32.toInt ((hfr_j2 36 54 (by omega)))
                      have hp_152 : (j2 36 52).toInt = ((j1 36 52) : Int32).toInt := congrArg Int32.toInt ((hfr_j2 36 52 (by omega)))
                      have hp_153 : (j2 36 49).toInt = ((j1 36 49) : Int32).toInt := congrArg Int32.toInt ((hfr_j2 36 49 (by omega)))
                      have hp_154 : (j2 36 45).toInt = ((j2 36 45) : Int32).toInt := rfl
                      have hV_155 : ((1 : Int32).toInt = 1 ∧ wdL (lnL (i 379) (i 36 54).toInt (i 36 55).toInt) 0 = some (lnL (i 379) (j2 36 54).toInt (i 36 55).toInt) ∧ (i 36 54).toInt + 1 ≤ (j2 36 54).toInt ∧ (j2 36 54).toInt ≤ (i 36 55).toInt ∧ (j2 36 45).toInt - (i 36 45).toInt ≤ (j2 36 54).toInt - (i 36 54).toInt ∧ (j2 36 49).toInt - (i 36 49).toInt ≤ (j2 36 54).toInt - (i 36 54).toInt ∧ (j2 36 52).toInt - (i 36 52).toInt ≤ (j2 36 54).toInt - (i 36 54).toInt ∧ c4 j2 = c4 i ∧ exI j2) ∨ ((1 : Int32).toInt = 0 ∧ wdL (lnL (i 379) (i 36 54).toInt (i 36 55).toInt) 0 = none) := (Or.inl ⟨by rfl, (hi_lp_13_1.trans (wd_ok (by omega) (Or.inr ⟨by omega, (by unfold spC; omega)⟩) (by omega))).trans (by rw [show (j2 36 54).toInt = (j1 36 54).toInt by omega]), by omega, by omega, by omega, by omega, by omega, hi_lp_147_1, hi_lp_147_2⟩)
                      exact sj_zret hx hb hr hlocks (by decide +kernel) hS j2 ⟨hO_j2, (fun a b ha => ((hfr_j2 a b (by omega)).trans ((hfr_j1 a b (by omega)).trans (hfr_5 a b (by omega))))), ⟨by decide, by decide⟩, hV_155⟩ hH (sj_Knil hK) (Nat.le_of_ble_eq_true rfl) (Nat.le_of_ble_eq_true rfl) dX12_word_175
                    · skip
                      have h_156 := s_nle (rfl : (j1 410 ((i 36 49).toInt).toNat).toInt = _) (rfl : k9.toInt = _) c_149
                      refine lv_aload_n hx hb dX12_word_149 rfl (lv_at hl 2 rfl) ?_
                      refine lv_iconst (v := 1) hx hb dX12_word_150 (by decide) ?_
                      refine lv_aload_n hx hb dX12_word_151 rfl (lv_at hl 2 rfl) ?_
                      refine h_getr (ci := 12) (C := RX12) (F := TX12) (N := 86) hx hb hts in12 hown hK hH (by decide) (rfl : kd 36 = 12) (by decide) rfl 53 (by decide) wd4 (fun _ h9 => h9) (by decide) rfl (t := 411) (hR 36 53 rfl) (by decide) dX12_word_152 ?_
                      refine lv_aload_n hx hb dX12_word_155 rfl (lv_at hl 2 rfl) ?_
                      refine h_getr (ci := 12) (C := RX12) (F := TX12) (N := 86) hx hb hts in12 hown hK hH (by decide) (rfl : kd 36 = 12) (by decide) rfl 50 (by decide) wd5 (fun _ h9 => h9) (by decide) rfl (t := 409) (hR 36 50 rfl) (by decide) dX12_word_156 ?_
                      refine lv_iload_n hx hb dX12_word_159 rfl (lv_at hl 1 rfl) ?_
                      refine h_iald hx hb hK hH (by decide) (rfl : kd 409 = 13) (s_vin (N := 64) (rfl : (i 36 49).toInt = _) (rfl : ln 409 = 64) (by omega) (by omega)) dX12_word_160 ?_
                      have ek_157 : (i 36 49).toNatClampNeg = ((i 36 49).toInt).toNat := (s_cl (show (i 36 49).toInt = (i 36 49).toInt by omega))
                      refine sj_i (y := (j1 409 ((i 36 49).toInt).toNat)) (by rw [ek_157]; exact (hfr_j2 409 ((i 36 49).toInt).toNat (by omega))) ?_
                      refine lv_iload_n hx hb dX12_word_161 rfl (lv_at hl 0 rfl) ?_
                      refine lv_iadd hx hb dX12_word_162 ?_
                      obtain ⟨z_158, ez_158, hz_158⟩ := s_add (rfl : (j1 409 ((i 36 49).toInt).toNat).toInt = _) (rfl : k9.toInt = _) (by omega) (by omega)
                      refine sj_i ez_158 ?_
                      have bx_159 : (0 : Int) ≤ (j1 411 ((j1 409 ((i 36 49).toInt).toNat).toInt + k9.toInt).toNat).toInt ∧ (j1 411 ((j1 409 ((i 36 49).toInt).toNat).toInt + k9.toInt).toNat).toInt ≤ 65535 := hO_j1 411 ((j1 409 ((i 36 49).toInt).toNat).toInt + k9.toInt).toNat
                      refine h_cald hx hb hK hH (by decide) (rfl : kd 411 = 14) (s_vin (N := 64) (rfl : z_158.toInt = _) (rfl : ln 411 = 64) (by omega) (by omega)) dX12_word_163 ?_
                      have ek_160 : z_158.toNatClampNeg = ((j1 409 ((i 36 49).toInt).toNat).toInt + k9.toInt).toNat := (s_cl (show z_158.toInt = (j1 409 ((i 36 49).toInt).toNat).toInt + k9.toInt by omega))
                      refine sj_i (y := (j1 411 ((j1 409 ((i 36 49).toInt).toNat).toInt + k9.toInt).toNat)) (by rw [ek_160]; exact (hfr_j2 411 ((j1 409 ((i 36 49).toInt).toNat).toInt + k9.toInt).toNat (by omega))) ?_
                      refine lv_iconst (v := 0) hx hb dX12_word_164 (by decide) ?_
                      have hl_161 : (1 : Int32).toInt = 1 := rfl
                      have hl_162 : (0 : Int32).toInt = 0 := rfl
                      have hwt_163 : (j2 36 49).toInt = ((j1 36 49) : Int32).toInt := congrArg Int32.toInt (hfr_j2 36 49 (by omega))
                      refine x_callv (va_runV (As := [.int 1, .int (j1 411 ((j1 409 ((i 36 49).toInt).toNat).toInt + k9.toInt).toNat), .int 0]) (rest := []) ⟨hx, hb, hml, hown, hts⟩ (m_addPart l D g ka ad j2 r L d 1 (j1 411 ((j1 409 ((i 36 49).toInt).toNat).toInt + k9.toInt).toNat) 0 hO_j2 hR H.size (by first | omega | decide) hi_lp_147_2 (by unfold pOk; omega)) (cwV 3 hts gX12_word_X12_addPart rfl rfl rfl (by decide +kernel) ⟨(Nat.le_of_ble_eq_true rfl), (Nat.le_of_ble_eq_true rfl)⟩) (x_preV (q := (RX12, TX12, 86)) hH hK (q_obj (by decide) (rfl : kd 36 = 12) (by decide)) rfl gxb (gxw hE hS (x_F hH hS hA))) rfl rfl hl.1 rfl (lv_room (Nat.le_of_ble_eq_true rfl)) dX12_word_165 ⟨(Nat.le_of_ble_eq_true rfl), (Nat.le_of_ble_eq_true rfl)⟩) hH hS hA rfl rfl (fun im_166 H locs hw_165 hH hS => ?_)
                      have hH : sj_H D A (hwc g ka im_166 r L d) H := hH
                      obtain ⟨hO_168, hfr_167, hx2_169, hx2_170, hx2_171⟩ := hw_165
                      have hap_172 := hx2_169
                      have hc49 : c4 im_166 = c4 j2 := (hx2_171.resolve_left (fun q => by have := q.1; omega)).2
                      obtain ⟨z_173, ez_173, hz_173⟩ := s_add (rfl : k9.toInt = _) (show (1 : Int32).toInt = 1 from rfl) (by omega) (by omega)
                      refine lv_iinc (v := z_173) (lv' := [(3, .int z_173), (2, .int (i 36 49)), (0, .ref (g 36)), (1, .ref (g 379))]) hx hb dX12_word_168 hl (k := 0) rfl ez_173 (by decide) rfl (fun ls hl => ?_)
                      refine lv_goto (tgt := 139) hx hb dX12_word_171 (by decide) ?_
                      have hp_174 : (im_166 36 45).toInt = ((im_166 36 45) : Int32).toInt := rfl
                      exact ih_lp_147 z_173 _ _ _ ls (by omega) (by omega) (by omega) (hc49.trans hi_lp_147_1) hx2_170 hO_168 (fun a b ha => ((hfr_167 a b (by omega)).trans (hfr_j2 a b (by omega)))) (lv_sub hl [0, 1, 2, 3] rfl) hH hS
                have hl_175 : (0 : Int32).toInt = 0 := rfl
                have hp_176 : (j1 36 45).toInt = ((i 36 45) : Int32).toInt := congrArg Int32.toInt (((hfr_j1 36 45 (by omega)).trans (hfr_5 36 45 (by omega))))
                exact lp_147 _ 0 _ _ _ ls (Nat.lt_succ_self _) (by omega) (by omega) (c4_fr ((hfr_j1 36 45 (by omega)).trans (hfr_5 36 45 (by omega))) (funext fun b => ((hfr_j1 406 b (by omega)).trans (hfr_5 406 b (by omega))))) hi_lp_13_2 hO_j1 (fun a b ha => rfl) (lv_sub hl [0, 1, 2, 3] rfl) hH hS
              · skip
                have h_177 := s_nle (rfl : z_144.toInt = _) (show (1 : Int32).toInt = 1 from rfl) c_145
                refine lv_aload_n hx hb dX12_word_123 rfl (lv_at hl 1 rfl) ?_
                refine lv_iconst (v := 3) hx hb dX12_word_124 (by decide) ?_
                refine lv_iload_n hx hb dX12_word_125 rfl (lv_at hl 0 rfl) ?_
                refine lv_aload_n hx hb dX12_word_126 rfl (lv_at hl 1 rfl) ?_
                refine h_geti (ci := 12) (C := RX12) (F := TX12) (N := 86) hx hb hts in12 hown hK hH (by decide) (rfl : kd 36 = 12) (by decide) rfl 49 (by decide) wd0 (fun _ h9 => h9) (by decide) rfl dX12_word_127 ?_
                refine lv_iload_n hx hb dX12_word_130 rfl (lv_at hl 0 rfl) ?_
                refine lv_isub hx hb dX12_word_131 ?_
                obtain ⟨z_178, ez_178, hz_178⟩ := s_sub (rfl : (j1 36 49).toInt = _) (rfl : (i 36 49).toInt = _) (by omega) (by omega)
                refine sj_i ez_178 ?_
                have hl_179 : (3 : Int32).toInt = 3 := rfl
                have hwt_180 : (j1 36 45).toInt = ((i 36 45) : Int32).toInt := congrArg Int32.toInt ((hfr_j1 36 45 (by omega)).trans (hfr_5 36 45 (by omega)))
                refine x_callv (va_runV (As := [.int 3, .int (i 36 49), .int z_178]) (rest := []) ⟨hx, hb, hml, hown, hts⟩ (m_addPart l D g ka ad j1 r L d 3 (i 36 49) z_178 hO_j1 hR H.size (by first | omega | decide) hi_lp_13_2 (by unfold pOk; omega)) (cwV 3 hts gX12_word_X12_addPart rfl rfl rfl (by decide +kernel) ⟨(Nat.le_of_ble_eq_true rfl), (Nat.le_of_ble_eq_true rfl)⟩) (x_preV (q := (RX12, TX12, 86)) hH hK (q_obj (by decide) (rfl : kd 36 = 12) (by decide)) rfl gxb (gxw hE hS (x_F hH hS hA))) rfl rfl hl.1 rfl (lv_room (Nat.le_of_ble_eq_true rfl)) dX12_word_132 ⟨(Nat.le_of_ble_eq_true rfl), (Nat.le_of_ble_eq_true rfl)⟩) hH hS hA rfl rfl (fun im_183 H locs hw_182 hH hS => ?_)
                have hH : sj_H D A (hwc g ka im_183 r L d) H := hH
                obtain ⟨hO_185, hfr_184, hx2_186, hx2_187, hx2_188⟩ := hw_182
                have hap_189 := hx2_186
                have hc49 : c4 im_183 = c4 j1 := (hx2_188.resolve_left (fun q => by have := q.1; omega)).2
                refine lv_iconst (v := 1) hx hb dX12_word_135 (by decide) ?_
                have hp_190 : (im_183 36 54).toInt = ((j1 36 54) : Int32).toInt := congrArg Int32.toInt ((hfr_184 36 54 (by omega)))
                have hp_191 : (im_183 36 52).toInt = ((j1 36 52) : Int32).toInt := congrArg Int32.toInt ((hfr_184 36 52 (by omega)))
                have hp_192 : (im_183 36 49).toInt = ((j1 36 49) : Int32).toInt := congrArg Int32.toInt ((hfr_184 36 49 (by omega)))
                have hp_193 : (im_183 36 45).toInt = ((im_183 36 45) : Int32).toInt := rfl
                have hV_194 : ((1 : Int32).toInt = 1 ∧ wdL (lnL (i 379) (i 36 54).toInt (i 36 55).toInt) 0 = some (lnL (i 379) (im_183 36 54).toInt (i 36 55).toInt) ∧ (i 36 54).toInt + 1 ≤ (im_183 36 54).toInt ∧ (im_183 36 54).toInt ≤ (i 36 55).toInt ∧ (im_183 36 45).toInt - (i 36 45).toInt ≤ (im_183 36 54).toInt - (i 36 54).toInt ∧ (im_183 36 49).toInt - (i 36 49).toInt ≤ (im_183 36 54).toInt - (i 36 54).toInt ∧ (im_183 36 52).toInt - (i 36 52).toInt ≤ (im_183 36 54).toInt - (i 36 54).toInt ∧ c4 im_183 = c4 i ∧ exI im_183) ∨ ((1 : Int32).toInt = 0 ∧ wdL (lnL (i 379) (i 36 54).toInt (i 36 55).toInt) 0 = none) := (Or.inl ⟨by rfl, (hi_lp_13_1.trans (wd_ok (by omega) (Or.inr ⟨by omega, (by unfold spC; omega)⟩) (by omega))).trans (by rw [show (im_183 36 54).toInt = (j1 36 54).toInt by omega]), by omega, by omega, by omega, by omega, by omega, (hc49.trans (c4_fr ((hfr_j1 36 45 (by omega)).trans (hfr_5 36 45 (by omega))) (funext fun b => ((hfr_j1 406 b (by omega)).trans (hfr_5 406 b (by omega)))))), hx2_187⟩)
                exact sj_zret hx hb hr hlocks (by decide +kernel) hS im_183 ⟨hO_185, (fun a b ha => ((hfr_184 a b (by omega)).trans ((hfr_j1 a b (by omega)).trans (hfr_5 a b (by omega))))), ⟨by decide, by decide⟩, hV_194⟩ hH (sj_Knil hK) (Nat.le_of_ble_eq_true rfl) (Nat.le_of_ble_eq_true rfl) dX12_word_136
            · skip
              have h_195 := s_eq (rfl : (j1 410 ((j1 36 49).toInt - 1).toNat).toInt = _) (show (0 : Int32).toInt = 0 from rfl) c_142
              refine lv_iconst (v := 0) hx hb dX12_word_111 (by decide) ?_
              have hV_196 : ((0 : Int32).toInt = 1 ∧ wdL (lnL (i 379) (i 36 54).toInt (i 36 55).toInt) 0 = some (lnL (i 379) (j1 36 54).toInt (i 36 55).toInt) ∧ (i 36 54).toInt + 1 ≤ (j1 36 54).toInt ∧ (j1 36 54).toInt ≤ (i 36 55).toInt ∧ (j1 36 45).toInt - (i 36 45).toInt ≤ (j1 36 54).toInt - (i 36 54).toInt ∧ (j1 36 49).toInt - (i 36 49).toInt ≤ (j1 36 54).toInt - (i 36 54).toInt ∧ (j1 36 52).toInt - (i 36 52).toInt ≤ (j1 36 54).toInt - (i 36 54).toInt ∧ c4 j1 = c4 i ∧ exI j1) ∨ ((0 : Int32).toInt = 0 ∧ wdL (lnL (i 379) (i 36 54).toInt (i 36 55).toInt) 0 = none) := (Or.inr ⟨by rfl, hi_lp_13_1.trans (wd_no (by omega) ⟨Or.inr ⟨by omega, Or.inl (by unfold spC; omega)⟩, by omega⟩)⟩)
              exact sj_zret hx hb hr hlocks (by decide +kernel) hS j1 ⟨hO_j1, (fun a b ha => ((hfr_j1 a b (by omega)).trans (hfr_5 a b (by omega)))), ⟨by decide, by decide⟩, hV_196⟩ hH (sj_Knil hK) (Nat.le_of_ble_eq_true rfl) (Nat.le_of_ble_eq_true rfl) dX12_word_112
          · skip
            have h_197 := s_eq (rfl : (i 379 ((j1 36 54).toInt).toNat).toInt = _) (show (47 : Int32).toInt = 47 from rfl) c_136
            refine lv_aload_n hx hb dX12_word_43 rfl (lv_at hl 2 rfl) ?_
            refine lv_aload_n hx hb dX12_word_44 rfl (lv_at hl 1 rfl) ?_
            refine h_geti (ci := 12) (C := RX12) (F := TX12) (N := 86) hx hb hts in12 hown hK hH (by decide) (rfl : kd 36 = 12) (by decide) rfl 54 (by decide) wd1 (fun _ h9 => h9) (by decide) rfl dX12_word_45 ?_
            refine h_cald hx hb hK hH (by decide) (rfl : kd 379 = 14) (s_vin (N := 480) (rfl : (j1 36 54).toInt = _) (rfl : ln 379 = 480) (by omega) (by omega)) dX12_word_48 ?_
            have ek_198 : (j1 36 54).toNatClampNeg = ((j1 36 54).toInt).toNat := (s_cl (show (j1 36 54).toInt = (j1 36 54).toInt by omega))
            refine sj_i (y := (i 379 ((j1 36 54).toInt).toNat)) (by rw [ek_198]; exact ((hfr_j1 379 ((j1 36 54).toInt).toNat (by omega)).trans (hfr_5 379 ((j1 36 54).toInt).toNat (by omega)))) ?_
            refine lv_bipush (v := 47) hx hb dX12_word_49 (by decide) ?_
            refine lv_icmp_ne (tgt := 87) hx hb dX12_word_51 (by decide) (fun h => absurd (p_eq (rfl : (i 379 ((j1 36 54).toInt).toNat).toInt = _) (show (47 : Int32).toInt = 47 from rfl) (by omega)) h) (fun _ => ?_)
            refine lv_aload_n hx hb dX12_word_54 rfl (lv_at hl 1 rfl) ?_
            refine h_getr (ci := 12) (C := RX12) (F := TX12) (N := 86) hx hb hts in12 hown hK hH (by decide) (rfl : kd 36 = 12) (by decide) rfl 51 (by decide) wd3 (fun _ h9 => h9) (by decide) rfl (t := 410) (hR 36 51 rfl) (by decide) dX12_word_55 ?_
            refine lv_aload_n hx hb dX12_word_58 rfl (lv_at hl 1 rfl) ?_
            have bx_199 : (0 : Int) ≤ (j1 36 49).toInt ∧ (j1 36 49).toInt ≤ 64 := hO_j1 36 49
            refine h_geti (ci := 12) (C := RX12) (F := TX12) (N := 86) hx hb hts in12 hown hK hH (by decide) (rfl : kd 36 = 12) (by decide) rfl 49 (by decide) wd0 (fun _ h9 => h9) (by decide) rfl dX12_word_59 ?_
            refine lv_iconst (v := 1) hx hb dX12_word_62 (by decide) ?_
            refine lv_isub hx hb dX12_word_63 ?_
            obtain ⟨z_200, ez_200, hz_200⟩ := s_sub (rfl : (j1 36 49).toInt = _) (show (1 : Int32).toInt = 1 from rfl) (by omega) (by omega)
            refine sj_i ez_200 ?_
            have hls_201 : lsz j1 = ((j1 410 ((j1 36 49).toInt - 1).toNat) : Int32).toInt := by unfold lsz; rw [show j1 36 49 = (j1 36 49) from rfl]; try exact congrArg Int32.toInt (rfl)
            refine h_iald hx hb hK hH (by decide) (rfl : kd 410 = 13) (s_vin (N := 64) (rfl : z_200.toInt = _) (rfl : ln 410 = 64) (by omega) (by omega)) dX12_word_64 ?_
            have ek_202 : z_200.toNatClampNeg = ((j1 36 49).toInt - 1).toNat := (s_cl (show z_200.toInt = (j1 36 49).toInt - 1 by omega))
            refine sj_i (y := (j1 410 ((j1 36 49).toInt - 1).toNat)) (by rw [ek_202]) ?_
            refine lv_if_ne (tgt := 70) hx hb dX12_word_65 (by decide) (fun c_203 => ?_) (fun c_203 => ?_)
            · skip
              have h_204 := s_ne (rfl : (j1 410 ((j1 36 49).toInt - 1).toNat).toInt = _) (show (0 : Int32).toInt = 0 from rfl) c_203
              refine lv_aload_n hx hb dX12_word_70 rfl (lv_at hl 1 rfl) ?_
              refine x_callv (va_runV (As := []) (rest := []) ⟨hx, hb, hml, hown, hts⟩ (m_openText l D g ka ad j1 r L d  hO_j1 hR H.size (by first | omega | decide) hi_lp_13_2) (cwV 0 hts gX12_word_X12_openText rfl rfl rfl (by decide +kernel) ⟨(Nat.le_of_ble_eq_true rfl), (Nat.le_of_ble_eq_true rfl)⟩) (x_preV (q := (RX12, TX12, 86)) hH hK (q_obj (by decide) (rfl : kd 36 = 12) (by decide)) rfl gxb (gxw hE hS (x_F hH hS hA))) rfl rfl hl.1 rfl (lv_room (Nat.le_of_ble_eq_true rfl)) dX12_word_71 ⟨(Nat.le_of_ble_eq_true rfl), (Nat.le_of_ble_eq_true rfl)⟩) hH hS hA rfl rfl (fun im_207 H locs hw_206 hH hS => ?_)
              have hH : sj_H D A (hwc g ka im_207 r L d) H := hH
              obtain ⟨hO_209, hfr_208, hx2_210, hx2_211, hx2_212, hx2_213⟩ := hw_206
              have hot_214 := hx2_211
              have hot_215 := hx2_212
              refine lv_aload_n hx hb dX12_word_74 rfl (lv_at hl 1 rfl) ?_
              refine lv_dup hx hb dX12_word_75 rfl ?_
              refine h_geti (ci := 12) (C := RX12) (F := TX12) (N := 86) hx hb hts in12 hown hK hH (by decide) (rfl : kd 36 = 12) (by decide) rfl 54 (by decide) wd1 (fun _ h9 => h9) (by decide) rfl dX12_word_76 ?_
              refine sj_i (y := (j1 36 54)) (hfr_208 36 54 (by omega)) ?_
              refine lv_iconst (v := 1) hx hb dX12_word_79 (by decide) ?_
              refine lv_iadd hx hb dX12_word_80 ?_
              obtain ⟨z_216, ez_216, hz_216⟩ := s_add (rfl : (j1 36 54).toInt = _) (show (1 : Int32).toInt = 1 from rfl) (by omega) (by omega)
              refine sj_i ez_216 ?_
              have hO_217 := okp hO_209 (n := 36) (k := 54) (v := z_216) (show (0 : Int) ≤ (z_216 : Int32).toInt ∧ (z_216 : Int32).toInt ≤ 720 from ⟨by omega, by omega⟩)
              refine h_puti (ty := .int) (ci := 12) (C := RX12) (F := TX12) (N := 86) hx hb hts in12 tyX12 tyX12_ok nmX12 hown hK hH hS (by decide) (rfl : kd 36 = 12) (by decide) rfl 54 (by decide) wd1 (fun _ h9 => h9) rfl (by decide +kernel) rfl rfl (by decide) rfl dX12_word_81 (fun H locs hH hS => ?_)
              refine lv_goto (tgt := 9) hx hb dX12_word_84 (by decide) ?_
              have hp_218 : ((up2 im_207 36 54 z_216) 36 54).toInt = (z_216 : Int32).toInt := congrArg Int32.toInt ((up2_at _ _ _ _))
              have hp_219 : ((up2 im_207 36 54 z_216) 36 52).toInt = ((j1 36 52) : Int32).toInt := congrArg Int32.toInt (((up2_k _ _ (by decide)).trans (hfr_208 36 52 (by omega))))
              have hp_220 : ((up2 im_207 36 54 z_216) 36 49).toInt = ((im_207 36 49) : Int32).toInt := congrArg Int32.toInt ((up2_k _ _ (by decide)))
              have hlz8 : lsz (up2 im_207 36 54 z_216) = 0 := by rw [lsz_fr (m := im_207) (u := (up2 im_207 36 54 z_216)) (up2_o _ _ (by omega)) (funext fun b => (up2_o _ _ (by omega)))]; exact hx2_212
              have hp_221 : ((up2 im_207 36 54 z_216) 36 54).toInt = (z_216 : Int32).toInt := congrArg Int32.toInt ((up2_at _ _ _ _))
              have hp_222 : ((up2 im_207 36 54 z_216) 36 49).toInt = ((im_207 36 49) : Int32).toInt := congrArg Int32.toInt ((up2_k _ _ (by decide)))
              have hlz : lsz (up2 im_207 36 54 z_216) = 0 := by rw [lsz_fr (m := im_207) (u := (up2 im_207 36 54 z_216)) (up2_o _ _ (by omega)) (funext fun b => (up2_o _ _ (by omega)))]; exact hx2_212
              exact ih_lp_13  _ _ _ ls (by omega) (by omega) (hi_lp_13_1.trans (by rw [wd_sl (by omega) (by omega) (by omega) (by omega), hlz, show ((up2 im_207 36 54 z_216) 36 54).toInt = (j1 36 54).toInt + 1 by omega])) (exI_fr hx2_210 (up2_o _ _ (by omega)) (up2_o _ _ (by omega)) (up2_o _ _ (by omega)) (fun a h1 h2 => funext fun b => (up2_o _ _ (by omega)))) hO_217 (fun a b ha => ((up2_o _ _ (by omega)).trans ((hfr_208 a b (by omega)).trans (hfr_j1 a b (by omega))))) (lv_sub hl [0, 1, 2] rfl) hH hS
            · skip
              have h_223 := s_eq (rfl : (j1 410 ((j1 36 49).toInt - 1).toNat).toInt = _) (show (0 : Int32).toInt = 0 from rfl) c_203
              refine lv_iconst (v := 0) hx hb dX12_word_68 (by decide) ?_
              have hV_224 : ((0 : Int32).toInt = 1 ∧ wdL (lnL (i 379) (i 36 54).toInt (i 36 55).toInt) 0 = some (lnL (i 379) (j1 36 54).toInt (i 36 55).toInt) ∧ (i 36 54).toInt + 1 ≤ (j1 36 54).toInt ∧ (j1 36 54).toInt ≤ (i 36 55).toInt ∧ (j1 36 45).toInt - (i 36 45).toInt ≤ (j1 36 54).toInt - (i 36 54).toInt ∧ (j1 36 49).toInt - (i 36 49).toInt ≤ (j1 36 54).toInt - (i 36 54).toInt ∧ (j1 36 52).toInt - (i 36 52).toInt ≤ (j1 36 54).toInt - (i 36 54).toInt ∧ c4 j1 = c4 i ∧ exI j1) ∨ ((0 : Int32).toInt = 0 ∧ wdL (lnL (i 379) (i 36 54).toInt (i 36 55).toInt) 0 = none) := (Or.inr ⟨by rfl, hi_lp_13_1.trans (wd_no (by omega) ⟨Or.inr ⟨by omega, Or.inr (by omega)⟩, by omega⟩)⟩)
              exact sj_zret hx hb hr hlocks (by decide +kernel) hS j1 ⟨hO_j1, (fun a b ha => ((hfr_j1 a b (by omega)).trans (hfr_5 a b (by omega)))), ⟨by decide, by decide⟩, hV_224⟩ hH (sj_Knil hK) (Nat.le_of_ble_eq_true rfl) (Nat.le_of_ble_eq_true rfl) dX12_word_69
  have hp_225 : (im_4 36 54).toInt = ((i 36 54) : Int32).toInt := congrArg Int32.toInt ((hfr_5 36 54 (by omega)))
  have hp_226 : (im_4 36 52).toInt = ((i 36 52) : Int32).toInt := congrArg Int32.toInt ((hfr_5 36 52 (by omega)))
  have hp_227 : (im_4 36 49).toInt = ((im_4 36 49) : Int32).toInt := rfl
  have hp_228 : (im_4 36 54).toInt = ((i 36 54) : Int32).toInt := congrArg Int32.toInt ((hfr_5 36 54 (by omega)))
  have hp_229 : (im_4 36 49).toInt = ((im_4 36 49) : Int32).toInt := rfl
  exact lp_13 _  _ _ _ ls (Nat.lt_succ_self _) (by omega) (by rw [show (im_4 36 54).toInt = (i 36 54).toInt by omega, hx2_9]) hx2_7 hO_6 (fun a b ha => rfl) (lv_sub hl [0, 1, 2] rfl) hH hS
set_option maxHeartbeats 2000000 in
set_option maxRecDepth 100000 in
theorem m_word_W (l : Launch) (D : va_G) (g : Nat → Nat) (ka : Nat → ClassId) (ad : Nat → Nat) (i : Nat → Nat → Int32) (r : Nat → Nat → Nat) (L : Nat → Nat → Int64) (d : Nat → Nat → UInt64)  (hO : OkI i) (hR : RS r) (sz : Nat) (hpu : (i 36 54).toInt < (i 36 55).toInt) (hul : (i 36 55).toInt ≤ 720) (ht : (i 36 49).toInt + ((i 36 55).toInt - (i 36 54).toInt) ≤ 63) (hp : (i 36 45).toInt + ((i 36 55).toInt - (i 36 54).toInt) ≤ 64) (hpo : (i 36 52).toInt + ((i 36 55).toInt - (i 36 54).toInt) ≤ 64) (hex : exI i) : Met l yX12_word wsX12_word ({ frames := 1, cells := 0, slots := 0, locals := 23 }) (va_Pc [.ref (g 36), .ref (g 403)] (sj_B D (hwc g ka i r L d) (hT ka) sz (gx ad (va_A (hwc g ka i r L d) sz)))) (sj_Qi (S := (Nat → Nat → Int32)) D (fun v u => OkI u ∧ (∀ a b, ¬ ((a = 36 ∧ (b = 45 ∨ b = 49 ∨ b = 52 ∨ b = 54)) ∨ a = 406 ∨ a = 407 ∨ a = 408 ∨ a = 409 ∨ a = 410 ∨ a = 411) → u a b = i a b) ∧ ((0 : Int) ≤ v.toInt ∧ v.toInt ≤ 1) ∧ ((v.toInt = 1 ∧ wdL (lnL (i 403) (i 36 54).toInt (i 36 55).toInt) 0 = some (lnL (i 403) (u 36 54).toInt (i 36 55).toInt) ∧ (i 36 54).toInt + 1 ≤ (u 36 54).toInt ∧ (u 36 54).toInt ≤ (i 36 55).toInt ∧ (u 36 45).toInt - (i 36 45).toInt ≤ (u 36 54).toInt - (i 36 54).toInt ∧ (u 36 49).toInt - (i 36 49).toInt ≤ (u 36 54).toInt - (i 36 54).toInt ∧ (u 36 52).toInt - (i 36 52).toInt ≤ (u 36 54).toInt - (i 36 54).toInt ∧ c4 u = c4 i ∧ exI u) ∨ (v.toInt = 0 ∧ wdL (lnL (i 403) (i 36 54).toInt (i 36 55).toInt) 0 = none))) (fun u => hwc g ka u r L d) (fun _ => []) (va_A (hwc g ka i r L d) sz)) 0 0 (va_A (hwc g ka i r L d) sz) := by
  refine x_met (Ex := gx ad) (cc := cX12_word) (maxL := 4) (ret := (some .boolean)) (by decide) rfl (Nat.le_of_ble_eq_true rfl) ?_
  intro p e s m below meth c A ls hx hb hr hml hts hown hlocks hA hS hH hK hE hl
  have hown : s.vm.findClass RX12 = some m.cls := hown
  have in12 : ∀ w ∈ wsX120, w ∈ wsX12_word := (fun _ h => (List.mem_cons_of_mem _ (List.mem_append_right _ h)))
  have wd0 := hts (.fieldLink RX12 260 "StoryDeskModel" "texts" "I") (List.mem_cons_of_mem _ (List.mem_append_left _ (List.mem_append_left _ lm0)))
  have wd1 := hts (.fieldLink RX12 269 "StoryDeskModel" "place" "I") (List.mem_cons_of_mem _ (List.mem_append_left _ (List.mem_append_left _ lm1)))
  have wd2 := hts (.fieldLink RX12 272 "StoryDeskModel" "until" "I") (List.mem_cons_of_mem _ (List.mem_append_left _ (List.mem_append_left _ lm2)))
  have wd3 := hts (.fieldLink RX12 266 "StoryDeskModel" "textSize" "[I") (List.mem_cons_of_mem _ (List.mem_append_left _ (List.mem_append_left _ lm3)))
  have wd4 := hts (.fieldLink RX12 275 "StoryDeskModel" "pool" "[C") (List.mem_cons_of_mem _ (List.mem_append_left _ (List.mem_append_left _ lm4)))
  have wd5 := hts (.fieldLink RX12 257 "StoryDeskModel" "textAt" "[I") (List.mem_cons_of_mem _ (List.mem_append_left _ (List.mem_append_left _ lm5)))
  have hl : lv_has ls 4 [(0, .ref (g 36)), (1, .ref (g 403))] := hl
  have hK : va_K D vwCl (hT ka) s := hK
  have hx45 : (0 : Int) ≤ (i 36 45).toInt ∧ (i 36 45).toInt ≤ 64 := hO 36 45
  have hx49 : (0 : Int) ≤ (i 36 49).toInt ∧ (i 36 49).toInt ≤ 64 := hO 36 49
  have hx52 : (0 : Int) ≤ (i 36 52).toInt ∧ (i 36 52).toInt ≤ 64 := hO 36 52
  have hx54 : (0 : Int) ≤ (i 36 54).toInt ∧ (i 36 54).toInt ≤ 720 := hO 36 54
  have hx55 : (0 : Int) ≤ (i 36 55).toInt ∧ (i 36 55).toInt ≤ 720 := hO 36 55
  refine lv_aload_n hx hb dX12_word_0 rfl (lv_at hl 0 rfl) ?_
  have bx_1 : (0 : Int) ≤ (i 36 49).toInt ∧ (i 36 49).toInt ≤ 64 := hO 36 49
  refine h_geti (ci := 12) (C := RX12) (F := TX12) (N := 86) hx hb hts in12 hown hK hH (by decide) (rfl : kd 36 = 12) (by decide) rfl 49 (by decide) wd0 (fun _ h9 => h9) (by decide) rfl dX12_word_1 ?_
  refine lv_istore_n (lv' := [(2, .int (i 36 49)), (0, .ref (g 36)), (1, .ref (g 403))]) hx hb dX12_word_4 rfl hl (by decide) rfl (fun ls hl => ?_)
  refine lv_aload_n hx hb dX12_word_5 rfl (lv_at hl 1 rfl) ?_
  refine x_callv (va_runV (As := []) (rest := []) ⟨hx, hb, hml, hown, hts⟩ (m_openText l D g ka ad i r L d  hO hR s.heap.size (by first | omega | decide) hex) (cwV 0 hts gX12_word_X12_openText rfl rfl rfl (by decide +kernel) ⟨(Nat.le_of_ble_eq_true rfl), (Nat.le_of_ble_eq_true rfl)⟩) (x_preV (q := (RX12, TX12, 86)) hH hK (q_obj (by decide) (rfl : kd 36 = 12) (by decide)) rfl gxb (gxw hE hS (x_F hH hS hA))) rfl rfl hl.1 rfl (lv_room (Nat.le_of_ble_eq_true rfl)) dX12_word_6 ⟨(Nat.le_of_ble_eq_true rfl), (Nat.le_of_ble_eq_true rfl)⟩) hH hS hA rfl rfl (fun im_4 H locs hw_3 hH hS => ?_)
  have hH : sj_H D A (hwc g ka im_4 r L d) H := hH
  obtain ⟨hO_6, hfr_5, hx2_7, hx2_8, hx2_9, hx2_10⟩ := hw_3
  have hot_11 := hx2_8
  have hot_12 := hx2_9
  -- loop at 9
  have lp_13 : ∀ (fuel_lp_13 : Nat)  (j1 : Nat → Nat → Int32) (H : Heap) (locs : List Loc) (ls : Array Slot), ((i 36 55).toInt - (j1 36 54).toInt).toNat < fuel_lp_13 → ((i 36 54).toInt ≤ (j1 36 54).toInt ∧ (j1 36 54).toInt ≤ (i 36 55).toInt) ∧ (j1 36 52).toInt - (i 36 52).toInt ≤ (j1 36 54).toInt - (i 36 54).toInt ∧ (i 36 49).toInt + 1 ≤ (j1 36 49).toInt ∧ 0 ≤ lsz j1 ∧ 2 * ((j1 36 49).toInt - (i 36 49).toInt - 1) + lsz j1 ≤ (j1 36 54).toInt - (i 36 54).toInt → wdL (lnL (i 403) (i 36 54).toInt (i 36 55).toInt) 0 = wdL (lnL (i 403) (j1 36 54).toInt (i 36 55).toInt) (lsz j1) → exI j1 → OkI j1 → (∀ a b, ¬ ((a = 36 ∧ (b = 49 ∨ b = 52 ∨ b = 54)) ∨ a = 409 ∨ a = 410 ∨ a = 411) → j1 a b = im_4 a b) → lv_has ls 4 [(2, .int (i 36 49)), (0, .ref (g 36)), (1, .ref (g 403))] → sj_H D A (hwc g ka j1 r L d) H → va_S A s.heap H locs → W p l e (headSpec wsX12_word ({ frames := 1, cells := 0, slots := 0, locals := 23 })).room s m ([.ref (g 36), .ref (g 403)] : List Value).toArray below meth c H locs 0 0 (MQ below (sj_Qi (S := (Nat → Nat → Int32)) D (fun v u => OkI u ∧ (∀ a b, ¬ ((a = 36 ∧ (b = 45 ∨ b = 49 ∨ b = 52 ∨ b = 54)) ∨ a = 406 ∨ a = 407 ∨ a = 408 ∨ a = 409 ∨ a = 410 ∨ a = 411) → u a b = i a b) ∧ ((0 : Int) ≤ v.toInt ∧ v.toInt ≤ 1) ∧ ((v.toInt = 1 ∧ wdL (lnL (i 403) (i 36 54).toInt (i 36 55).toInt) 0 = some (lnL (i 403) (u 36 54).toInt (i 36 55).toInt) ∧ (i 36 54).toInt + 1 ≤ (u 36 54).toInt ∧ (u 36 54).toInt ≤ (i 36 55).toInt ∧ (u 36 45).toInt - (i 36 45).toInt ≤ (u 36 54).toInt - (i 36 54).toInt ∧ (u 36 49).toInt - (i 36 49).toInt ≤ (u 36 54).toInt - (i 36 54).toInt ∧ (u 36 52).toInt - (i 36 52).toInt ≤ (u 36 54).toInt - (i 36 54).toInt ∧ c4 u = c4 i ∧ exI u) ∨ (v.toInt = 0 ∧ wdL (lnL (i 403) (i 36 54).toInt (i 36 55).toInt) 0 = none))) (fun u => hwc g ka u r L d) (fun _ => []) A) ([.ref (g 36), .ref (g 403)] : List Value).toArray s 0 0 A) (F0 m 9 ls []) := by
    intro fuel_lp_13
    induction fuel_lp_13 with
    | zero => intros; omega
    | succ fuel_lp_13 ih_lp_13 =>
      intro j1 H locs ls hm hi_lp_13_0 hi_lp_13_1 hi_lp_13_2 hO_j1 hfr_j1 hl hH hS
      refine lv_aload_n hx hb dX12_word_9 rfl (lv_at hl 1 rfl) ?_
      have bx_14 : (0 : Int) ≤ (j1 36 54).toInt ∧ (j1 36 54).toInt ≤ 720 := hO_j1 36 54
      refine h_geti (ci := 12) (C := RX12) (F := TX12) (N := 86) hx hb hts in12 hown hK hH (by decide) (rfl : kd 36 = 12) (by decide) rfl 54 (by decide) wd1 (fun _ h9 => h9) (by decide) rfl dX12_word_10 ?_
      refine lv_aload_n hx hb dX12_word_13 rfl (lv_at hl 1 rfl) ?_
      have bx_15 : (0 : Int) ≤ (i 36 55).toInt ∧ (i 36 55).toInt ≤ 720 := hO 36 55
      refine h_geti (ci := 12) (C := RX12) (F := TX12) (N := 86) hx hb hts in12 hown hK hH (by decide) (rfl : kd 36 = 12) (by decide) rfl 55 (by decide) wd2 (fun _ h9 => h9) (by decide) rfl dX12_word_14 ?_
      refine sj_i (y := (i 36 55)) ((hfr_j1 36 55 (by omega)).trans (hfr_5 36 55 (by omega))) ?_
      refine lv_icmp_ge (tgt := 97) hx hb dX12_word_17 (by decide) (fun c_16 => ?_) (fun c_16 => ?_)
      · skip
        have h_17 := s_le (rfl : (i 36 55).toInt = _) (rfl : (j1 36 54).toInt = _) c_16
        refine lv_aload_n hx hb dX12_word_97 rfl (lv_at hl 1 rfl) ?_
        refine h_getr (ci := 12) (C := RX12) (F := TX12) (N := 86) hx hb hts in12 hown hK hH (by decide) (rfl : kd 36 = 12) (by decide) rfl 51 (by decide) wd3 (fun _ h9 => h9) (by decide) rfl (t := 410) (hR 36 51 rfl) (by decide) dX12_word_98 ?_
        refine lv_aload_n hx hb dX12_word_101 rfl (lv_at hl 1 rfl) ?_
        have bx_18 : (0 : Int) ≤ (j1 36 49).toInt ∧ (j1 36 49).toInt ≤ 64 := hO_j1 36 49
        refine h_geti (ci := 12) (C := RX12) (F := TX12) (N := 86) hx hb hts in12 hown hK hH (by decide) (rfl : kd 36 = 12) (by decide) rfl 49 (by decide) wd0 (fun _ h9 => h9) (by decide) rfl dX12_word_102 ?_
        refine lv_iconst (v := 1) hx hb dX12_word_105 (by decide) ?_
        refine lv_isub hx hb dX12_word_106 ?_
        obtain ⟨z_19, ez_19, hz_19⟩ := s_sub (rfl : (j1 36 49).toInt = _) (show (1 : Int32).toInt = 1 from rfl) (by omega) (by omega)
        refine sj_i ez_19 ?_
        have hls_20 : lsz j1 = ((j1 410 ((j1 36 49).toInt - 1).toNat) : Int32).toInt := by unfold lsz; rw [show j1 36 49 = (j1 36 49) from rfl]; try exact congrArg Int32.toInt (rfl)
        refine h_iald hx hb hK hH (by decide) (rfl : kd 410 = 13) (s_vin (N := 64) (rfl : z_19.toInt = _) (rfl : ln 410 = 64) (by omega) (by omega)) dX12_word_107 ?_
        have ek_21 : z_19.toNatClampNeg = ((j1 36 49).toInt - 1).toNat := (s_cl (show z_19.toInt = (j1 36 49).toInt - 1 by omega))
        refine sj_i (y := (j1 410 ((j1 36 49).toInt - 1).toNat)) (by rw [ek_21]) ?_
        refine lv_if_ne (tgt := 113) hx hb dX12_word_108 (by decide) (fun c_22 => ?_) (fun c_22 => ?_)
        · skip
          have h_23 := s_ne (rfl : (j1 410 ((j1 36 49).toInt - 1).toNat).toInt = _) (show (0 : Int32).toInt = 0 from rfl) c_22
          refine lv_aload_n hx hb dX12_word_113 rfl (lv_at hl 1 rfl) ?_
          refine h_geti (ci := 12) (C := RX12) (F := TX12) (N := 86) hx hb hts in12 hown hK hH (by decide) (rfl : kd 36 = 12) (by decide) rfl 49 (by decide) wd0 (fun _ h9 => h9) (by decide) rfl dX12_word_114 ?_
          refine lv_iload_n hx hb dX12_word_117 rfl (lv_at hl 0 rfl) ?_
          refine lv_isub hx hb dX12_word_118 ?_
          obtain ⟨z_24, ez_24, hz_24⟩ := s_sub (rfl : (j1 36 49).toInt = _) (rfl : (i 36 49).toInt = _) (by omega) (by omega)
          refine sj_i ez_24 ?_
          refine lv_iconst (v := 1) hx hb dX12_word_119 (by decide) ?_
          refine lv_icmp_le (tgt := 137) hx hb dX12_word_120 (by decide) (fun c_25 => ?_) (fun c_25 => ?_)
          · skip
            have h_26 := s_le (rfl : z_24.toInt = _) (show (1 : Int32).toInt = 1 from rfl) c_25
            have hl9 : (j1 410 (i 36 49).toInt.toNat).toInt = lsz j1 := by unfold lsz; rw [show ((j1 36 49).toInt - 1).toNat = (i 36 49).toInt.toNat by omega]
            have hw9 := hi_lp_13_2.2 (i 36 49).toInt.toNat (by omega)
            have hw1 := hw9.1
            have hw2 := hw9.2.1
            have hw3 := hw9.2.2
            have hx52j : (0 : Int) ≤ (j1 36 52).toInt ∧ (j1 36 52).toInt ≤ 64 := hO_j1 36 52
            refine lv_iconst (v := 0) hx hb dX12_word_137 (by decide) ?_
            refine lv_istore_n (lv' := [(3, .int 0), (2, .int (i 36 49)), (0, .ref (g 36)), (1, .ref (g 403))]) hx hb dX12_word_138 rfl hl (by decide) rfl (fun ls hl => ?_)
            -- loop at 139
            have lp_27 : ∀ (fuel_lp_27 : Nat) (k9 : Int32) (j2 : Nat → Nat → Int32) (H : Heap) (locs : List Loc) (ls : Array Slot), (64 - k9.toInt).toNat < fuel_lp_27 → (0 : Int) ≤ k9.toInt ∧ k9.toInt ≤ 64 → (j2 36 45).toInt = (i 36 45).toInt + k9.toInt ∧ k9.toInt ≤ lsz j1 → c4 j2 = c4 i → exI j2 → OkI j2 → (∀ a b, ¬ ((a = 36 ∧ (b = 45)) ∨ a = 406 ∨ a = 407 ∨ a = 408) → j2 a b = j1 a b) → lv_has ls 4 [(3, .int k9), (2, .int (i 36 49)), (0, .ref (g 36)), (1, .ref (g 403))] → sj_H D A (hwc g ka j2 r L d) H → va_S A s.heap H locs → W p l e (headSpec wsX12_word ({ frames := 1, cells := 0, slots := 0, locals := 23 })).room s m ([.ref (g 36), .ref (g 403)] : List Value).toArray below meth c H locs 0 0 (MQ below (sj_Qi (S := (Nat → Nat → Int32)) D (fun v u => OkI u ∧ (∀ a b, ¬ ((a = 36 ∧ (b = 45 ∨ b = 49 ∨ b = 52 ∨ b = 54)) ∨ a = 406 ∨ a = 407 ∨ a = 408 ∨ a = 409 ∨ a = 410 ∨ a = 411) → u a b = i a b) ∧ ((0 : Int) ≤ v.toInt ∧ v.toInt ≤ 1) ∧ ((v.toInt = 1 ∧ wdL (lnL (i 403) (i 36 54).toInt (i 36 55).toInt) 0 = some (lnL (i 403) (u 36 54).toInt (i 36 55).toInt) ∧ (i 36 54).toInt + 1 ≤ (u 36 54).toInt ∧ (u 36 54).toInt ≤ (i 36 55).toInt ∧ (u 36 45).toInt - (i 36 45).toInt ≤ (u 36 54).toInt - (i 36 54).toInt ∧ (u 36 49).toInt - (i 36 49).toInt ≤ (u 36 54).toInt - (i 36 54).toInt ∧ (u 36 52).toInt - (i 36 52).toInt ≤ (u 36 54).toInt - (i 36 54).toInt ∧ c4 u = c4 i ∧ exI u) ∨ (v.toInt = 0 ∧ wdL (lnL (i 403) (i 36 54).toInt (i 36 55).toInt) 0 = none))) (fun u => hwc g ka u r L d) (fun _ => []) A) ([.ref (g 36), .ref (g 403)] : List Value).toArray s 0 0 A) (F0 m 139 ls []) := by
              intro fuel_lp_27
              induction fuel_lp_27 with
              | zero => intros; omega
              | succ fuel_lp_27 ih_lp_27 =>
                intro k9 j2 H locs ls hm hr_k9 hi_lp_27_0 hi_lp_27_1 hi_lp_27_2 hO_j2 hfr_j2 hl hH hS
                refine lv_iload_n hx hb dX12_word_139 rfl (lv_at hl 0 rfl) ?_
                refine lv_aload_n hx hb dX12_word_140 rfl (lv_at hl 2 rfl) ?_
                refine h_getr (ci := 12) (C := RX12) (F := TX12) (N := 86) hx hb hts in12 hown hK hH (by decide) (rfl : kd 36 = 12) (by decide) rfl 51 (by decide) wd3 (fun _ h9 => h9) (by decide) rfl (t := 410) (hR 36 51 rfl) (by decide) dX12_word_141 ?_
                refine lv_iload_n hx hb dX12_word_144 rfl (lv_at hl 1 rfl) ?_
                refine h_iald hx hb hK hH (by decide) (rfl : kd 410 = 13) (s_vin (N := 64) (rfl : (i 36 49).toInt = _) (rfl : ln 410 = 64) (by omega) (by omega)) dX12_word_145 ?_
                have ek_28 : (i 36 49).toNatClampNeg = ((i 36 49).toInt).toNat := (s_cl (show (i 36 49).toInt = (i 36 49).toInt by omega))
                refine sj_i (y := (j1 410 ((i 36 49).toInt).toNat)) (by rw [ek_28]; exact (hfr_j2 410 ((i 36 49).toInt).toNat (by omega))) ?_
                refine lv_icmp_ge (tgt := 174) hx hb dX12_word_146 (by decide) (fun c_29 => ?_) (fun c_29 => ?_)
                · skip
                  have h_30 := s_le (rfl : (j1 410 ((i 36 49).toInt).toNat).toInt = _) (rfl : k9.toInt = _) c_29
                  refine lv_iconst (v := 1) hx hb dX12_word_174 (by decide) ?_
                  have hp_31 : (j2 36 54).toInt = ((j1 36 54) : Int32).toInt := congrArg Int32.toInt ((hfr_j2 36 54 (by omega)))
                  have hp_32 : (j2 36 52).toInt = ((j1 36 52) : Int32).toInt := congrArg Int32.toInt ((hfr_j2 36 52 (by omega)))
                  have hp_33 : (j2 36 49).toInt = ((j1 36 49) : Int32).toInt := congrArg Int32.toInt ((hfr_j2 36 49 (by omega)))
                  have hp_34 : (j2 36 45).toInt = ((j2 36 45) : Int32).toInt := rfl
                  have hV_35 : ((1 : Int32).toInt = 1 ∧ wdL (lnL (i 403) (i 36 54).toInt (i 36 55).toInt) 0 = some (lnL (i 403) (j2 36 54).toInt (i 36 55).toInt) ∧ (i 36 54).toInt + 1 ≤ (j2 36 54).toInt ∧ (j2 36 54).toInt ≤ (i 36 55).toInt ∧ (j2 36 45).toInt - (i 36 45).toInt ≤ (j2 36 54).toInt - (i 36 54).toInt ∧ (j2 36 49).toInt - (i 36 49).toInt ≤ (j2 36 54).toInt - (i 36 54).toInt ∧ (j2 36 52).toInt - (i 36 52).toInt ≤ (j2 36 54).toInt - (i 36 54).toInt ∧ c4 j2 = c4 i ∧ exI j2) ∨ ((1 : Int32).toInt = 0 ∧ wdL (lnL (i 403) (i 36 54).toInt (i 36 55).toInt) 0 = none) := (Or.inl ⟨by rfl, (hi_lp_13_1.trans (wd_ok (by omega) (Or.inl (by omega)) (by omega))).trans (by rw [show (j2 36 54).toInt = (j1 36 54).toInt by omega]), by omega, by omega, by omega, by omega, by omega, hi_lp_27_1, hi_lp_27_2⟩)
                  exact sj_zret hx hb hr hlocks (by decide +kernel) hS j2 ⟨hO_j2, (fun a b ha => ((hfr_j2 a b (by omega)).trans ((hfr_j1 a b (by omega)).trans (hfr_5 a b (by omega))))), ⟨by decide, by decide⟩, hV_35⟩ hH (sj_Knil hK) (Nat.le_of_ble_eq_true rfl) (Nat.le_of_ble_eq_true rfl) dX12_word_175
                · skip
                  have h_36 := s_nle (rfl : (j1 410 ((i 36 49).toInt).toNat).toInt = _) (rfl : k9.toInt = _) c_29
                  refine lv_aload_n hx hb dX12_word_149 rfl (lv_at hl 2 rfl) ?_
                  refine lv_iconst (v := 1) hx hb dX12_word_150 (by decide) ?_
                  refine lv_aload_n hx hb dX12_word_151 rfl (lv_at hl 2 rfl) ?_
                  refine h_getr (ci := 12) (C := RX12) (F := TX12) (N := 86) hx hb hts in12 hown hK hH (by decide) (rfl : kd 36 = 12) (by decide) rfl 53 (by decide) wd4 (fun _ h9 => h9) (by decide) rfl (t := 411) (hR 36 53 rfl) (by decide) dX12_word_152 ?_
                  refine lv_aload_n hx hb dX12_word_155 rfl (lv_at hl 2 rfl) ?_
                  refine h_getr (ci := 12) (C := RX12) (F := TX12) (N := 86) hx hb hts in12 hown hK hH (by decide) (rfl : kd 36 = 12) (by decide) rfl 50 (by decide) wd5 (fun _ h9 => h9) (by decide) rfl (t := 409) (hR 36 50 rfl) (by decide) dX12_word_156 ?_
                  refine lv_iload_n hx hb dX12_word_159 rfl (lv_at hl 1 rfl) ?_
                  refine h_iald hx hb hK hH (by decide) (rfl : kd 409 = 13) (s_vin (N := 64) (rfl : (i 36 49).toInt = _) (rfl : ln 409 = 64) (by omega) (by omega)) dX12_word_160 ?_
                  have ek_37 : (i 36 49).toNatClampNeg = ((i 36 49).toInt).toNat := (s_cl (show (i 36 49).toInt = (i 36 49).toInt by omega))
                  refine sj_i (y := (j1 409 ((i 36 49).toInt).toNat)) (by rw [ek_37]; exact (hfr_j2 409 ((i 36 49).toInt).toNat (by omega))) ?_
                  refine lv_iload_n hx hb dX12_word_161 rfl (lv_at hl 0 rfl) ?_
                  refine lv_iadd hx hb dX12_word_162 ?_
                  obtain ⟨z_38, ez_38, hz_38⟩ := s_add (rfl : (j1 409 ((i 36 49).toInt).toNat).toInt = _) (rfl : k9.toInt = _) (by omega) (by omega)
                  refine sj_i ez_38 ?_
                  have bx_39 : (0 : Int) ≤ (j1 411 ((j1 409 ((i 36 49).toInt).toNat).toInt + k9.toInt).toNat).toInt ∧ (j1 411 ((j1 409 ((i 36 49).toInt).toNat).toInt + k9.toInt).toNat).toInt ≤ 65535 := hO_j1 411 ((j1 409 ((i 36 49).toInt).toNat).toInt + k9.toInt).toNat
                  refine h_cald hx hb hK hH (by decide) (rfl : kd 411 = 14) (s_vin (N := 64) (rfl : z_38.toInt = _) (rfl : ln 411 = 64) (by omega) (by omega)) dX12_word_163 ?_
                  have ek_40 : z_38.toNatClampNeg = ((j1 409 ((i 36 49).toInt).toNat).toInt + k9.toInt).toNat := (s_cl (show z_38.toInt = (j1 409 ((i 36 49).toInt).toNat).toInt + k9.toInt by omega))
                  refine sj_i (y := (j1 411 ((j1 409 ((i 36 49).toInt).toNat).toInt + k9.toInt).toNat)) (by rw [ek_40]; exact (hfr_j2 411 ((j1 409 ((i 36 49).toInt).toNat).toInt + k9.toInt).toNat (by omega))) ?_
                  refine lv_iconst (v := 0) hx hb dX12_word_164 (by decide) ?_
                  have hl_41 : (1 : Int32).toInt = 1 := rfl
                  have hl_42 : (0 : Int32).toInt = 0 := rfl
                  have hwt_43 : (j2 36 49).toInt = ((j1 36 49) : Int32).toInt := congrArg Int32.toInt (hfr_j2 36 49 (by omega))
                  refine x_callv (va_runV (As := [.int 1, .int (j1 411 ((j1 409 ((i 36 49).toInt).toNat).toInt + k9.toInt).toNat), .int 0]) (rest := []) ⟨hx, hb, hml, hown, hts⟩ (m_addPart l D g ka ad j2 r L d 1 (j1 411 ((j1 409 ((i 36 49).toInt).toNat).toInt + k9.toInt).toNat) 0 hO_j2 hR H.size (by first | omega | decide) hi_lp_27_2 (by unfold pOk; omega)) (cwV 3 hts gX12_word_X12_addPart rfl rfl rfl (by decide +kernel) ⟨(Nat.le_of_ble_eq_true rfl), (Nat.le_of_ble_eq_true rfl)⟩) (x_preV (q := (RX12, TX12, 86)) hH hK (q_obj (by decide) (rfl : kd 36 = 12) (by decide)) rfl gxb (gxw hE hS (x_F hH hS hA))) rfl rfl hl.1 rfl (lv_room (Nat.le_of_ble_eq_true rfl)) dX12_word_165 ⟨(Nat.le_of_ble_eq_true rfl), (Nat.le_of_ble_eq_true rfl)⟩) hH hS hA rfl rfl (fun im_46 H locs hw_45 hH hS => ?_)
                  have hH : sj_H D A (hwc g ka im_46 r L d) H := hH
                  obtain ⟨hO_48, hfr_47, hx2_49, hx2_50, hx2_51⟩ := hw_45
                  have hap_52 := hx2_49
                  have hc49 : c4 im_46 = c4 j2 := (hx2_51.resolve_left (fun q => by have := q.1; omega)).2
                  obtain ⟨z_53, ez_53, hz_53⟩ := s_add (rfl : k9.toInt = _) (show (1 : Int32).toInt = 1 from rfl) (by omega) (by omega)
                  refine lv_iinc (v := z_53) (lv' := [(3, .int z_53), (2, .int (i 36 49)), (0, .ref (g 36)), (1, .ref (g 403))]) hx hb dX12_word_168 hl (k := 0) rfl ez_53 (by decide) rfl (fun ls hl => ?_)
                  refine lv_goto (tgt := 139) hx hb dX12_word_171 (by decide) ?_
                  have hp_54 : (im_46 36 45).toInt = ((im_46 36 45) : Int32).toInt := rfl
                  exact ih_lp_27 z_53 _ _ _ ls (by omega) (by omega) (by omega) (hc49.trans hi_lp_27_1) hx2_50 hO_48 (fun a b ha => ((hfr_47 a b (by omega)).trans (hfr_j2 a b (by omega)))) (lv_sub hl [0, 1, 2, 3] rfl) hH hS
            have hl_55 : (0 : Int32).toInt = 0 := rfl
            have hp_56 : (j1 36 45).toInt = ((i 36 45) : Int32).toInt := congrArg Int32.toInt (((hfr_j1 36 45 (by omega)).trans (hfr_5 36 45 (by omega))))
            exact lp_27 _ 0 _ _ _ ls (Nat.lt_succ_self _) (by omega) (by omega) (c4_fr ((hfr_j1 36 45 (by omega)).trans (hfr_5 36 45 (by omega))) (funext fun b => ((hfr_j1 406 b (by omega)).trans (hfr_5 406 b (by omega))))) hi_lp_13_2 hO_j1 (fun a b ha => rfl) (lv_sub hl [0, 1, 2, 3] rfl) hH hS
          · skip
            have h_57 := s_nle (rfl : z_24.toInt = _) (show (1 : Int32).toInt = 1 from rfl) c_25
            refine lv_aload_n hx hb dX12_word_123 rfl (lv_at hl 1 rfl) ?_
            refine lv_iconst (v := 3) hx hb dX12_word_124 (by decide) ?_
            refine lv_iload_n hx hb dX12_word_125 rfl (lv_at hl 0 rfl) ?_
            refine lv_aload_n hx hb dX12_word_126 rfl (lv_at hl 1 rfl) ?_
            refine h_geti (ci := 12) (C := RX12) (F := TX12) (N := 86) hx hb hts in12 hown hK hH (by decide) (rfl : kd 36 = 12) (by decide) rfl 49 (by decide) wd0 (fun _ h9 => h9) (by decide) rfl dX12_word_127 ?_
            refine lv_iload_n hx hb dX12_word_130 rfl (lv_at hl 0 rfl) ?_
            refine lv_isub hx hb dX12_word_131 ?_
            obtain ⟨z_58, ez_58, hz_58⟩ := s_sub (rfl : (j1 36 49).toInt = _) (rfl : (i 36 49).toInt = _) (by omega) (by omega)
            refine sj_i ez_58 ?_
            have hl_59 : (3 : Int32).toInt = 3 := rfl
            have hwt_60 : (j1 36 45).toInt = ((i 36 45) : Int32).toInt := congrArg Int32.toInt ((hfr_j1 36 45 (by omega)).trans (hfr_5 36 45 (by omega)))
            refine x_callv (va_runV (As := [.int 3, .int (i 36 49), .int z_58]) (rest := []) ⟨hx, hb, hml, hown, hts⟩ (m_addPart l D g ka ad j1 r L d 3 (i 36 49) z_58 hO_j1 hR H.size (by first | omega | decide) hi_lp_13_2 (by unfold pOk; omega)) (cwV 3 hts gX12_word_X12_addPart rfl rfl rfl (by decide +kernel) ⟨(Nat.le_of_ble_eq_true rfl), (Nat.le_of_ble_eq_true rfl)⟩) (x_preV (q := (RX12, TX12, 86)) hH hK (q_obj (by decide) (rfl : kd 36 = 12) (by decide)) rfl gxb (gxw hE hS (x_F hH hS hA))) rfl rfl hl.1 rfl (lv_room (Nat.le_of_ble_eq_true rfl)) dX12_word_132 ⟨(Nat.le_of_ble_eq_true rfl), (Nat.le_of_ble_eq_true rfl)⟩) hH hS hA rfl rfl (fun im_63 H locs hw_62 hH hS => ?_)
            have hH : sj_H D A (hwc g ka im_63 r L d) H := hH
            obtain ⟨hO_65, hfr_64, hx2_66, hx2_67, hx2_68⟩ := hw_62
            have hap_69 := hx2_66
            have hc49 : c4 im_63 = c4 j1 := (hx2_68.resolve_left (fun q => by have := q.1; omega)).2
            refine lv_iconst (v := 1) hx hb dX12_word_135 (by decide) ?_
            have hp_70 : (im_63 36 54).toInt = ((j1 36 54) : Int32).toInt := congrArg Int32.toInt ((hfr_64 36 54 (by omega)))
            have hp_71 : (im_63 36 52).toInt = ((j1 36 52) : Int32).toInt := congrArg Int32.toInt ((hfr_64 36 52 (by omega)))
            have hp_72 : (im_63 36 49).toInt = ((j1 36 49) : Int32).toInt := congrArg Int32.toInt ((hfr_64 36 49 (by omega)))
            have hp_73 : (im_63 36 45).toInt = ((im_63 36 45) : Int32).toInt := rfl
            have hV_74 : ((1 : Int32).toInt = 1 ∧ wdL (lnL (i 403) (i 36 54).toInt (i 36 55).toInt) 0 = some (lnL (i 403) (im_63 36 54).toInt (i 36 55).toInt) ∧ (i 36 54).toInt + 1 ≤ (im_63 36 54).toInt ∧ (im_63 36 54).toInt ≤ (i 36 55).toInt ∧ (im_63 36 45).toInt - (i 36 45).toInt ≤ (im_63 36 54).toInt - (i 36 54).toInt ∧ (im_63 36 49).toInt - (i 36 49).toInt ≤ (im_63 36 54).toInt - (i 36 54).toInt ∧ (im_63 36 52).toInt - (i 36 52).toInt ≤ (im_63 36 54).toInt - (i 36 54).toInt ∧ c4 im_63 = c4 i ∧ exI im_63) ∨ ((1 : Int32).toInt = 0 ∧ wdL (lnL (i 403) (i 36 54).toInt (i 36 55).toInt) 0 = none) := (Or.inl ⟨by rfl, (hi_lp_13_1.trans (wd_ok (by omega) (Or.inl (by omega)) (by omega))).trans (by rw [show (im_63 36 54).toInt = (j1 36 54).toInt by omega]), by omega, by omega, by omega, by omega, by omega, (hc49.trans (c4_fr ((hfr_j1 36 45 (by omega)).trans (hfr_5 36 45 (by omega))) (funext fun b => ((hfr_j1 406 b (by omega)).trans (hfr_5 406 b (by omega)))))), hx2_67⟩)
            exact sj_zret hx hb hr hlocks (by decide +kernel) hS im_63 ⟨hO_65, (fun a b ha => ((hfr_64 a b (by omega)).trans ((hfr_j1 a b (by omega)).trans (hfr_5 a b (by omega))))), ⟨by decide, by decide⟩, hV_74⟩ hH (sj_Knil hK) (Nat.le_of_ble_eq_true rfl) (Nat.le_of_ble_eq_true rfl) dX12_word_136
        · skip
          have h_75 := s_eq (rfl : (j1 410 ((j1 36 49).toInt - 1).toNat).toInt = _) (show (0 : Int32).toInt = 0 from rfl) c_22
          refine lv_iconst (v := 0) hx hb dX12_word_111 (by decide) ?_
          have hV_76 : ((0 : Int32).toInt = 1 ∧ wdL (lnL (i 403) (i 36 54).toInt (i 36 55).toInt) 0 = some (lnL (i 403) (j1 36 54).toInt (i 36 55).toInt) ∧ (i 36 54).toInt + 1 ≤ (j1 36 54).toInt ∧ (j1 36 54).toInt ≤ (i 36 55).toInt ∧ (j1 36 45).toInt - (i 36 45).toInt ≤ (j1 36 54).toInt - (i 36 54).toInt ∧ (j1 36 49).toInt - (i 36 49).toInt ≤ (j1 36 54).toInt - (i 36 54).toInt ∧ (j1 36 52).toInt - (i 36 52).toInt ≤ (j1 36 54).toInt - (i 36 54).toInt ∧ c4 j1 = c4 i ∧ exI j1) ∨ ((0 : Int32).toInt = 0 ∧ wdL (lnL (i 403) (i 36 54).toInt (i 36 55).toInt) 0 = none) := (Or.inr ⟨by rfl, hi_lp_13_1.trans (wd_no (by omega) ⟨Or.inl (by omega), by omega⟩)⟩)
          exact sj_zret hx hb hr hlocks (by decide +kernel) hS j1 ⟨hO_j1, (fun a b ha => ((hfr_j1 a b (by omega)).trans (hfr_5 a b (by omega)))), ⟨by decide, by decide⟩, hV_76⟩ hH (sj_Knil hK) (Nat.le_of_ble_eq_true rfl) (Nat.le_of_ble_eq_true rfl) dX12_word_112
      · skip
        have h_77 := s_nle (rfl : (i 36 55).toInt = _) (rfl : (j1 36 54).toInt = _) c_16
        refine lv_aload_n hx hb dX12_word_20 rfl (lv_at hl 2 rfl) ?_
        refine lv_aload_n hx hb dX12_word_21 rfl (lv_at hl 1 rfl) ?_
        refine h_geti (ci := 12) (C := RX12) (F := TX12) (N := 86) hx hb hts in12 hown hK hH (by decide) (rfl : kd 36 = 12) (by decide) rfl 54 (by decide) wd1 (fun _ h9 => h9) (by decide) rfl dX12_word_22 ?_
        have bx_78 : (0 : Int) ≤ (i 403 ((j1 36 54).toInt).toNat).toInt ∧ (i 403 ((j1 36 54).toInt).toNat).toInt ≤ 65535 := hO 403 ((j1 36 54).toInt).toNat
        refine h_cald hx hb hK hH (by decide) (rfl : kd 403 = 14) (s_vin (N := 720) (rfl : (j1 36 54).toInt = _) (rfl : ln 403 = 720) (by omega) (by omega)) dX12_word_25 ?_
        have ek_79 : (j1 36 54).toNatClampNeg = ((j1 36 54).toInt).toNat := (s_cl (show (j1 36 54).toInt = (j1 36 54).toInt by omega))
        refine sj_i (y := (i 403 ((j1 36 54).toInt).toNat)) (by rw [ek_79]; exact ((hfr_j1 403 ((j1 36 54).toInt).toNat (by omega)).trans (hfr_5 403 ((j1 36 54).toInt).toNat (by omega)))) ?_
        refine x_calli (va_runS (As := [.int (i 403 ((j1 36 54).toInt).toNat)]) (rest := []) ⟨hx, hb, hml, hown, hts⟩ (m_special l D g ka ad j1 r L d (i 403 ((j1 36 54).toInt).toNat) hO_j1 hR H.size ) (cwS 1 hts gX12_word_X12_special rfl rfl rfl (by decide +kernel) ⟨(Nat.le_of_ble_eq_true rfl), (Nat.le_of_ble_eq_true rfl)⟩) (x_preS hH hK gxb (gxw hE hS (x_F hH hS hA))) rfl rfl hl.1 rfl (lv_room (Nat.le_of_ble_eq_true rfl)) dX12_word_26 ⟨(Nat.le_of_ble_eq_true rfl), (Nat.le_of_ble_eq_true rfl)⟩) hH hS hA rfl rfl (fun r_80 _ H locs hw_81 hH hS => ?_)
        obtain ⟨hr_83, he_84⟩ := hw_81
        have hr_83 : (0 : Int) ≤ r_80.toInt ∧ r_80.toInt ≤ 1 := hr_83
        refine lv_if_eq (tgt := 43) hx hb dX12_word_29 (by decide) (fun c_85 => ?_) (fun c_85 => ?_)
        · skip
          have h_86 := s_eq (rfl : r_80.toInt = _) (show (0 : Int32).toInt = 0 from rfl) c_85
          refine lv_aload_n hx hb dX12_word_43 rfl (lv_at hl 2 rfl) ?_
          refine lv_aload_n hx hb dX12_word_44 rfl (lv_at hl 1 rfl) ?_
          refine h_geti (ci := 12) (C := RX12) (F := TX12) (N := 86) hx hb hts in12 hown hK hH (by decide) (rfl : kd 36 = 12) (by decide) rfl 54 (by decide) wd1 (fun _ h9 => h9) (by decide) rfl dX12_word_45 ?_
          refine h_cald hx hb hK hH (by decide) (rfl : kd 403 = 14) (s_vin (N := 720) (rfl : (j1 36 54).toInt = _) (rfl : ln 403 = 720) (by omega) (by omega)) dX12_word_48 ?_
          have ek_87 : (j1 36 54).toNatClampNeg = ((j1 36 54).toInt).toNat := (s_cl (show (j1 36 54).toInt = (j1 36 54).toInt by omega))
          refine sj_i (y := (i 403 ((j1 36 54).toInt).toNat)) (by rw [ek_87]; exact ((hfr_j1 403 ((j1 36 54).toInt).toNat (by omega)).trans (hfr_5 403 ((j1 36 54).toInt).toNat (by omega)))) ?_
          refine lv_bipush (v := 47) hx hb dX12_word_49 (by decide) ?_
          refine lv_icmp_ne (tgt := 87) hx hb dX12_word_51 (by decide) (fun c_88 => ?_) (fun c_88 => ?_)
          · skip
            have h_89 := s_ne (rfl : (i 403 ((j1 36 54).toInt).toNat).toInt = _) (show (47 : Int32).toInt = 47 from rfl) c_88
            refine lv_aload_n hx hb dX12_word_87 rfl (lv_at hl 1 rfl) ?_
            refine lv_aload_n hx hb dX12_word_88 rfl (lv_at hl 2 rfl) ?_
            have hwt_90 : (j1 36 55).toInt = ((i 36 55) : Int32).toInt := congrArg Int32.toInt ((hfr_j1 36 55 (by omega)).trans (hfr_5 36 55 (by omega)))
            refine x_calli (va_runV (As := [.ref (g 403)]) (rest := []) ⟨hx, hb, hml, hown, hts⟩ (m_takeOne_W l D g ka ad j1 r L d  hO_j1 hR H.size (by first | omega | decide) (by first | omega | decide) (by first | omega | decide) (by first | omega | decide) hi_lp_13_2) (cwV 1 hts gX12_word_X12_takeOne rfl rfl rfl (by decide +kernel) ⟨(Nat.le_of_ble_eq_true rfl), (Nat.le_of_ble_eq_true rfl)⟩) (x_preV (q := (RX12, TX12, 86)) hH hK (q_obj (by decide) (rfl : kd 36 = 12) (by decide)) rfl gxb (gxw hE hS (x_F hH hS hA))) rfl rfl hl.1 rfl (lv_room (Nat.le_of_ble_eq_true rfl)) dX12_word_89 ⟨(Nat.le_of_ble_eq_true rfl), (Nat.le_of_ble_eq_true rfl)⟩) hH hS hA rfl rfl (fun r_91 im_93 H locs hw_92 hH hS => ?_)
            have hH : sj_H D A (hwc g ka im_93 r L d) H := hH
            obtain ⟨hO_95, hfr_94, hr_96, hx2_97⟩ := hw_92
            have hr_96 : (0 : Int) ≤ r_91.toInt ∧ r_91.toInt ≤ 1 := hr_96
            have hct : (j1 403 (j1 36 54).toInt.toNat).toInt = (i 403 (j1 36 54).toInt.toNat).toInt := congrArg Int32.toInt (((hfr_j1 403 (j1 36 54).toInt.toNat (by omega)).trans (hfr_5 403 (j1 36 54).toInt.toNat (by omega))))
            have hju : (j1 36 55).toInt = (i 36 55).toInt := congrArg Int32.toInt (((hfr_j1 36 55 (by omega)).trans (hfr_5 36 55 (by omega))))
            refine lv_if_ne (tgt := 9) hx hb dX12_word_92 (by decide) (fun c_98 => ?_) (fun c_98 => ?_)
            · skip
              have h_99 := s_ne (rfl : r_91.toInt = _) (show (0 : Int32).toInt = 0 from rfl) c_98
              have htk := hx2_97.resolve_right (fun q => by have := q.1; omega)
              have htk2 := htk.2.1
              have htk3 := htk.2.2.1
              have htk4 := htk.2.2.2.1
              have hp_100 : (im_93 36 54).toInt = ((im_93 36 54) : Int32).toInt := rfl
              have hp_101 : (im_93 36 52).toInt = ((im_93 36 52) : Int32).toInt := rfl
              have hp_102 : (im_93 36 49).toInt = ((j1 36 49) : Int32).toInt := congrArg Int32.toInt ((hfr_94 36 49 (by omega)))
              have hp_103 : (im_93 36 54).toInt = ((im_93 36 54) : Int32).toInt := rfl
              have hp_104 : (im_93 36 49).toInt = ((j1 36 49) : Int32).toInt := congrArg Int32.toInt ((hfr_94 36 49 (by omega)))
              exact ih_lp_13  _ _ _ ls (by omega) (by omega) (hi_lp_13_1.trans (wd_st (by omega) (by omega) (by unfold spC; omega) (by omega) (by omega) htk4 (by omega))) htk.2.2.2.2.2 hO_95 (fun a b ha => ((hfr_94 a b (by omega)).trans (hfr_j1 a b (by omega)))) (lv_sub hl [0, 1, 2] rfl) hH hS
            · skip
              have h_105 := s_eq (rfl : r_91.toInt = _) (show (0 : Int32).toInt = 0 from rfl) c_98
              have htn := (hx2_97.resolve_left (fun q => by have := q.1; omega)).2
              have htn1 := htn.1
              have htn2 := htn.2
              refine lv_iconst (v := 0) hx hb dX12_word_95 (by decide) ?_
              have hV_106 : ((0 : Int32).toInt = 1 ∧ wdL (lnL (i 403) (i 36 54).toInt (i 36 55).toInt) 0 = some (lnL (i 403) (im_93 36 54).toInt (i 36 55).toInt) ∧ (i 36 54).toInt + 1 ≤ (im_93 36 54).toInt ∧ (im_93 36 54).toInt ≤ (i 36 55).toInt ∧ (im_93 36 45).toInt - (i 36 45).toInt ≤ (im_93 36 54).toInt - (i 36 54).toInt ∧ (im_93 36 49).toInt - (i 36 49).toInt ≤ (im_93 36 54).toInt - (i 36 54).toInt ∧ (im_93 36 52).toInt - (i 36 52).toInt ≤ (im_93 36 54).toInt - (i 36 54).toInt ∧ c4 im_93 = c4 i ∧ exI im_93) ∨ ((0 : Int32).toInt = 0 ∧ wdL (lnL (i 403) (i 36 54).toInt (i 36 55).toInt) 0 = none) := (Or.inr ⟨by rfl, by rw [hi_lp_13_1]; exact wd_escE (by omega) (by omega) (by omega) (by omega)⟩)
              exact sj_zret hx hb hr hlocks (by decide +kernel) hS im_93 ⟨hO_95, (fun a b ha => ((hfr_94 a b (by omega)).trans ((hfr_j1 a b (by omega)).trans (hfr_5 a b (by omega))))), ⟨by decide, by decide⟩, hV_106⟩ hH (sj_Knil hK) (Nat.le_of_ble_eq_true rfl) (Nat.le_of_ble_eq_true rfl) dX12_word_96
          · skip
            have h_107 := s_eq (rfl : (i 403 ((j1 36 54).toInt).toNat).toInt = _) (show (47 : Int32).toInt = 47 from rfl) c_88
            refine lv_aload_n hx hb dX12_word_54 rfl (lv_at hl 1 rfl) ?_
            refine h_getr (ci := 12) (C := RX12) (F := TX12) (N := 86) hx hb hts in12 hown hK hH (by decide) (rfl : kd 36 = 12) (by decide) rfl 51 (by decide) wd3 (fun _ h9 => h9) (by decide) rfl (t := 410) (hR 36 51 rfl) (by decide) dX12_word_55 ?_
            refine lv_aload_n hx hb dX12_word_58 rfl (lv_at hl 1 rfl) ?_
            have bx_108 : (0 : Int) ≤ (j1 36 49).toInt ∧ (j1 36 49).toInt ≤ 64 := hO_j1 36 49
            refine h_geti (ci := 12) (C := RX12) (F := TX12) (N := 86) hx hb hts in12 hown hK hH (by decide) (rfl : kd 36 = 12) (by decide) rfl 49 (by decide) wd0 (fun _ h9 => h9) (by decide) rfl dX12_word_59 ?_
            refine lv_iconst (v := 1) hx hb dX12_word_62 (by decide) ?_
            refine lv_isub hx hb dX12_word_63 ?_
            obtain ⟨z_109, ez_109, hz_109⟩ := s_sub (rfl : (j1 36 49).toInt = _) (show (1 : Int32).toInt = 1 from rfl) (by omega) (by omega)
            refine sj_i ez_109 ?_
            have hls_110 : lsz j1 = ((j1 410 ((j1 36 49).toInt - 1).toNat) : Int32).toInt := by unfold lsz; rw [show j1 36 49 = (j1 36 49) from rfl]; try exact congrArg Int32.toInt (rfl)
            refine h_iald hx hb hK hH (by decide) (rfl : kd 410 = 13) (s_vin (N := 64) (rfl : z_109.toInt = _) (rfl : ln 410 = 64) (by omega) (by omega)) dX12_word_64 ?_
            have ek_111 : z_109.toNatClampNeg = ((j1 36 49).toInt - 1).toNat := (s_cl (show z_109.toInt = (j1 36 49).toInt - 1 by omega))
            refine sj_i (y := (j1 410 ((j1 36 49).toInt - 1).toNat)) (by rw [ek_111]) ?_
            refine lv_if_ne (tgt := 70) hx hb dX12_word_65 (by decide) (fun c_112 => ?_) (fun c_112 => ?_)
            · skip
              have h_113 := s_ne (rfl : (j1 410 ((j1 36 49).toInt - 1).toNat).toInt = _) (show (0 : Int32).toInt = 0 from rfl) c_112
              refine lv_aload_n hx hb dX12_word_70 rfl (lv_at hl 1 rfl) ?_
              refine x_callv (va_runV (As := []) (rest := []) ⟨hx, hb, hml, hown, hts⟩ (m_openText l D g ka ad j1 r L d  hO_j1 hR H.size (by first | omega | decide) hi_lp_13_2) (cwV 0 hts gX12_word_X12_openText rfl rfl rfl (by decide +kernel) ⟨(Nat.le_of_ble_eq_true rfl), (Nat.le_of_ble_eq_true rfl)⟩) (x_preV (q := (RX12, TX12, 86)) hH hK (q_obj (by decide) (rfl : kd 36 = 12) (by decide)) rfl gxb (gxw hE hS (x_F hH hS hA))) rfl rfl hl.1 rfl (lv_room (Nat.le_of_ble_eq_true rfl)) dX12_word_71 ⟨(Nat.le_of_ble_eq_true rfl), (Nat.le_of_ble_eq_true rfl)⟩) hH hS hA rfl rfl (fun im_116 H locs hw_115 hH hS => ?_)
              have hH : sj_H D A (hwc g ka im_116 r L d) H := hH
              obtain ⟨hO_118, hfr_117, hx2_119, hx2_120, hx2_121, hx2_122⟩ := hw_115
              have hot_123 := hx2_120
              have hot_124 := hx2_121
              refine lv_aload_n hx hb dX12_word_74 rfl (lv_at hl 1 rfl) ?_
              refine lv_dup hx hb dX12_word_75 rfl ?_
              refine h_geti (ci := 12) (C := RX12) (F := TX12) (N := 86) hx hb hts in12 hown hK hH (by decide) (rfl : kd 36 = 12) (by decide) rfl 54 (by decide) wd1 (fun _ h9 => h9) (by decide) rfl dX12_word_76 ?_
              refine sj_i (y := (j1 36 54)) (hfr_117 36 54 (by omega)) ?_
              refine lv_iconst (v := 1) hx hb dX12_word_79 (by decide) ?_
              refine lv_iadd hx hb dX12_word_80 ?_
              obtain ⟨z_125, ez_125, hz_125⟩ := s_add (rfl : (j1 36 54).toInt = _) (show (1 : Int32).toInt = 1 from rfl) (by omega) (by omega)
              refine sj_i ez_125 ?_
              have hO_126 := okp hO_118 (n := 36) (k := 54) (v := z_125) (show (0 : Int) ≤ (z_125 : Int32).toInt ∧ (z_125 : Int32).toInt ≤ 720 from ⟨by omega, by omega⟩)
              refine h_puti (ty := .int) (ci := 12) (C := RX12) (F := TX12) (N := 86) hx hb hts in12 tyX12 tyX12_ok nmX12 hown hK hH hS (by decide) (rfl : kd 36 = 12) (by decide) rfl 54 (by decide) wd1 (fun _ h9 => h9) rfl (by decide +kernel) rfl rfl (by decide) rfl dX12_word_81 (fun H locs hH hS => ?_)
              refine lv_goto (tgt := 9) hx hb dX12_word_84 (by decide) ?_
              have hp_127 : ((up2 im_116 36 54 z_125) 36 54).toInt = (z_125 : Int32).toInt := congrArg Int32.toInt ((up2_at _ _ _ _))
              have hp_128 : ((up2 im_116 36 54 z_125) 36 52).toInt = ((j1 36 52) : Int32).toInt := congrArg Int32.toInt (((up2_k _ _ (by decide)).trans (hfr_117 36 52 (by omega))))
              have hp_129 : ((up2 im_116 36 54 z_125) 36 49).toInt = ((im_116 36 49) : Int32).toInt := congrArg Int32.toInt ((up2_k _ _ (by decide)))
              have hlz8 : lsz (up2 im_116 36 54 z_125) = 0 := by rw [lsz_fr (m := im_116) (u := (up2 im_116 36 54 z_125)) (up2_o _ _ (by omega)) (funext fun b => (up2_o _ _ (by omega)))]; exact hx2_121
              have hp_130 : ((up2 im_116 36 54 z_125) 36 54).toInt = (z_125 : Int32).toInt := congrArg Int32.toInt ((up2_at _ _ _ _))
              have hp_131 : ((up2 im_116 36 54 z_125) 36 49).toInt = ((im_116 36 49) : Int32).toInt := congrArg Int32.toInt ((up2_k _ _ (by decide)))
              have hlz : lsz (up2 im_116 36 54 z_125) = 0 := by rw [lsz_fr (m := im_116) (u := (up2 im_116 36 54 z_125)) (up2_o _ _ (by omega)) (funext fun b => (up2_o _ _ (by omega)))]; exact hx2_121
              exact ih_lp_13  _ _ _ ls (by omega) (by omega) (hi_lp_13_1.trans (by rw [wd_sl (by omega) (by omega) (by omega) (by omega), hlz, show ((up2 im_116 36 54 z_125) 36 54).toInt = (j1 36 54).toInt + 1 by omega])) (exI_fr hx2_119 (up2_o _ _ (by omega)) (up2_o _ _ (by omega)) (up2_o _ _ (by omega)) (fun a h1 h2 => funext fun b => (up2_o _ _ (by omega)))) hO_126 (fun a b ha => ((up2_o _ _ (by omega)).trans ((hfr_117 a b (by omega)).trans (hfr_j1 a b (by omega))))) (lv_sub hl [0, 1, 2] rfl) hH hS
            · skip
              have h_132 := s_eq (rfl : (j1 410 ((j1 36 49).toInt - 1).toNat).toInt = _) (show (0 : Int32).toInt = 0 from rfl) c_112
              refine lv_iconst (v := 0) hx hb dX12_word_68 (by decide) ?_
              have hV_133 : ((0 : Int32).toInt = 1 ∧ wdL (lnL (i 403) (i 36 54).toInt (i 36 55).toInt) 0 = some (lnL (i 403) (j1 36 54).toInt (i 36 55).toInt) ∧ (i 36 54).toInt + 1 ≤ (j1 36 54).toInt ∧ (j1 36 54).toInt ≤ (i 36 55).toInt ∧ (j1 36 45).toInt - (i 36 45).toInt ≤ (j1 36 54).toInt - (i 36 54).toInt ∧ (j1 36 49).toInt - (i 36 49).toInt ≤ (j1 36 54).toInt - (i 36 54).toInt ∧ (j1 36 52).toInt - (i 36 52).toInt ≤ (j1 36 54).toInt - (i 36 54).toInt ∧ c4 j1 = c4 i ∧ exI j1) ∨ ((0 : Int32).toInt = 0 ∧ wdL (lnL (i 403) (i 36 54).toInt (i 36 55).toInt) 0 = none) := (Or.inr ⟨by rfl, hi_lp_13_1.trans (wd_no (by omega) ⟨Or.inr ⟨by omega, Or.inr (by omega)⟩, by omega⟩)⟩)
              exact sj_zret hx hb hr hlocks (by decide +kernel) hS j1 ⟨hO_j1, (fun a b ha => ((hfr_j1 a b (by omega)).trans (hfr_5 a b (by omega)))), ⟨by decide, by decide⟩, hV_133⟩ hH (sj_Knil hK) (Nat.le_of_ble_eq_true rfl) (Nat.le_of_ble_eq_true rfl) dX12_word_69
        · skip
          have h_134 := s_ne (rfl : r_80.toInt = _) (show (0 : Int32).toInt = 0 from rfl) c_85
          refine lv_aload_n hx hb dX12_word_32 rfl (lv_at hl 2 rfl) ?_
          refine lv_aload_n hx hb dX12_word_33 rfl (lv_at hl 1 rfl) ?_
          refine h_geti (ci := 12) (C := RX12) (F := TX12) (N := 86) hx hb hts in12 hown hK hH (by decide) (rfl : kd 36 = 12) (by decide) rfl 54 (by decide) wd1 (fun _ h9 => h9) (by decide) rfl dX12_word_34 ?_
          refine h_cald hx hb hK hH (by decide) (rfl : kd 403 = 14) (s_vin (N := 720) (rfl : (j1 36 54).toInt = _) (rfl : ln 403 = 720) (by omega) (by omega)) dX12_word_37 ?_
          have ek_135 : (j1 36 54).toNatClampNeg = ((j1 36 54).toInt).toNat := (s_cl (show (j1 36 54).toInt = (j1 36 54).toInt by omega))
          refine sj_i (y := (i 403 ((j1 36 54).toInt).toNat)) (by rw [ek_135]; exact ((hfr_j1 403 ((j1 36 54).toInt).toNat (by omega)).trans (hfr_5 403 ((j1 36 54).toInt).toNat (by omega)))) ?_
          refine lv_bipush (v := 47) hx hb dX12_word_38 (by decide) ?_
          refine lv_icmp_ne (tgt := 97) hx hb dX12_word_40 (by decide) (fun c_136 => ?_) (fun c_136 => ?_)
          · skip
            have h_137 := s_ne (rfl : (i 403 ((j1 36 54).toInt).toNat).toInt = _) (show (47 : Int32).toInt = 47 from rfl) c_136
            refine lv_aload_n hx hb dX12_word_97 rfl (lv_at hl 1 rfl) ?_
            refine h_getr (ci := 12) (C := RX12) (F := TX12) (N := 86) hx hb hts in12 hown hK hH (by decide) (rfl : kd 36 = 12) (by decide) rfl 51 (by decide) wd3 (fun _ h9 => h9) (by decide) rfl (t := 410) (hR 36 51 rfl) (by decide) dX12_word_98 ?_
            refine lv_aload_n hx hb dX12_word_101 rfl (lv_at hl 1 rfl) ?_
            have bx_138 : (0 : Int) ≤ (j1 36 49).toInt ∧ (j1 36 49).toInt ≤ 64 := hO_j1 36 49
            refine h_geti (ci := 12) (C := RX12) (F := TX12) (N := 86) hx hb hts in12 hown hK hH (by decide) (rfl : kd 36 = 12) (by decide) rfl 49 (by decide) wd0 (fun _ h9 => h9) (by decide) rfl dX12_word_102 ?_
            refine lv_iconst (v := 1) hx hb dX12_word_105 (by decide) ?_
            refine lv_isub hx hb dX12_word_106 ?_
            obtain ⟨z_139, ez_139, hz_139⟩ := s_sub (rfl : (j1 36 49).toInt = _) (show (1 : Int32).toInt = 1 from rfl) (by omega) (by omega)
            refine sj_i ez_139 ?_
            have hls_140 : lsz j1 = ((j1 410 ((j1 36 49).toInt - 1).toNat) : Int32).toInt := by unfold lsz; rw [show j1 36 49 = (j1 36 49) from rfl]; try exact congrArg Int32.toInt (rfl)
            refine h_iald hx hb hK hH (by decide) (rfl : kd 410 = 13) (s_vin (N := 64) (rfl : z_139.toInt = _) (rfl : ln 410 = 64) (by omega) (by omega)) dX12_word_107 ?_
            have ek_141 : z_139.toNatClampNeg = ((j1 36 49).toInt - 1).toNat := (s_cl (show z_139.toInt = (j1 36 49).toInt - 1 by omega))
            refine sj_i (y := (j1 410 ((j1 36 49).toInt - 1).toNat)) (by rw [ek_141]) ?_
            refine lv_if_ne (tgt := 113) hx hb dX12_word_108 (by decide) (fun c_142 => ?_) (fun c_142 => ?_)
            · skip
              have h_143 := s_ne (rfl : (j1 410 ((j1 36 49).toInt - 1).toNat).toInt = _) (show (0 : Int32).toInt = 0 from rfl) c_142
              refine lv_aload_n hx hb dX12_word_113 rfl (lv_at hl 1 rfl) ?_
              refine h_geti (ci := 12) (C := RX12) (F := TX12) (N := 86) hx hb hts in12 hown hK hH (by decide) (rfl : kd 36 = 12) (by decide) rfl 49 (by decide) wd0 (fun _ h9 => h9) (by decide) rfl dX12_word_114 ?_
              refine lv_iload_n hx hb dX12_word_117 rfl (lv_at hl 0 rfl) ?_
              refine lv_isub hx hb dX12_word_118 ?_
              obtain ⟨z_144, ez_144, hz_144⟩ := s_sub (rfl : (j1 36 49).toInt = _) (rfl : (i 36 49).toInt = _) (by omega) (by omega)
              refine sj_i ez_144 ?_
              refine lv_iconst (v := 1) hx hb dX12_word_119 (by decide) ?_
              refine lv_icmp_le (tgt := 137) hx hb dX12_word_120 (by decide) (fun c_145 => ?_) (fun c_145 => ?_)
              · skip
                have h_146 := s_le (rfl : z_144.toInt = _) (show (1 : Int32).toInt = 1 from rfl) c_145
                have hl9 : (j1 410 (i 36 49).toInt.toNat).toInt = lsz j1 := by unfold lsz; rw [show ((j1 36 49).toInt - 1).toNat = (i 36 49).toInt.toNat by omega]
                have hw9 := hi_lp_13_2.2 (i 36 49).toInt.toNat (by omega)
                have hw1 := hw9.1
                have hw2 := hw9.2.1
                have hw3 := hw9.2.2
                have hx52j : (0 : Int) ≤ (j1 36 52).toInt ∧ (j1 36 52).toInt ≤ 64 := hO_j1 36 52
                refine lv_iconst (v := 0) hx hb dX12_word_137 (by decide) ?_
                refine lv_istore_n (lv' := [(3, .int 0), (2, .int (i 36 49)), (0, .ref (g 36)), (1, .ref (g 403))]) hx hb dX12_word_138 rfl hl (by decide) rfl (fun ls hl => ?_)
                -- loop at 139
                have lp_147 : ∀ (fuel_lp_147 : Nat) (k9 : Int32) (j2 : Nat → Nat → Int32) (H : Heap) (locs : List Loc) (ls : Array Slot), (64 - k9.toInt).toNat < fuel_lp_147 → (0 : Int) ≤ k9.toInt ∧ k9.toInt ≤ 64 → (j2 36 45).toInt = (i 36 45).toInt + k9.toInt ∧ k9.toInt ≤ lsz j1 → c4 j2 = c4 i → exI j2 → OkI j2 → (∀ a b, ¬ ((a = 36 ∧ (b = 45)) ∨ a = 406 ∨ a = 407 ∨ a = 408) → j2 a b = j1 a b) → lv_has ls 4 [(3, .int k9), (2, .int (i 36 49)), (0, .ref (g 36)), (1, .ref (g 403))] → sj_H D A (hwc g ka j2 r L d) H → va_S A s.heap H locs → W p l e (headSpec wsX12_word ({ frames := 1, cells := 0, slots := 0, locals := 23 })).room s m ([.ref (g 36), .ref (g 403)] : List Value).toArray below meth c H locs 0 0 (MQ below (sj_Qi (S := (Nat → Nat → Int32)) D (fun v u => OkI u ∧ (∀ a b, ¬ ((a = 36 ∧ (b = 45 ∨ b = 49 ∨ b = 52 ∨ b = 54)) ∨ a = 406 ∨ a = 407 ∨ a = 408 ∨ a = 409 ∨ a = 410 ∨ a = 411) → u a b = i a b) ∧ ((0 : Int) ≤ v.toInt ∧ v.toInt ≤ 1) ∧ ((v.toInt = 1 ∧ wdL (lnL (i 403) (i 36 54).toInt (i 36 55).toInt) 0 = some (lnL (i 403) (u 36 54).toInt (i 36 55).toInt) ∧ (i 36 54).toInt + 1 ≤ (u 36 54).toInt ∧ (u 36 54).toInt ≤ (i 36 55).toInt ∧ (u 36 45).toInt - (i 36 45).toInt ≤ (u 36 54).toInt - (i 36 54).toInt ∧ (u 36 49).toInt - (i 36 49).toInt ≤ (u 36 54).toInt - (i 36 54).toInt ∧ (u 36 52).toInt - (i 36 52).toInt ≤ (u 36 54).toInt - (i 36 54).toInt ∧ c4 u = c4 i ∧ exI u) ∨ (v.toInt = 0 ∧ wdL (lnL (i 403) (i 36 54).toInt (i 36 55).toInt) 0 = none))) (fun u => hwc g ka u r L d) (fun _ => []) A) ([.ref (g 36), .ref (g 403)] : List Value).toArray s 0 0 A) (F0 m 139 ls []) := by
                  intro fuel_lp_147
                  induction fuel_lp_147 with
                  | zero => intros; omega
                  | succ fuel_lp_147 ih_lp_147 =>
                    intro k9 j2 H locs ls hm hr_k9 hi_lp_147_0 hi_lp_147_1 hi_lp_147_2 hO_j2 hfr_j2 hl hH hS
                    refine lv_iload_n hx hb dX12_word_139 rfl (lv_at hl 0 rfl) ?_
                    refine lv_aload_n hx hb dX12_word_140 rfl (lv_at hl 2 rfl) ?_
                    refine h_getr (ci := 12) (C := RX12) (F := TX12) (N := 86) hx hb hts in12 hown hK hH (by decide) (rfl : kd 36 = 12) (by decide) rfl 51 (by decide) wd3 (fun _ h9 => h9) (by decide) rfl (t := 410) (hR 36 51 rfl) (by decide) dX12_word_141 ?_
                    refine lv_iload_n hx hb dX12_word_144 rfl (lv_at hl 1 rfl) ?_
                    refine h_iald hx hb hK hH (by decide) (rfl : kd 410 = 13) (s_vin (N := 64) (rfl : (i 36 49).toInt = _) (rfl : ln 410 = 64) (by omega) (by omega)) dX12_word_145 ?_
                    have ek_148 : (i 36 49).toNatClampNeg = ((i 36 49).toInt).toNat := (s_cl (show (i 36 49).toInt = (i 36 49).toInt by omega))
                    refine sj_i (y := (j1 410 ((i 36 49).toInt).toNat)) (by rw [ek_148]; exact (hfr_j2 410 ((i 36 49).toInt).toNat (by omega))) ?_
                    refine lv_icmp_ge (tgt := 174) hx hb dX12_word_146 (by decide) (fun c_149 => ?_) (fun c_149 => ?_)
                    · skip
                      have h_150 := s_le (rfl : (j1 410 ((i 36 49).toInt).toNat).toInt = _) (rfl : k9.toInt = _) c_149
                      refine lv_iconst (v := 1) hx hb dX12_word_174 (by decide) ?_
                      have hp_151 : (j2 36 54).toInt = ((j1 36 54) : Int32).toInt := congrArg Int32.toInt ((hfr_j2 36 54 (by omega)))
                      have hp_152 : (j2 36 52).toInt = ((j1 36 52) : Int32).toInt := congrArg Int32.toInt ((hfr_j2 36 52 (by omega)))
                      have hp_153 : (j2 36 49).toInt = ((j1 36 49) : Int32).toInt := congrArg Int32.toInt ((hfr_j2 36 49 (by omega)))
                      have hp_154 : (j2 36 45).toInt = ((j2 36 45) : Int32).toInt := rfl
                      have hV_155 : ((1 : Int32).toInt = 1 ∧ wdL (lnL (i 403) (i 36 54).toInt (i 36 55).toInt) 0 = some (lnL (i 403) (j2 36 54).toInt (i 36 55).toInt) ∧ (i 36 54).toInt + 1 ≤ (j2 36 54).toInt ∧ (j2 36 54).toInt ≤ (i 36 55).toInt ∧ (j2 36 45).toInt - (i 36 45).toInt ≤ (j2 36 54).toInt - (i 36 54).toInt ∧ (j2 36 49).toInt - (i 36 49).toInt ≤ (j2 36 54).toInt - (i 36 54).toInt ∧ (j2 36 52).toInt - (i 36 52).toInt ≤ (j2 36 54).toInt - (i 36 54).toInt ∧ c4 j2 = c4 i ∧ exI j2) ∨ ((1 : Int32).toInt = 0 ∧ wdL (lnL (i 403) (i 36 54).toInt (i 36 55).toInt) 0 = none) := (Or.inl ⟨by rfl, (hi_lp_13_1.trans (wd_ok (by omega) (Or.inr ⟨by omega, (by unfold spC; omega)⟩) (by omega))).trans (by rw [show (j2 36 54).toInt = (j1 36 54).toInt by omega]), by omega, by omega, by omega, by omega, by omega, hi_lp_147_1, hi_lp_147_2⟩)
                      exact sj_zret hx hb hr hlocks (by decide +kernel) hS j2 ⟨hO_j2, (fun a b ha => ((hfr_j2 a b (by omega)).trans ((hfr_j1 a b (by omega)).trans (hfr_5 a b (by omega))))), ⟨by decide, by decide⟩, hV_155⟩ hH (sj_Knil hK) (Nat.le_of_ble_eq_true rfl) (Nat.le_of_ble_eq_true rfl) dX12_word_175
                    · skip
                      have h_156 := s_nle (rfl : (j1 410 ((i 36 49).toInt).toNat).toInt = _) (rfl : k9.toInt = _) c_149
                      refine lv_aload_n hx hb dX12_word_149 rfl (lv_at hl 2 rfl) ?_
                      refine lv_iconst (v := 1) hx hb dX12_word_150 (by decide) ?_
                      refine lv_aload_n hx hb dX12_word_151 rfl (lv_at hl 2 rfl) ?_
                      refine h_getr (ci := 12) (C := RX12) (F := TX12) (N := 86) hx hb hts in12 hown hK hH (by decide) (rfl : kd 36 = 12) (by decide) rfl 53 (by decide) wd4 (fun _ h9 => h9) (by decide) rfl (t := 411) (hR 36 53 rfl) (by decide) dX12_word_152 ?_
                      refine lv_aload_n hx hb dX12_word_155 rfl (lv_at hl 2 rfl) ?_
                      refine h_getr (ci := 12) (C := RX12) (F := TX12) (N := 86) hx hb hts in12 hown hK hH (by decide) (rfl : kd 36 = 12) (by decide) rfl 50 (by decide) wd5 (fun _ h9 => h9) (by decide) rfl (t := 409) (hR 36 50 rfl) (by decide) dX12_word_156 ?_
                      refine lv_iload_n hx hb dX12_word_159 rfl (lv_at hl 1 rfl) ?_
                      refine h_iald hx hb hK hH (by decide) (rfl : kd 409 = 13) (s_vin (N := 64) (rfl : (i 36 49).toInt = _) (rfl : ln 409 = 64) (by omega) (by omega)) dX12_word_160 ?_
                      have ek_157 : (i 36 49).toNatClampNeg = ((i 36 49).toInt).toNat := (s_cl (show (i 36 49).toInt = (i 36 49).toInt by omega))
                      refine sj_i (y := (j1 409 ((i 36 49).toInt).toNat)) (by rw [ek_157]; exact (hfr_j2 409 ((i 36 49).toInt).toNat (by omega))) ?_
                      refine lv_iload_n hx hb dX12_word_161 rfl (lv_at hl 0 rfl) ?_
                      refine lv_iadd hx hb dX12_word_162 ?_
                      obtain ⟨z_158, ez_158, hz_158⟩ := s_add (rfl : (j1 409 ((i 36 49).toInt).toNat).toInt = _) (rfl : k9.toInt = _) (by omega) (by omega)
                      refine sj_i ez_158 ?_
                      have bx_159 : (0 : Int) ≤ (j1 411 ((j1 409 ((i 36 49).toInt).toNat).toInt + k9.toInt).toNat).toInt ∧ (j1 411 ((j1 409 ((i 36 49).toInt).toNat).toInt + k9.toInt).toNat).toInt ≤ 65535 := hO_j1 411 ((j1 409 ((i 36 49).toInt).toNat).toInt + k9.toInt).toNat
                      refine h_cald hx hb hK hH (by decide) (rfl : kd 411 = 14) (s_vin (N := 64) (rfl : z_158.toInt = _) (rfl : ln 411 = 64) (by omega) (by omega)) dX12_word_163 ?_
                      have ek_160 : z_158.toNatClampNeg = ((j1 409 ((i 36 49).toInt).toNat).toInt + k9.toInt).toNat := (s_cl (show z_158.toInt = (j1 409 ((i 36 49).toInt).toNat).toInt + k9.toInt by omega))
                      refine sj_i (y := (j1 411 ((j1 409 ((i 36 49).toInt).toNat).toInt + k9.toInt).toNat)) (by rw [ek_160]; exact (hfr_j2 411 ((j1 409 ((i 36 49).toInt).toNat).toInt + k9.toInt).toNat (by omega))) ?_
                      refine lv_iconst (v := 0) hx hb dX12_word_164 (by decide) ?_
                      have hl_161 : (1 : Int32).toInt = 1 := rfl
                      have hl_162 : (0 : Int32).toInt = 0 := rfl
                      have hwt_163 : (j2 36 49).toInt = ((j1 36 49) : Int32).toInt := congrArg Int32.toInt (hfr_j2 36 49 (by omega))
                      refine x_callv (va_runV (As := [.int 1, .int (j1 411 ((j1 409 ((i 36 49).toInt).toNat).toInt + k9.toInt).toNat), .int 0]) (rest := []) ⟨hx, hb, hml, hown, hts⟩ (m_addPart l D g ka ad j2 r L d 1 (j1 411 ((j1 409 ((i 36 49).toInt).toNat).toInt + k9.toInt).toNat) 0 hO_j2 hR H.size (by first | omega | decide) hi_lp_147_2 (by unfold pOk; omega)) (cwV 3 hts gX12_word_X12_addPart rfl rfl rfl (by decide +kernel) ⟨(Nat.le_of_ble_eq_true rfl), (Nat.le_of_ble_eq_true rfl)⟩) (x_preV (q := (RX12, TX12, 86)) hH hK (q_obj (by decide) (rfl : kd 36 = 12) (by decide)) rfl gxb (gxw hE hS (x_F hH hS hA))) rfl rfl hl.1 rfl (lv_room (Nat.le_of_ble_eq_true rfl)) dX12_word_165 ⟨(Nat.le_of_ble_eq_true rfl), (Nat.le_of_ble_eq_true rfl)⟩) hH hS hA rfl rfl (fun im_166 H locs hw_165 hH hS => ?_)
                      have hH : sj_H D A (hwc g ka im_166 r L d) H := hH
                      obtain ⟨hO_168, hfr_167, hx2_169, hx2_170, hx2_171⟩ := hw_165
                      have hap_172 := hx2_169
                      have hc49 : c4 im_166 = c4 j2 := (hx2_171.resolve_left (fun q => by have := q.1; omega)).2
                      obtain ⟨z_173, ez_173, hz_173⟩ := s_add (rfl : k9.toInt = _) (show (1 : Int32).toInt = 1 from rfl) (by omega) (by omega)
                      refine lv_iinc (v := z_173) (lv' := [(3, .int z_173), (2, .int (i 36 49)), (0, .ref (g 36)), (1, .ref (g 403))]) hx hb dX12_word_168 hl (k := 0) rfl ez_173 (by decide) rfl (fun ls hl => ?_)
                      refine lv_goto (tgt := 139) hx hb dX12_word_171 (by decide) ?_
                      have hp_174 : (im_166 36 45).toInt = ((im_166 36 45) : Int32).toInt := rfl
                      exact ih_lp_147 z_173 _ _ _ ls (by omega) (by omega) (by omega) (hc49.trans hi_lp_147_1) hx2_170 hO_168 (fun a b ha => ((hfr_167 a b (by omega)).trans (hfr_j2 a b (by omega)))) (lv_sub hl [0, 1, 2, 3] rfl) hH hS
                have hl_175 : (0 : Int32).toInt = 0 := rfl
                have hp_176 : (j1 36 45).toInt = ((i 36 45) : Int32).toInt := congrArg Int32.toInt (((hfr_j1 36 45 (by omega)).trans (hfr_5 36 45 (by omega))))
                exact lp_147 _ 0 _ _ _ ls (Nat.lt_succ_self _) (by omega) (by omega) (c4_fr ((hfr_j1 36 45 (by omega)).trans (hfr_5 36 45 (by omega))) (funext fun b => ((hfr_j1 406 b (by omega)).trans (hfr_5 406 b (by omega))))) hi_lp_13_2 hO_j1 (fun a b ha => rfl) (lv_sub hl [0, 1, 2, 3] rfl) hH hS
              · skip
                have h_177 := s_nle (rfl : z_144.toInt = _) (show (1 : Int32).toInt = 1 from rfl) c_145
                refine lv_aload_n hx hb dX12_word_123 rfl (lv_at hl 1 rfl) ?_
                refine lv_iconst (v := 3) hx hb dX12_word_124 (by decide) ?_
                refine lv_iload_n hx hb dX12_word_125 rfl (lv_at hl 0 rfl) ?_
                refine lv_aload_n hx hb dX12_word_126 rfl (lv_at hl 1 rfl) ?_
                refine h_geti (ci := 12) (C := RX12) (F := TX12) (N := 86) hx hb hts in12 hown hK hH (by decide) (rfl : kd 36 = 12) (by decide) rfl 49 (by decide) wd0 (fun _ h9 => h9) (by decide) rfl dX12_word_127 ?_
                refine lv_iload_n hx hb dX12_word_130 rfl (lv_at hl 0 rfl) ?_
                refine lv_isub hx hb dX12_word_131 ?_
                obtain ⟨z_178, ez_178, hz_178⟩ := s_sub (rfl : (j1 36 49).toInt = _) (rfl : (i 36 49).toInt = _) (by omega) (by omega)
                refine sj_i ez_178 ?_
                have hl_179 : (3 : Int32).toInt = 3 := rfl
                have hwt_180 : (j1 36 45).toInt = ((i 36 45) : Int32).toInt := congrArg Int32.toInt ((hfr_j1 36 45 (by omega)).trans (hfr_5 36 45 (by omega)))
                refine x_callv (va_runV (As := [.int 3, .int (i 36 49), .int z_178]) (rest := []) ⟨hx, hb, hml, hown, hts⟩ (m_addPart l D g ka ad j1 r L d 3 (i 36 49) z_178 hO_j1 hR H.size (by first | omega | decide) hi_lp_13_2 (by unfold pOk; omega)) (cwV 3 hts gX12_word_X12_addPart rfl rfl rfl (by decide +kernel) ⟨(Nat.le_of_ble_eq_true rfl), (Nat.le_of_ble_eq_true rfl)⟩) (x_preV (q := (RX12, TX12, 86)) hH hK (q_obj (by decide) (rfl : kd 36 = 12) (by decide)) rfl gxb (gxw hE hS (x_F hH hS hA))) rfl rfl hl.1 rfl (lv_room (Nat.le_of_ble_eq_true rfl)) dX12_word_132 ⟨(Nat.le_of_ble_eq_true rfl), (Nat.le_of_ble_eq_true rfl)⟩) hH hS hA rfl rfl (fun im_183 H locs hw_182 hH hS => ?_)
                have hH : sj_H D A (hwc g ka im_183 r L d) H := hH
                obtain ⟨hO_185, hfr_184, hx2_186, hx2_187, hx2_188⟩ := hw_182
                have hap_189 := hx2_186
                have hc49 : c4 im_183 = c4 j1 := (hx2_188.resolve_left (fun q => by have := q.1; omega)).2
                refine lv_iconst (v := 1) hx hb dX12_word_135 (by decide) ?_
                have hp_190 : (im_183 36 54).toInt = ((j1 36 54) : Int32).toInt := congrArg Int32.toInt ((hfr_184 36 54 (by omega)))
                have hp_191 : (im_183 36 52).toInt = ((j1 36 52) : Int32).toInt := congrArg Int32.toInt ((hfr_184 36 52 (by omega)))
                have hp_192 : (im_183 36 49).toInt = ((j1 36 49) : Int32).toInt := congrArg Int32.toInt ((hfr_184 36 49 (by omega)))
                have hp_193 : (im_183 36 45).toInt = ((im_183 36 45) : Int32).toInt := rfl
                have hV_194 : ((1 : Int32).toInt = 1 ∧ wdL (lnL (i 403) (i 36 54).toInt (i 36 55).toInt) 0 = some (lnL (i 403) (im_183 36 54).toInt (i 36 55).toInt) ∧ (i 36 54).toInt + 1 ≤ (im_183 36 54).toInt ∧ (im_183 36 54).toInt ≤ (i 36 55).toInt ∧ (im_183 36 45).toInt - (i 36 45).toInt ≤ (im_183 36 54).toInt - (i 36 54).toInt ∧ (im_183 36 49).toInt - (i 36 49).toInt ≤ (im_183 36 54).toInt - (i 36 54).toInt ∧ (im_183 36 52).toInt - (i 36 52).toInt ≤ (im_183 36 54).toInt - (i 36 54).toInt ∧ c4 im_183 = c4 i ∧ exI im_183) ∨ ((1 : Int32).toInt = 0 ∧ wdL (lnL (i 403) (i 36 54).toInt (i 36 55).toInt) 0 = none) := (Or.inl ⟨by rfl, (hi_lp_13_1.trans (wd_ok (by omega) (Or.inr ⟨by omega, (by unfold spC; omega)⟩) (by omega))).trans (by rw [show (im_183 36 54).toInt = (j1 36 54).toInt by omega]), by omega, by omega, by omega, by omega, by omega, (hc49.trans (c4_fr ((hfr_j1 36 45 (by omega)).trans (hfr_5 36 45 (by omega))) (funext fun b => ((hfr_j1 406 b (by omega)).trans (hfr_5 406 b (by omega)))))), hx2_187⟩)
                exact sj_zret hx hb hr hlocks (by decide +kernel) hS im_183 ⟨hO_185, (fun a b ha => ((hfr_184 a b (by omega)).trans ((hfr_j1 a b (by omega)).trans (hfr_5 a b (by omega))))), ⟨by decide, by decide⟩, hV_194⟩ hH (sj_Knil hK) (Nat.le_of_ble_eq_true rfl) (Nat.le_of_ble_eq_true rfl) dX12_word_136
            · skip
              have h_195 := s_eq (rfl : (j1 410 ((j1 36 49).toInt - 1).toNat).toInt = _) (show (0 : Int32).toInt = 0 from rfl) c_142
              refine lv_iconst (v := 0) hx hb dX12_word_111 (by decide) ?_
              have hV_196 : ((0 : Int32).toInt = 1 ∧ wdL (lnL (i 403) (i 36 54).toInt (i 36 55).toInt) 0 = some (lnL (i 403) (j1 36 54).toInt (i 36 55).toInt) ∧ (i 36 54).toInt + 1 ≤ (j1 36 54).toInt ∧ (j1 36 54).toInt ≤ (i 36 55).toInt ∧ (j1 36 45).toInt - (i 36 45).toInt ≤ (j1 36 54).toInt - (i 36 54).toInt ∧ (j1 36 49).toInt - (i 36 49).toInt ≤ (j1 36 54).toInt - (i 36 54).toInt ∧ (j1 36 52).toInt - (i 36 52).toInt ≤ (j1 36 54).toInt - (i 36 54).toInt ∧ c4 j1 = c4 i ∧ exI j1) ∨ ((0 : Int32).toInt = 0 ∧ wdL (lnL (i 403) (i 36 54).toInt (i 36 55).toInt) 0 = none) := (Or.inr ⟨by rfl, hi_lp_13_1.trans (wd_no (by omega) ⟨Or.inr ⟨by omega, Or.inl (by unfold spC; omega)⟩, by omega⟩)⟩)
              exact sj_zret hx hb hr hlocks (by decide +kernel) hS j1 ⟨hO_j1, (fun a b ha => ((hfr_j1 a b (by omega)).trans (hfr_5 a b (by omega)))), ⟨by decide, by decide⟩, hV_196⟩ hH (sj_Knil hK) (Nat.le_of_ble_eq_true rfl) (Nat.le_of_ble_eq_true rfl) dX12_word_112
          · skip
            have h_197 := s_eq (rfl : (i 403 ((j1 36 54).toInt).toNat).toInt = _) (show (47 : Int32).toInt = 47 from rfl) c_136
            refine lv_aload_n hx hb dX12_word_43 rfl (lv_at hl 2 rfl) ?_
            refine lv_aload_n hx hb dX12_word_44 rfl (lv_at hl 1 rfl) ?_
            refine h_geti (ci := 12) (C := RX12) (F := TX12) (N := 86) hx hb hts in12 hown hK hH (by decide) (rfl : kd 36 = 12) (by decide) rfl 54 (by decide) wd1 (fun _ h9 => h9) (by decide) rfl dX12_word_45 ?_
            refine h_cald hx hb hK hH (by decide) (rfl : kd 403 = 14) (s_vin (N := 720) (rfl : (j1 36 54).toInt = _) (rfl : ln 403 = 720) (by omega) (by omega)) dX12_word_48 ?_
            have ek_198 : (j1 36 54).toNatClampNeg = ((j1 36 54).toInt).toNat := (s_cl (show (j1 36 54).toInt = (j1 36 54).toInt by omega))
            refine sj_i (y := (i 403 ((j1 36 54).toInt).toNat)) (by rw [ek_198]; exact ((hfr_j1 403 ((j1 36 54).toInt).toNat (by omega)).trans (hfr_5 403 ((j1 36 54).toInt).toNat (by omega)))) ?_
            refine lv_bipush (v := 47) hx hb dX12_word_49 (by decide) ?_
            refine lv_icmp_ne (tgt := 87) hx hb dX12_word_51 (by decide) (fun h => absurd (p_eq (rfl : (i 403 ((j1 36 54).toInt).toNat).toInt = _) (show (47 : Int32).toInt = 47 from rfl) (by omega)) h) (fun _ => ?_)
            refine lv_aload_n hx hb dX12_word_54 rfl (lv_at hl 1 rfl) ?_
            refine h_getr (ci := 12) (C := RX12) (F := TX12) (N := 86) hx hb hts in12 hown hK hH (by decide) (rfl : kd 36 = 12) (by decide) rfl 51 (by decide) wd3 (fun _ h9 => h9) (by decide) rfl (t := 410) (hR 36 51 rfl) (by decide) dX12_word_55 ?_
            refine lv_aload_n hx hb dX12_word_58 rfl (lv_at hl 1 rfl) ?_
            have bx_199 : (0 : Int) ≤ (j1 36 49).toInt ∧ (j1 36 49).toInt ≤ 64 := hO_j1 36 49
            refine h_geti (ci := 12) (C := RX12) (F := TX12) (N := 86) hx hb hts in12 hown hK hH (by decide) (rfl : kd 36 = 12) (by decide) rfl 49 (by decide) wd0 (fun _ h9 => h9) (by decide) rfl dX12_word_59 ?_
            refine lv_iconst (v := 1) hx hb dX12_word_62 (by decide) ?_
            refine lv_isub hx hb dX12_word_63 ?_
            obtain ⟨z_200, ez_200, hz_200⟩ := s_sub (rfl : (j1 36 49).toInt = _) (show (1 : Int32).toInt = 1 from rfl) (by omega) (by omega)
            refine sj_i ez_200 ?_
            have hls_201 : lsz j1 = ((j1 410 ((j1 36 49).toInt - 1).toNat) : Int32).toInt := by unfold lsz; rw [show j1 36 49 = (j1 36 49) from rfl]; try exact congrArg Int32.toInt (rfl)
            refine h_iald hx hb hK hH (by decide) (rfl : kd 410 = 13) (s_vin (N := 64) (rfl : z_200.toInt = _) (rfl : ln 410 = 64) (by omega) (by omega)) dX12_word_64 ?_
            have ek_202 : z_200.toNatClampNeg = ((j1 36 49).toInt - 1).toNat := (s_cl (show z_200.toInt = (j1 36 49).toInt - 1 by omega))
            refine sj_i (y := (j1 410 ((j1 36 49).toInt - 1).toNat)) (by rw [ek_202]) ?_
            refine lv_if_ne (tgt := 70) hx hb dX12_word_65 (by decide) (fun c_203 => ?_) (fun c_203 => ?_)
            · skip
              have h_204 := s_ne (rfl : (j1 410 ((j1 36 49).toInt - 1).toNat).toInt = _) (show (0 : Int32).toInt = 0 from rfl) c_203
              refine lv_aload_n hx hb dX12_word_70 rfl (lv_at hl 1 rfl) ?_
              refine x_callv (va_runV (As := []) (rest := []) ⟨hx, hb, hml, hown, hts⟩ (m_openText l D g ka ad j1 r L d  hO_j1 hR H.size (by first | omega | decide) hi_lp_13_2) (cwV 0 hts gX12_word_X12_openText rfl rfl rfl (by decide +kernel) ⟨(Nat.le_of_ble_eq_true rfl), (Nat.le_of_ble_eq_true rfl)⟩) (x_preV (q := (RX12, TX12, 86)) hH hK (q_obj (by decide) (rfl : kd 36 = 12) (by decide)) rfl gxb (gxw hE hS (x_F hH hS hA))) rfl rfl hl.1 rfl (lv_room (Nat.le_of_ble_eq_true rfl)) dX12_word_71 ⟨(Nat.le_of_ble_eq_true rfl), (Nat.le_of_ble_eq_true rfl)⟩) hH hS hA rfl rfl (fun im_207 H locs hw_206 hH hS => ?_)
              have hH : sj_H D A (hwc g ka im_207 r L d) H := hH
              obtain ⟨hO_209, hfr_208, hx2_210, hx2_211, hx2_212, hx2_213⟩ := hw_206
              have hot_214 := hx2_211
              have hot_215 := hx2_212
              refine lv_aload_n hx hb dX12_word_74 rfl (lv_at hl 1 rfl) ?_
              refine lv_dup hx hb dX12_word_75 rfl ?_
              refine h_geti (ci := 12) (C := RX12) (F := TX12) (N := 86) hx hb hts in12 hown hK hH (by decide) (rfl : kd 36 = 12) (by decide) rfl 54 (by decide) wd1 (fun _ h9 => h9) (by decide) rfl dX12_word_76 ?_
              refine sj_i (y := (j1 36 54)) (hfr_208 36 54 (by omega)) ?_
              refine lv_iconst (v := 1) hx hb dX12_word_79 (by decide) ?_
              refine lv_iadd hx hb dX12_word_80 ?_
              obtain ⟨z_216, ez_216, hz_216⟩ := s_add (rfl : (j1 36 54).toInt = _) (show (1 : Int32).toInt = 1 from rfl) (by omega) (by omega)
              refine sj_i ez_216 ?_
              have hO_217 := okp hO_209 (n := 36) (k := 54) (v := z_216) (show (0 : Int) ≤ (z_216 : Int32).toInt ∧ (z_216 : Int32).toInt ≤ 720 from ⟨by omega, by omega⟩)
              refine h_puti (ty := .int) (ci := 12) (C := RX12) (F := TX12) (N := 86) hx hb hts in12 tyX12 tyX12_ok nmX12 hown hK hH hS (by decide) (rfl : kd 36 = 12) (by decide) rfl 54 (by decide) wd1 (fun _ h9 => h9) rfl (by decide +kernel) rfl rfl (by decide) rfl dX12_word_81 (fun H locs hH hS => ?_)
              refine lv_goto (tgt := 9) hx hb dX12_word_84 (by decide) ?_
              have hp_218 : ((up2 im_207 36 54 z_216) 36 54).toInt = (z_216 : Int32).toInt := congrArg Int32.toInt ((up2_at _ _ _ _))
              have hp_219 : ((up2 im_207 36 54 z_216) 36 52).toInt = ((j1 36 52) : Int32).toInt := congrArg Int32.toInt (((up2_k _ _ (by decide)).trans (hfr_208 36 52 (by omega))))
              have hp_220 : ((up2 im_207 36 54 z_216) 36 49).toInt = ((im_207 36 49) : Int32).toInt := congrArg Int32.toInt ((up2_k _ _ (by decide)))
              have hlz8 : lsz (up2 im_207 36 54 z_216) = 0 := by rw [lsz_fr (m := im_207) (u := (up2 im_207 36 54 z_216)) (up2_o _ _ (by omega)) (funext fun b => (up2_o _ _ (by omega)))]; exact hx2_212
              have hp_221 : ((up2 im_207 36 54 z_216) 36 54).toInt = (z_216 : Int32).toInt := congrArg Int32.toInt ((up2_at _ _ _ _))
              have hp_222 : ((up2 im_207 36 54 z_216) 36 49).toInt = ((im_207 36 49) : Int32).toInt := congrArg Int32.toInt ((up2_k _ _ (by decide)))
              have hlz : lsz (up2 im_207 36 54 z_216) = 0 := by rw [lsz_fr (m := im_207) (u := (up2 im_207 36 54 z_216)) (up2_o _ _ (by omega)) (funext fun b => (up2_o _ _ (by omega)))]; exact hx2_212
              exact ih_lp_13  _ _ _ ls (by omega) (by omega) (hi_lp_13_1.trans (by rw [wd_sl (by omega) (by omega) (by omega) (by omega), hlz, show ((up2 im_207 36 54 z_216) 36 54).toInt = (j1 36 54).toInt + 1 by omega])) (exI_fr hx2_210 (up2_o _ _ (by omega)) (up2_o _ _ (by omega)) (up2_o _ _ (by omega)) (fun a h1 h2 => funext fun b => (up2_o _ _ (by omega)))) hO_217 (fun a b ha => ((up2_o _ _ (by omega)).trans ((hfr_208 a b (by omega)).trans (hfr_j1 a b (by omega))))) (lv_sub hl [0, 1, 2] rfl) hH hS
            · skip
              have h_223 := s_eq (rfl : (j1 410 ((j1 36 49).toInt - 1).toNat).toInt = _) (show (0 : Int32).toInt = 0 from rfl) c_203
              refine lv_iconst (v := 0) hx hb dX12_word_68 (by decide) ?_
              have hV_224 : ((0 : Int32).toInt = 1 ∧ wdL (lnL (i 403) (i 36 54).toInt (i 36 55).toInt) 0 = some (lnL (i 403) (j1 36 54).toInt (i 36 55).toInt) ∧ (i 36 54).toInt + 1 ≤ (j1 36 54).toInt ∧ (j1 36 54).toInt ≤ (i 36 55).toInt ∧ (j1 36 45).toInt - (i 36 45).toInt ≤ (j1 36 54).toInt - (i 36 54).toInt ∧ (j1 36 49).toInt - (i 36 49).toInt ≤ (j1 36 54).toInt - (i 36 54).toInt ∧ (j1 36 52).toInt - (i 36 52).toInt ≤ (j1 36 54).toInt - (i 36 54).toInt ∧ c4 j1 = c4 i ∧ exI j1) ∨ ((0 : Int32).toInt = 0 ∧ wdL (lnL (i 403) (i 36 54).toInt (i 36 55).toInt) 0 = none) := (Or.inr ⟨by rfl, hi_lp_13_1.trans (wd_no (by omega) ⟨Or.inr ⟨by omega, Or.inr (by omega)⟩, by omega⟩)⟩)
              exact sj_zret hx hb hr hlocks (by decide +kernel) hS j1 ⟨hO_j1, (fun a b ha => ((hfr_j1 a b (by omega)).trans (hfr_5 a b (by omega)))), ⟨by decide, by decide⟩, hV_224⟩ hH (sj_Knil hK) (Nat.le_of_ble_eq_true rfl) (Nat.le_of_ble_eq_true rfl) dX12_word_69
  have hp_225 : (im_4 36 54).toInt = ((i 36 54) : Int32).toInt := congrArg Int32.toInt ((hfr_5 36 54 (by omega)))
  have hp_226 : (im_4 36 52).toInt = ((i 36 52) : Int32).toInt := congrArg Int32.toInt ((hfr_5 36 52 (by omega)))
  have hp_227 : (im_4 36 49).toInt = ((im_4 36 49) : Int32).toInt := rfl
  have hp_228 : (im_4 36 54).toInt = ((i 36 54) : Int32).toInt := congrArg Int32.toInt ((hfr_5 36 54 (by omega)))
  have hp_229 : (im_4 36 49).toInt = ((im_4 36 49) : Int32).toInt := rfl
  exact lp_13 _  _ _ _ ls (Nat.lt_succ_self _) (by omega) (by rw [show (im_4 36 54).toInt = (i 36 54).toInt by omega, hx2_9]) hx2_7 hO_6 (fun a b ha => rfl) (lv_sub hl [0, 1, 2] rfl) hH hS
