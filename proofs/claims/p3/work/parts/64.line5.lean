theorem dX5_enterHead_0 : decode cX5_enterHead 0 = .ok (.iload_n 1, 1) := by decide +kernel
theorem dX5_enterHead_1 : decode cX5_enterHead 1 = .ok (.iconst 3, 1) := by decide +kernel
theorem dX5_enterHead_2 : decode cX5_enterHead 2 = .ok (.if_icmp .ne 26, 3) := by decide +kernel
theorem dX5_enterHead_28 : decode cX5_enterHead 28 = .ok (.iload_n 1, 1) := by decide +kernel
theorem dX5_enterHead_29 : decode cX5_enterHead 29 = .ok (.iconst 4, 1) := by decide +kernel
theorem dX5_enterHead_30 : decode cX5_enterHead 30 = .ok (.if_icmp .ne 40, 3) := by decide +kernel
theorem dX5_enterHead_70 : decode cX5_enterHead 70 = .ok (.iload_n 1, 1) := by decide +kernel
theorem dX5_enterHead_71 : decode cX5_enterHead 71 = .ok (.iconst 5, 1) := by decide +kernel
theorem dX5_enterHead_72 : decode cX5_enterHead 72 = .ok (.if_icmp .ne 35, 3) := by decide +kernel
theorem dX5_enterHead_107 : decode cX5_enterHead 107 = .ok (.iload_n 1, 1) := by decide +kernel
theorem dX5_enterHead_108 : decode cX5_enterHead 108 = .ok (.bipush 6, 2) := by decide +kernel
theorem dX5_enterHead_110 : decode cX5_enterHead 110 = .ok (.if_icmp .ne 72, 3) := by decide +kernel
theorem dX5_enterHead_182 : decode cX5_enterHead 182 = .ok (.aload_n 0, 1) := by decide +kernel
theorem dX5_enterHead_183 : decode cX5_enterHead 183 = .ok (.aload_n 0, 1) := by decide +kernel
theorem dX5_enterHead_184 : decode cX5_enterHead 184 = .ok (.getfield 40, 3) := by decide +kernel
theorem dX5_enterHead_187 : decode cX5_enterHead 187 = .ok (.aload_n 0, 1) := by decide +kernel
theorem dX5_enterHead_188 : decode cX5_enterHead 188 = .ok (.getfield 103, 3) := by decide +kernel
theorem dX5_enterHead_191 : decode cX5_enterHead 191 = .ok (.aaload, 1) := by decide +kernel
theorem dX5_enterHead_192 : decode cX5_enterHead 192 = .ok (.putfield 54, 3) := by decide +kernel
theorem dX5_enterHead_195 : decode cX5_enterHead 195 = .ok (.aload_n 0, 1) := by decide +kernel
theorem dX5_enterHead_196 : decode cX5_enterHead 196 = .ok (.dup, 1) := by decide +kernel
theorem dX5_enterHead_197 : decode cX5_enterHead 197 = .ok (.getfield 103, 3) := by decide +kernel
theorem dX5_enterHead_200 : decode cX5_enterHead 200 = .ok (.iconst 1, 1) := by decide +kernel
theorem dX5_enterHead_201 : decode cX5_enterHead 201 = .ok (.iadd, 1) := by decide +kernel
theorem dX5_enterHead_202 : decode cX5_enterHead 202 = .ok (.putfield 103, 3) := by decide +kernel
theorem dX5_enterHead_205 : decode cX5_enterHead 205 = .ok (.aload_n 0, 1) := by decide +kernel
theorem dX5_enterHead_206 : decode cX5_enterHead 206 = .ok (.getfield 54, 3) := by decide +kernel
theorem dX5_enterHead_209 : decode cX5_enterHead 209 = .ok (.iload_n 2, 1) := by decide +kernel
theorem dX5_enterHead_210 : decode cX5_enterHead 210 = .ok (.aload_n 0, 1) := by decide +kernel
theorem dX5_enterHead_211 : decode cX5_enterHead 211 = .ok (.getfield 85, 3) := by decide +kernel
theorem dX5_enterHead_214 : decode cX5_enterHead 214 = .ok (.aload_n 0, 1) := by decide +kernel
theorem dX5_enterHead_215 : decode cX5_enterHead 215 = .ok (.getfield 106, 3) := by decide +kernel
theorem dX5_enterHead_218 : decode cX5_enterHead 218 = .ok (.invokevirtual 171, 3) := by decide +kernel
theorem dX5_enterHead_221 : decode cX5_enterHead 221 = .ok (.aload_n 0, 1) := by decide +kernel
theorem dX5_enterHead_222 : decode cX5_enterHead 222 = .ok (.getfield 50, 3) := by decide +kernel
theorem dX5_enterHead_225 : decode cX5_enterHead 225 = .ok (.dup, 1) := by decide +kernel
theorem dX5_enterHead_226 : decode cX5_enterHead 226 = .ok (.getfield 180, 3) := by decide +kernel
theorem dX5_enterHead_229 : decode cX5_enterHead 229 = .ok (.iconst 1, 1) := by decide +kernel
theorem dX5_enterHead_230 : decode cX5_enterHead 230 = .ok (.iadd, 1) := by decide +kernel
theorem dX5_enterHead_231 : decode cX5_enterHead 231 = .ok (.putfield 180, 3) := by decide +kernel
theorem dX5_enterHead_234 : decode cX5_enterHead 234 = .ok (.aload_n 0, 1) := by decide +kernel
theorem dX5_enterHead_235 : decode cX5_enterHead 235 = .ok (.bipush 6, 2) := by decide +kernel
theorem dX5_enterHead_237 : decode cX5_enterHead 237 = .ok (.putfield 78, 3) := by decide +kernel
theorem dX5_enterHead_240 : decode cX5_enterHead 240 = .ok (.aload_n 0, 1) := by decide +kernel
theorem dX5_enterHead_241 : decode cX5_enterHead 241 = .ok (.iconst 0, 1) := by decide +kernel
theorem dX5_enterHead_242 : decode cX5_enterHead 242 = .ok (.putfield 85, 3) := by decide +kernel
theorem dX5_enterHead_245 : decode cX5_enterHead 245 = .ok (.return_, 1) := by decide +kernel
theorem dX5_enterHead_113 : decode cX5_enterHead 113 = .ok (.aload_n 0, 1) := by decide +kernel
theorem dX5_enterHead_114 : decode cX5_enterHead 114 = .ok (.aload_n 0, 1) := by decide +kernel
theorem dX5_enterHead_115 : decode cX5_enterHead 115 = .ok (.getfield 34, 3) := by decide +kernel
theorem dX5_enterHead_118 : decode cX5_enterHead 118 = .ok (.aload_n 0, 1) := by decide +kernel
theorem dX5_enterHead_119 : decode cX5_enterHead 119 = .ok (.getfield 97, 3) := by decide +kernel
theorem dX5_enterHead_122 : decode cX5_enterHead 122 = .ok (.aaload, 1) := by decide +kernel
theorem dX5_enterHead_123 : decode cX5_enterHead 123 = .ok (.putfield 50, 3) := by decide +kernel
theorem dX5_enterHead_126 : decode cX5_enterHead 126 = .ok (.aload_n 0, 1) := by decide +kernel
theorem dX5_enterHead_127 : decode cX5_enterHead 127 = .ok (.dup, 1) := by decide +kernel
theorem dX5_enterHead_128 : decode cX5_enterHead 128 = .ok (.getfield 97, 3) := by decide +kernel
theorem dX5_enterHead_131 : decode cX5_enterHead 131 = .ok (.iconst 1, 1) := by decide +kernel
theorem dX5_enterHead_132 : decode cX5_enterHead 132 = .ok (.iadd, 1) := by decide +kernel
theorem dX5_enterHead_133 : decode cX5_enterHead 133 = .ok (.putfield 97, 3) := by decide +kernel
theorem dX5_enterHead_136 : decode cX5_enterHead 136 = .ok (.aload_n 0, 1) := by decide +kernel
theorem dX5_enterHead_137 : decode cX5_enterHead 137 = .ok (.getfield 50, 3) := by decide +kernel
theorem dX5_enterHead_140 : decode cX5_enterHead 140 = .ok (.iload_n 2, 1) := by decide +kernel
theorem dX5_enterHead_141 : decode cX5_enterHead 141 = .ok (.aload_n 0, 1) := by decide +kernel
theorem dX5_enterHead_142 : decode cX5_enterHead 142 = .ok (.getfield 85, 3) := by decide +kernel
theorem dX5_enterHead_145 : decode cX5_enterHead 145 = .ok (.aload_n 0, 1) := by decide +kernel
theorem dX5_enterHead_146 : decode cX5_enterHead 146 = .ok (.getfield 100, 3) := by decide +kernel
theorem dX5_enterHead_149 : decode cX5_enterHead 149 = .ok (.invokevirtual 171, 3) := by decide +kernel
theorem dX5_enterHead_152 : decode cX5_enterHead 152 = .ok (.aload_n 0, 1) := by decide +kernel
theorem dX5_enterHead_153 : decode cX5_enterHead 153 = .ok (.getfield 50, 3) := by decide +kernel
theorem dX5_enterHead_156 : decode cX5_enterHead 156 = .ok (.aload_n 0, 1) := by decide +kernel
theorem dX5_enterHead_157 : decode cX5_enterHead 157 = .ok (.getfield 94, 3) := by decide +kernel
theorem dX5_enterHead_160 : decode cX5_enterHead 160 = .ok (.putfield 174, 3) := by decide +kernel
theorem dX5_enterHead_163 : decode cX5_enterHead 163 = .ok (.aload_n 0, 1) := by decide +kernel
theorem dX5_enterHead_164 : decode cX5_enterHead 164 = .ok (.getfield 50, 3) := by decide +kernel
theorem dX5_enterHead_167 : decode cX5_enterHead 167 = .ok (.aload_n 0, 1) := by decide +kernel
theorem dX5_enterHead_168 : decode cX5_enterHead 168 = .ok (.getfield 103, 3) := by decide +kernel
theorem dX5_enterHead_171 : decode cX5_enterHead 171 = .ok (.putfield 177, 3) := by decide +kernel
theorem dX5_enterHead_174 : decode cX5_enterHead 174 = .ok (.aload_n 0, 1) := by decide +kernel
theorem dX5_enterHead_175 : decode cX5_enterHead 175 = .ok (.iconst 4, 1) := by decide +kernel
theorem dX5_enterHead_176 : decode cX5_enterHead 176 = .ok (.putfield 78, 3) := by decide +kernel
theorem dX5_enterHead_179 : decode cX5_enterHead 179 = .ok (.goto 61, 3) := by decide +kernel
theorem dX5_enterHead_75 : decode cX5_enterHead 75 = .ok (.aload_n 0, 1) := by decide +kernel
theorem dX5_enterHead_76 : decode cX5_enterHead 76 = .ok (.aload_n 0, 1) := by decide +kernel
theorem dX5_enterHead_77 : decode cX5_enterHead 77 = .ok (.getfield 29, 3) := by decide +kernel
theorem dX5_enterHead_80 : decode cX5_enterHead 80 = .ok (.aload_n 0, 1) := by decide +kernel
theorem dX5_enterHead_81 : decode cX5_enterHead 81 = .ok (.getfield 94, 3) := by decide +kernel
theorem dX5_enterHead_84 : decode cX5_enterHead 84 = .ok (.aaload, 1) := by decide +kernel
theorem dX5_enterHead_85 : decode cX5_enterHead 85 = .ok (.putfield 50, 3) := by decide +kernel
theorem dX5_enterHead_88 : decode cX5_enterHead 88 = .ok (.aload_n 0, 1) := by decide +kernel
theorem dX5_enterHead_89 : decode cX5_enterHead 89 = .ok (.getfield 50, 3) := by decide +kernel
theorem dX5_enterHead_92 : decode cX5_enterHead 92 = .ok (.aload_n 0, 1) := by decide +kernel
theorem dX5_enterHead_93 : decode cX5_enterHead 93 = .ok (.getfield 100, 3) := by decide +kernel
theorem dX5_enterHead_96 : decode cX5_enterHead 96 = .ok (.putfield 161, 3) := by decide +kernel
theorem dX5_enterHead_99 : decode cX5_enterHead 99 = .ok (.aload_n 0, 1) := by decide +kernel
theorem dX5_enterHead_100 : decode cX5_enterHead 100 = .ok (.iconst 2, 1) := by decide +kernel
theorem dX5_enterHead_101 : decode cX5_enterHead 101 = .ok (.putfield 78, 3) := by decide +kernel
theorem dX5_enterHead_104 : decode cX5_enterHead 104 = .ok (.goto 136, 3) := by decide +kernel
theorem dX5_enterHead_33 : decode cX5_enterHead 33 = .ok (.aload_n 0, 1) := by decide +kernel
theorem dX5_enterHead_34 : decode cX5_enterHead 34 = .ok (.dup, 1) := by decide +kernel
theorem dX5_enterHead_35 : decode cX5_enterHead 35 = .ok (.getfield 94, 3) := by decide +kernel
theorem dX5_enterHead_38 : decode cX5_enterHead 38 = .ok (.iconst 1, 1) := by decide +kernel
theorem dX5_enterHead_39 : decode cX5_enterHead 39 = .ok (.iadd, 1) := by decide +kernel
theorem dX5_enterHead_40 : decode cX5_enterHead 40 = .ok (.putfield 94, 3) := by decide +kernel
theorem dX5_enterHead_43 : decode cX5_enterHead 43 = .ok (.aload_n 0, 1) := by decide +kernel
theorem dX5_enterHead_44 : decode cX5_enterHead 44 = .ok (.getfield 29, 3) := by decide +kernel
theorem dX5_enterHead_47 : decode cX5_enterHead 47 = .ok (.aload_n 0, 1) := by decide +kernel
theorem dX5_enterHead_48 : decode cX5_enterHead 48 = .ok (.getfield 94, 3) := by decide +kernel
theorem dX5_enterHead_51 : decode cX5_enterHead 51 = .ok (.aaload, 1) := by decide +kernel
theorem dX5_enterHead_52 : decode cX5_enterHead 52 = .ok (.iload_n 2, 1) := by decide +kernel
theorem dX5_enterHead_53 : decode cX5_enterHead 53 = .ok (.aload_n 0, 1) := by decide +kernel
theorem dX5_enterHead_54 : decode cX5_enterHead 54 = .ok (.getfield 85, 3) := by decide +kernel
theorem dX5_enterHead_57 : decode cX5_enterHead 57 = .ok (.iconst 0, 1) := by decide +kernel
theorem dX5_enterHead_58 : decode cX5_enterHead 58 = .ok (.invokevirtual 171, 3) := by decide +kernel
theorem dX5_enterHead_61 : decode cX5_enterHead 61 = .ok (.aload_n 0, 1) := by decide +kernel
theorem dX5_enterHead_62 : decode cX5_enterHead 62 = .ok (.bipush 8, 2) := by decide +kernel
theorem dX5_enterHead_64 : decode cX5_enterHead 64 = .ok (.putfield 78, 3) := by decide +kernel
theorem dX5_enterHead_67 : decode cX5_enterHead 67 = .ok (.goto 173, 3) := by decide +kernel
theorem dX5_enterHead_5 : decode cX5_enterHead 5 = .ok (.aload_n 0, 1) := by decide +kernel
theorem dX5_enterHead_6 : decode cX5_enterHead 6 = .ok (.getfield 29, 3) := by decide +kernel
theorem dX5_enterHead_9 : decode cX5_enterHead 9 = .ok (.iconst 0, 1) := by decide +kernel
theorem dX5_enterHead_10 : decode cX5_enterHead 10 = .ok (.aaload, 1) := by decide +kernel
theorem dX5_enterHead_11 : decode cX5_enterHead 11 = .ok (.iload_n 2, 1) := by decide +kernel
theorem dX5_enterHead_12 : decode cX5_enterHead 12 = .ok (.aload_n 0, 1) := by decide +kernel
theorem dX5_enterHead_13 : decode cX5_enterHead 13 = .ok (.getfield 85, 3) := by decide +kernel
theorem dX5_enterHead_16 : decode cX5_enterHead 16 = .ok (.iconst 0, 1) := by decide +kernel
theorem dX5_enterHead_17 : decode cX5_enterHead 17 = .ok (.invokevirtual 171, 3) := by decide +kernel
theorem dX5_enterHead_20 : decode cX5_enterHead 20 = .ok (.aload_n 0, 1) := by decide +kernel
theorem dX5_enterHead_21 : decode cX5_enterHead 21 = .ok (.iconst 1, 1) := by decide +kernel
theorem dX5_enterHead_22 : decode cX5_enterHead 22 = .ok (.putfield 78, 3) := by decide +kernel
theorem dX5_enterHead_25 : decode cX5_enterHead 25 = .ok (.goto 215, 3) := by decide +kernel
theorem gw_X4_begin : wsX4_begin.all goodWord = true := by decide +kernel
theorem gX5_enterHead_X4_begin : GoodIn wsX5_enterHead (wsV RX5 171 RX4 yX4_begin wsX4_begin) := goodIn_app (goodIn_sub (List.forall_mem_cons.mpr ⟨(List.mem_cons_of_mem _ (List.mem_append_left _ (List.mem_append_left _ (List.mem_append_left _ lm16)))), List.forall_mem_cons.mpr ⟨(List.mem_cons_of_mem _ (List.mem_append_left _ (List.mem_append_left _ (List.mem_append_left _ lm17)))), List.forall_mem_cons.mpr ⟨(List.mem_cons_of_mem _ (List.mem_append_left _ (List.mem_append_left _ (List.mem_append_left _ lm18)))), List.forall_mem_cons.mpr ⟨(List.mem_cons_of_mem _ (List.mem_append_left _ (List.mem_append_left _ (List.mem_append_left _ lm19)))), (fun _ h => absurd h List.not_mem_nil)⟩⟩⟩⟩) (by decide +kernel)) (goodIn_sub (by unfold wsX4_begin; exact List.forall_mem_cons.mpr ⟨(List.mem_cons_of_mem _ (List.mem_append_left _ (List.mem_append_left _ (List.mem_append_left _ lm20)))), List.forall_mem_append.mpr ⟨List.forall_mem_cons.mpr ⟨(List.mem_cons_of_mem _ (List.mem_append_left _ (List.mem_append_left _ (List.mem_append_left _ lm21)))), List.forall_mem_cons.mpr ⟨(List.mem_cons_of_mem _ (List.mem_append_left _ (List.mem_append_left _ (List.mem_append_left _ lm22)))), List.forall_mem_cons.mpr ⟨(List.mem_cons_of_mem _ (List.mem_append_left _ (List.mem_append_left _ (List.mem_append_left _ lm23)))), List.forall_mem_cons.mpr ⟨(List.mem_cons_of_mem _ (List.mem_append_left _ (List.mem_append_left _ (List.mem_append_right _ lm0)))), List.forall_mem_cons.mpr ⟨(List.mem_cons_of_mem _ (List.mem_append_left _ (List.mem_append_left _ (List.mem_append_right _ lm1)))), (fun _ h => absurd h List.not_mem_nil)⟩⟩⟩⟩⟩, (fun _ h => (List.mem_cons_of_mem _ (List.mem_append_right _ h)))⟩⟩) gw_X4_begin)
set_option maxHeartbeats 2000000 in
set_option maxRecDepth 100000 in
theorem k_enterHead (l : Launch) (D : va_G) (g : Nat → Nat) (ka : Nat → ClassId) (ad : Nat → Nat) (i : Nat → Nat → Int32) (r : Nat → Nat → Nat) (L : Nat → Nat → Int64) (d : Nat → Nat → UInt64) (x : Int32) (y : Int32) (hO : OkI i) (hR : RS r) (sz : Nat) (hx0 : 3 ≤ x.toInt) (hx1 : x.toInt ≤ 7) (hrm : roomQ i x.toInt) (hk7 : okO i (r 3 17) x.toInt) (hQ0 : 37 ≤ r 3 17 ∧ r 3 17 < 54 ∧ 54 ≤ r 3 18 ∧ r 3 18 < 96) (hPO : PO i) : Met l yX5_enterHead wsX5_enterHead ({ frames := 1, cells := 0, slots := 0, locals := 23 }) (va_Pc [.ref (g 3), .int x, .int y] (sj_B D (hwc g ka i r L d) (hT ka) sz (gx ad (va_A (hwc g ka i r L d) sz)))) (sj_Qv (S := (Nat → Nat → Int32) × (Nat → Nat → Nat)) D (fun u => OkI u.1 ∧ (∀ a, ¬ (a = 3 ∨ (37 ≤ a ∧ a < 96)) → u.1 a = i a) ∧ RS u.2 ∧ (∀ a b, ¬ ((a = 3 ∧ (b = 17 ∨ b = 18))) → u.2 a b = r a b) ∧ (hdQ i (r 3 17) (r 3 18) u.1 (u.2 3 17) (u.2 3 18) y.toInt x.toInt)) (fun u => hwc g ka u.1 u.2 L d) (fun _ => []) (va_A (hwc g ka i r L d) sz)) 0 0 (va_A (hwc g ka i r L d) sz) := by
  refine x_met (Ex := gx ad) (cc := cX5_enterHead) (maxL := 3) (ret := none) (by decide) rfl (Nat.le_of_ble_eq_true rfl) ?_
  intro p e s m below meth c A ls hx hb hr hml hts hown hlocks hA hS hH hK hE hl
  have hown : s.vm.findClass RX5 = some m.cls := hown
  have in4 : ∀ w ∈ wsX40, w ∈ wsX5_enterHead := (fun _ h => (List.mem_cons_of_mem _ (List.mem_append_right _ h)))
  have in5 : ∀ w ∈ wsX50, w ∈ wsX5_enterHead := (fun _ h => (List.mem_cons_of_mem _ (List.mem_append_left _ (List.mem_append_right _ h))))
  have wd0 := hts (.fieldLink RX5 40 "StoryDesk$Reading" "examples" "[LStoryDesk$Part;") (List.mem_cons_of_mem _ (List.mem_append_left _ (List.mem_append_left _ (List.mem_append_left _ lm12))))
  have wd1 := hts (.fieldLink RX5 103 "StoryDesk$Reading" "exampleCount" "I") (List.mem_cons_of_mem _ (List.mem_append_left _ (List.mem_append_left _ (List.mem_append_left _ lm10))))
  have wd2 := hts (.fieldLink RX5 54 "StoryDesk$Reading" "table" "LStoryDesk$Part;") (List.mem_cons_of_mem _ (List.mem_append_left _ (List.mem_append_left _ (List.mem_append_left _ lm13))))
  have wd3 := hts (.fieldLink RX5 85 "StoryDesk$Reading" "waitingTags" "I") (List.mem_cons_of_mem _ (List.mem_append_left _ (List.mem_append_left _ (List.mem_append_left _ lm1))))
  have wd4 := hts (.fieldLink RX5 106 "StoryDesk$Reading" "rowCount" "I") (List.mem_cons_of_mem _ (List.mem_append_left _ (List.mem_append_left _ (List.mem_append_left _ lm14))))
  have wd5 := hts (.fieldLink RX5 50 "StoryDesk$Reading" "owner" "LStoryDesk$Part;") (List.mem_cons_of_mem _ (List.mem_append_left _ (List.mem_append_left _ (List.mem_append_left _ lm4))))
  have wd6 := hts (.fieldLink RX5 180 "StoryDesk$Part" "examples" "I") (List.mem_cons_of_mem _ (List.mem_append_left _ (List.mem_append_left _ (List.mem_append_left _ lm15))))
  have wd7 := hts (.fieldLink RX5 78 "StoryDesk$Reading" "state" "I") (List.mem_cons_of_mem _ (List.mem_append_left _ (List.mem_append_left _ (List.mem_append_left _ lm2))))
  have wd8 := hts (.fieldLink RX5 34 "StoryDesk$Reading" "scenarios" "[LStoryDesk$Part;") (List.mem_cons_of_mem _ (List.mem_append_left _ (List.mem_append_left _ (List.mem_append_left _ lm7))))
  have wd9 := hts (.fieldLink RX5 97 "StoryDesk$Reading" "scenarioCount" "I") (List.mem_cons_of_mem _ (List.mem_append_left _ (List.mem_append_left _ (List.mem_append_left _ lm8))))
  have wd10 := hts (.fieldLink RX5 100 "StoryDesk$Reading" "stepCount" "I") (List.mem_cons_of_mem _ (List.mem_append_left _ (List.mem_append_left _ (List.mem_append_left _ lm5))))
  have wd11 := hts (.fieldLink RX5 94 "StoryDesk$Reading" "rules" "I") (List.mem_cons_of_mem _ (List.mem_append_left _ (List.mem_append_left _ (List.mem_append_left _ lm3))))
  have wd12 := hts (.fieldLink RX5 174 "StoryDesk$Part" "section" "I") (List.mem_cons_of_mem _ (List.mem_append_left _ (List.mem_append_left _ (List.mem_append_left _ lm9))))
  have wd13 := hts (.fieldLink RX5 177 "StoryDesk$Part" "firstExamples" "I") (List.mem_cons_of_mem _ (List.mem_append_left _ (List.mem_append_left _ (List.mem_append_left _ lm11))))
  have wd14 := hts (.fieldLink RX5 29 "StoryDesk$Reading" "sections" "[LStoryDesk$Part;") (List.mem_cons_of_mem _ (List.mem_append_left _ (List.mem_append_left _ (List.mem_append_left _ lm0))))
  have wd15 := hts (.fieldLink RX5 161 "StoryDesk$Part" "first" "I") (List.mem_cons_of_mem _ (List.mem_append_left _ (List.mem_append_left _ (List.mem_append_left _ lm6))))
  have hl : lv_has ls 3 [(0, .ref (g 3)), (1, .int x), (2, .int y)] := hl
  have hK : va_K D vwCl (hT ka) s := hK
  have hg_1 := s_rng y
  have hb6 : (0 : Int) ≤ (i 3 6).toInt ∧ (i 3 6).toInt ≤ 4 := hO 3 6
  have hb8 : (0 : Int) ≤ (i 3 8).toInt ∧ (i 3 8).toInt ≤ 12 := hO 3 8
  have hb10 : (0 : Int) ≤ (i 3 10).toInt ∧ (i 3 10).toInt ≤ 30 := hO 3 10
  have hb12 : (0 : Int) ≤ (i 3 12).toInt ∧ (i 3 12).toInt ≤ 12 := hO 3 12
  have hb14 : (0 : Int) ≤ (i 3 14).toInt ∧ (i 3 14).toInt ≤ 40 := hO 3 14
  have hb15 : (0 : Int) ≤ (i 3 15).toInt ∧ (i 3 15).toInt ≤ 8 := hO 3 15
  have hb16 : (0 : Int) ≤ (i 3 16).toInt ∧ (i 3 16).toInt ≤ 65535 := hO 3 16
  refine lv_iload_n hx hb dX5_enterHead_0 rfl (lv_at hl 1 rfl) ?_
  refine lv_iconst (v := 3) hx hb dX5_enterHead_1 (by decide) ?_
  refine lv_icmp_ne (tgt := 28) hx hb dX5_enterHead_2 (by decide) (fun c_2 => ?_) (fun c_2 => ?_)
  · skip
    have h_3 := s_ne (rfl : x.toInt = _) (show (3 : Int32).toInt = 3 from rfl) c_2
    refine lv_iload_n hx hb dX5_enterHead_28 rfl (lv_at hl 1 rfl) ?_
    refine lv_iconst (v := 4) hx hb dX5_enterHead_29 (by decide) ?_
    refine lv_icmp_ne (tgt := 70) hx hb dX5_enterHead_30 (by decide) (fun c_4 => ?_) (fun c_4 => ?_)
    · skip
      have h_5 := s_ne (rfl : x.toInt = _) (show (4 : Int32).toInt = 4 from rfl) c_4
      refine lv_iload_n hx hb dX5_enterHead_70 rfl (lv_at hl 1 rfl) ?_
      refine lv_iconst (v := 5) hx hb dX5_enterHead_71 (by decide) ?_
      refine lv_icmp_ne (tgt := 107) hx hb dX5_enterHead_72 (by decide) (fun c_6 => ?_) (fun c_6 => ?_)
      · skip
        have h_7 := s_ne (rfl : x.toInt = _) (show (5 : Int32).toInt = 5 from rfl) c_6
        refine lv_iload_n hx hb dX5_enterHead_107 rfl (lv_at hl 1 rfl) ?_
        refine lv_bipush (v := 6) hx hb dX5_enterHead_108 (by decide) ?_
        refine lv_icmp_ne (tgt := 182) hx hb dX5_enterHead_110 (by decide) (fun c_8 => ?_) (fun c_8 => ?_)
        · skip
          have h_9 := s_ne (rfl : x.toInt = _) (show (6 : Int32).toInt = 6 from rfl) c_8
          have hr9 := hrm.2.2.2.1 (by omega)
          have hk79 := hk7 (by omega)
          refine lv_aload_n hx hb dX5_enterHead_182 rfl (lv_at hl 0 rfl) ?_
          refine lv_aload_n hx hb dX5_enterHead_183 rfl (lv_at hl 0 rfl) ?_
          refine h_getr (ci := 5) (C := RX5) (F := TX5) (N := 19) hx hb hts in5 hown hK hH (by decide) (rfl : kd 3 = 5) (by decide) rfl 11 (by decide) wd0 (fun _ h9 => h9) (by decide) rfl (t := 11) (hR 3 11 rfl) (by decide) dX5_enterHead_184 ?_
          refine lv_aload_n hx hb dX5_enterHead_187 rfl (lv_at hl 0 rfl) ?_
          have bx_10 : (0 : Int) ≤ (i 3 12).toInt ∧ (i 3 12).toInt ≤ 12 := hO 3 12
          refine h_geti (ci := 5) (C := RX5) (F := TX5) (N := 19) hx hb hts in5 hown hK hH (by decide) (rfl : kd 3 = 5) (by decide) rfl 12 (by decide) wd1 (fun _ h9 => h9) (by decide) rfl dX5_enterHead_188 ?_
          obtain ⟨j_11, ej_11, hj_11⟩ : ∃ j : Nat, ((i 3 12)).toNatClampNeg = j ∧ (j : Int) = (i 3 12).toInt := ⟨_, rfl, by rw [s_cl (rfl : (i 3 12).toInt = _)]; omega⟩
          have lj_11 : j_11 < 12 := by omega
          refine h_qald hx hb hK hH (by decide) (rfl : kd 11 = 22) (by decide) rfl (s_vin (N := 12) (rfl : (i 3 12).toInt = _) (rfl : ln 11 = 12) (by omega) (by omega)) (t := (84 + 1 * j_11)) (by rw [ej_11]; exact (hR 11 j_11 rfl)) (lt_nK (by omega)) dX5_enterHead_191 ?_
          have pb_12 := bxp hO (p := (84 + 1 * j_11)) (by omega) (by omega)
          have po_13 := hPO (84 + 1 * j_11) (by omega) (by omega)
          refine h_putr (t := (84 + 1 * j_11)) (v := .ref (g (84 + 1 * j_11))) (ty := (.object "StoryDesk$Part")) (ci := 5) (C := RX5) (F := TX5) (N := 19) hx hb hts in5 tyX5 tyX5_ok nmX5 hown hK hH hS (by decide) (rfl : kd 3 = 5) (by decide) rfl 18 (by decide) wd2 (fun _ h9 => h9) rfl (rq_some (lt_nK (by omega))) (by decide +kernel) rfl rfl (by decide) rfl dX5_enterHead_192 (fun H locs hH hS => ?_)
          refine lv_aload_n hx hb dX5_enterHead_195 rfl (lv_at hl 0 rfl) ?_
          refine lv_dup hx hb dX5_enterHead_196 rfl ?_
          refine h_geti (ci := 5) (C := RX5) (F := TX5) (N := 19) hx hb hts in5 hown hK hH (by decide) (rfl : kd 3 = 5) (by decide) rfl 12 (by decide) wd1 (fun _ h9 => h9) (by decide) rfl dX5_enterHead_197 ?_
          refine lv_iconst (v := 1) hx hb dX5_enterHead_200 (by decide) ?_
          refine lv_iadd hx hb dX5_enterHead_201 ?_
          obtain ⟨z_14, ez_14, hz_14⟩ := s_add (rfl : (i 3 12).toInt = _) (show (1 : Int32).toInt = 1 from rfl) (by omega) (by omega)
          refine sj_i ez_14 ?_
          have hO_15 := okp hO (n := 3) (k := 12) (v := z_14) (show (0 : Int) ≤ (z_14 : Int32).toInt ∧ (z_14 : Int32).toInt ≤ 12 from ⟨by omega, by omega⟩)
          refine h_puti (ty := .int) (ci := 5) (C := RX5) (F := TX5) (N := 19) hx hb hts in5 tyX5 tyX5_ok nmX5 hown hK hH hS (by decide) (rfl : kd 3 = 5) (by decide) rfl 12 (by decide) wd1 (fun _ h9 => h9) rfl (by decide +kernel) rfl rfl (by decide) rfl dX5_enterHead_202 (fun H locs hH hS => ?_)
          refine lv_aload_n hx hb dX5_enterHead_205 rfl (lv_at hl 0 rfl) ?_
          refine h_getr (ci := 5) (C := RX5) (F := TX5) (N := 19) hx hb hts in5 hown hK hH (by decide) (rfl : kd 3 = 5) (by decide) rfl 18 (by decide) wd2 (fun _ h9 => h9) (by decide) rfl (t := (84 + 1 * j_11)) (upr_at _ _ _ _) (lt_nK (by omega)) dX5_enterHead_206 ?_
          have pb_16 := bxp hO (p := (84 + 1 * j_11)) (by omega) (by omega)
          have po_17 := hPO (84 + 1 * j_11) (by omega) (by omega)
          refine lv_iload_n hx hb dX5_enterHead_209 rfl (lv_at hl 2 rfl) ?_
          refine lv_aload_n hx hb dX5_enterHead_210 rfl (lv_at hl 0 rfl) ?_
          have bx_18 : (0 : Int) ≤ (i 3 16).toInt ∧ (i 3 16).toInt ≤ 65535 := hO 3 16
          refine h_geti (ci := 5) (C := RX5) (F := TX5) (N := 19) hx hb hts in5 hown hK hH (by decide) (rfl : kd 3 = 5) (by decide) rfl 16 (by decide) wd3 (fun _ h9 => h9) (by decide) rfl dX5_enterHead_211 ?_
          refine sj_i (y := (i 3 16)) (up2_k _ _ (by decide)) ?_
          refine lv_aload_n hx hb dX5_enterHead_214 rfl (lv_at hl 0 rfl) ?_
          have bx_19 : (0 : Int) ≤ (i 3 14).toInt ∧ (i 3 14).toInt ≤ 40 := hO 3 14
          refine h_geti (ci := 5) (C := RX5) (F := TX5) (N := 19) hx hb hts in5 hown hK hH (by decide) (rfl : kd 3 = 5) (by decide) rfl 14 (by decide) wd4 (fun _ h9 => h9) (by decide) rfl dX5_enterHead_215 ?_
          refine sj_i (y := (i 3 14)) (up2_k _ _ (by decide)) ?_
          refine x_callv (va_runV (As := [.int y, .int (i 3 16), .int (i 3 14)]) (rest := []) ⟨hx, hb, hml, hown, hts⟩ (k_pbegin l D g ka ad (up2 i 3 12 z_14) (upr r 3 18 (84 + 1 * j_11)) L d (84 + 1 * j_11) y (i 3 16) (i 3 14) hO_15 (RS_put hR rfl) H.size (by first | omega | decide) (by first | omega | decide) (by first | omega | decide) (by first | omega | decide) (by first | omega | decide) (by first | omega | decide)) (cwV 3 hts gX5_enterHead_X4_begin rfl rfl rfl (by decide +kernel) ⟨(Nat.le_of_ble_eq_true rfl), (Nat.le_of_ble_eq_true rfl)⟩) (x_preV (q := (RX4, TX4, 9)) hH hK (q_obj (lt_nK (by omega)) (kd_part (by omega) (by omega)) (by decide)) rfl gxb (gxw hE hS (x_F hH hS hA))) rfl rfl hl.1 rfl (lv_room (Nat.le_of_ble_eq_true rfl)) dX5_enterHead_218 ⟨(Nat.le_of_ble_eq_true rfl), (Nat.le_of_ble_eq_true rfl)⟩) hH hS hA rfl rfl (fun im_22 H locs hw_21 hH hS => ?_)
          have hH : sj_H D A (hwc g ka im_22 (upr r 3 18 (84 + 1 * j_11)) L d) H := hH
          obtain ⟨hO_24, hfr_23, hx2_25, hx2_26⟩ := hw_21
          obtain ⟨hpb_27, hpb_28, hpb_29, hpb_30, hpb_31⟩ := hx2_25
          refine lv_aload_n hx hb dX5_enterHead_221 rfl (lv_at hl 0 rfl) ?_
          refine h_getr (ci := 5) (C := RX5) (F := TX5) (N := 19) hx hb hts in5 hown hK hH (by decide) (rfl : kd 3 = 5) (by decide) rfl 17 (by decide) wd5 (fun _ h9 => h9) (by decide) rfl (t := (r 3 17)) ((upr_k _ _ (by decide)).trans rfl) (lt_nK (by omega)) dX5_enterHead_222 ?_
          have pb_32 := bxp hO (p := (r 3 17)) (by omega) (by omega)
          have po_33 := hPO (r 3 17) (by omega) (by omega)
          refine lv_dup hx hb dX5_enterHead_225 rfl ?_
          have bx_34 : (0 : Int) ≤ (i (r 3 17) 8).toInt ∧ (i (r 3 17) 8).toInt ≤ 12 := by have h9 := hO (r 3 17) 8; rw [bx_part (by omega) (by omega) 8] at h9; exact h9
          refine h_geti (ci := 4) (C := RX4) (F := TX4) (N := 9) hx hb hts in4 hown hK hH (lt_nK (by omega)) (kd_part (by omega) (by omega)) (by decide) rfl 8 (by decide) wd6 (fun _ h9 => h9) (by decide) rfl dX5_enterHead_226 ?_
          refine sj_i (y := (i (r 3 17) 8)) ((congrFun (hfr_23 (r 3 17) (by omega)) _).trans (congrFun (up2_n _ _ (by omega)) _)) ?_
          refine lv_iconst (v := 1) hx hb dX5_enterHead_229 (by decide) ?_
          refine lv_iadd hx hb dX5_enterHead_230 ?_
          obtain ⟨z_35, ez_35, hz_35⟩ := s_add (rfl : (i (r 3 17) 8).toInt = _) (show (1 : Int32).toInt = 1 from rfl) (by omega) (by omega)
          refine sj_i ez_35 ?_
          have hO_36 := okp hO_24 (n := (r 3 17)) (k := 8) (v := z_35) (by rw [bx_part (by omega) (by omega) 8]; exact (show (0 : Int) ≤ (z_35 : Int32).toInt ∧ (z_35 : Int32).toInt ≤ 12 from ⟨by omega, by omega⟩))
          refine h_puti (ty := .int) (ci := 4) (C := RX4) (F := TX4) (N := 9) hx hb hts in4 tyX4 tyX4_ok nmX4 hown hK hH hS (lt_nK (by omega)) (kd_part (by omega) (by omega)) (by decide) rfl 8 (by decide) wd6 (fun _ h9 => h9) rfl (by decide +kernel) rfl rfl (by decide) rfl dX5_enterHead_231 (fun H locs hH hS => ?_)
          refine lv_aload_n hx hb dX5_enterHead_234 rfl (lv_at hl 0 rfl) ?_
          refine lv_bipush (v := 6) hx hb dX5_enterHead_235 (by decide) ?_
          have hO_37 := okp hO_36 (n := 3) (k := 15) (v := 6) (show (0 : Int) ≤ (6 : Int32).toInt ∧ (6 : Int32).toInt ≤ 8 from ⟨by decide, by decide⟩)
          refine h_puti (ty := .int) (ci := 5) (C := RX5) (F := TX5) (N := 19) hx hb hts in5 tyX5 tyX5_ok nmX5 hown hK hH hS (by decide) (rfl : kd 3 = 5) (by decide) rfl 15 (by decide) wd7 (fun _ h9 => h9) rfl (by decide +kernel) rfl rfl (by decide) rfl dX5_enterHead_237 (fun H locs hH hS => ?_)
          refine lv_aload_n hx hb dX5_enterHead_240 rfl (lv_at hl 0 rfl) ?_
          refine lv_iconst (v := 0) hx hb dX5_enterHead_241 (by decide) ?_
          have hO_38 := okp hO_37 (n := 3) (k := 16) (v := 0) (show (0 : Int) ≤ (0 : Int32).toInt ∧ (0 : Int32).toInt ≤ 65535 from ⟨by decide, by decide⟩)
          refine h_puti (ty := .int) (ci := 5) (C := RX5) (F := TX5) (N := 19) hx hb hts in5 tyX5 tyX5_ok nmX5 hown hK hH hS (by decide) (rfl : kd 3 = 5) (by decide) rfl 16 (by decide) wd3 (fun _ h9 => h9) rfl (by decide +kernel) rfl rfl (by decide) rfl dX5_enterHead_242 (fun H locs hH hS => ?_)
          have hp_39 : ((up2 (up2 (up2 im_22 (r 3 17) 8 z_35) 3 15 6) 3 16 0) 3 6).toInt = ((i 3 6) : Int32).toInt := congrArg Int32.toInt (((up2_k _ _ (by decide)).trans ((up2_k _ _ (by decide)).trans ((congrFun (up2_n _ _ (by omega)) _).trans ((congrFun (hfr_23 3 (by omega)) _).trans (up2_k _ _ (by decide)))))))
          have hp_40 : ((up2 (up2 (up2 im_22 (r 3 17) 8 z_35) 3 15 6) 3 16 0) 3 8).toInt = ((i 3 8) : Int32).toInt := congrArg Int32.toInt (((up2_k _ _ (by decide)).trans ((up2_k _ _ (by decide)).trans ((congrFun (up2_n _ _ (by omega)) _).trans ((congrFun (hfr_23 3 (by omega)) _).trans (up2_k _ _ (by decide)))))))
          have hp_41 : ((up2 (up2 (up2 im_22 (r 3 17) 8 z_35) 3 15 6) 3 16 0) 3 10).toInt = ((i 3 10) : Int32).toInt := congrArg Int32.toInt (((up2_k _ _ (by decide)).trans ((up2_k _ _ (by decide)).trans ((congrFun (up2_n _ _ (by omega)) _).trans ((congrFun (hfr_23 3 (by omega)) _).trans (up2_k _ _ (by decide)))))))
          have hp_42 : ((up2 (up2 (up2 im_22 (r 3 17) 8 z_35) 3 15 6) 3 16 0) 3 12).toInt = (z_14 : Int32).toInt := congrArg Int32.toInt (((up2_k _ _ (by decide)).trans ((up2_k _ _ (by decide)).trans ((congrFun (up2_n _ _ (by omega)) _).trans ((congrFun (hfr_23 3 (by omega)) _).trans (up2_at _ _ _ _))))))
          have hp_43 : ((up2 (up2 (up2 im_22 (r 3 17) 8 z_35) 3 15 6) 3 16 0) 3 14).toInt = ((i 3 14) : Int32).toInt := congrArg Int32.toInt (((up2_k _ _ (by decide)).trans ((up2_k _ _ (by decide)).trans ((congrFun (up2_n _ _ (by omega)) _).trans ((congrFun (hfr_23 3 (by omega)) _).trans (up2_k _ _ (by decide)))))))
          have hp_44 : ((up2 (up2 (up2 im_22 (r 3 17) 8 z_35) 3 15 6) 3 16 0) 3 15).toInt = (6 : Int32).toInt := congrArg Int32.toInt (((up2_k _ _ (by decide)).trans (up2_at _ _ _ _)))
          have hl_45 : (6 : Int32).toInt = 6 := rfl
          have hp_46 : ((up2 (up2 (up2 im_22 (r 3 17) 8 z_35) 3 15 6) 3 16 0) 3 16).toInt = (0 : Int32).toInt := congrArg Int32.toInt ((up2_at _ _ _ _))
          have hl_47 : (0 : Int32).toInt = 0 := rfl
          have hN : 84 + (i 3 12).toInt.toNat = 84 + 1 * j_11 := by omega
          have hp_48 : ((up2 (up2 (up2 im_22 (r 3 17) 8 z_35) 3 15 6) 3 16 0) (84 + 1 * j_11) 0).toInt = ((im_22 (84 + 1 * j_11) 0) : Int32).toInt := congrArg Int32.toInt (((congrFun (up2_n _ _ (by omega)) _).trans ((congrFun (up2_n _ _ (by omega)) _).trans (congrFun (up2_n _ _ (by omega)) _))))
          have hp_49 : ((up2 (up2 (up2 im_22 (r 3 17) 8 z_35) 3 15 6) 3 16 0) (84 + 1 * j_11) 1).toInt = ((im_22 (84 + 1 * j_11) 1) : Int32).toInt := congrArg Int32.toInt (((congrFun (up2_n _ _ (by omega)) _).trans ((congrFun (up2_n _ _ (by omega)) _).trans (congrFun (up2_n _ _ (by omega)) _))))
          have hp_50 : ((up2 (up2 (up2 im_22 (r 3 17) 8 z_35) 3 15 6) 3 16 0) (84 + 1 * j_11) 2).toInt = ((im_22 (84 + 1 * j_11) 2) : Int32).toInt := congrArg Int32.toInt (((congrFun (up2_n _ _ (by omega)) _).trans ((congrFun (up2_n _ _ (by omega)) _).trans (congrFun (up2_n _ _ (by omega)) _))))
          have hp_51 : ((up2 (up2 (up2 im_22 (r 3 17) 8 z_35) 3 15 6) 3 16 0) (84 + 1 * j_11) 3).toInt = ((im_22 (84 + 1 * j_11) 3) : Int32).toInt := congrArg Int32.toInt (((congrFun (up2_n _ _ (by omega)) _).trans ((congrFun (up2_n _ _ (by omega)) _).trans (congrFun (up2_n _ _ (by omega)) _))))
          have hp_52 : ((up2 (up2 (up2 im_22 (r 3 17) 8 z_35) 3 15 6) 3 16 0) (84 + 1 * j_11) 8).toInt = ((im_22 (84 + 1 * j_11) 8) : Int32).toInt := congrArg Int32.toInt (((congrFun (up2_n _ _ (by omega)) _).trans ((congrFun (up2_n _ _ (by omega)) _).trans (congrFun (up2_n _ _ (by omega)) _))))
          have hp_53 : ((up2 (up2 (up2 im_22 (r 3 17) 8 z_35) 3 15 6) 3 16 0) (r 3 17) 8).toInt = (z_35 : Int32).toInt := congrArg Int32.toInt (((congrFun (up2_n _ _ (by omega)) _).trans ((congrFun (up2_n _ _ (by omega)) _).trans (up2_at _ _ _ _))))
          have hV_54 : hdQ i (r 3 17) (r 3 18) (up2 (up2 (up2 im_22 (r 3 17) 8 z_35) 3 15 6) 3 16 0) ((upr r 3 18 (84 + 1 * j_11)) 3 17) ((upr r 3 18 (84 + 1 * j_11)) 3 18) y.toInt x.toInt := ⟨by omega, Or.inr (Or.inr (Or.inr (Or.inr (⟨by omega, (((upr_k _ _ (by decide)).trans rfl)), (((upr_at _ _ _ _)).trans hN.symm), by omega, (by rw [hN]; exact ⟨by omega, by omega, by omega, by omega, by omega⟩), (by rw [hN]; exact ⟨(((congrFun (up2_n _ _ (by omega)) _).trans ((congrFun (up2_n _ _ (by omega)) _).trans (congrFun (up2_n _ _ (by omega)) _))).trans ((hx2_26 4 (by decide) (by decide)).trans (congrFun (up2_n _ _ (by omega)) _))), (((congrFun (up2_n _ _ (by omega)) _).trans ((congrFun (up2_n _ _ (by omega)) _).trans (congrFun (up2_n _ _ (by omega)) _))).trans ((hx2_26 5 (by decide) (by decide)).trans (congrFun (up2_n _ _ (by omega)) _)))⟩), by omega, (fun b hb => ((congrFun (up2_n _ _ (by omega)) _).trans ((congrFun (up2_n _ _ (by omega)) _).trans ((up2_k _ _ (by omega)).trans ((congrFun (hfr_23 (r 3 17) (by omega)) _).trans (congrFun (up2_n _ _ (by omega)) _)))))), by omega, (fun b hb => by
                have hb9 : b ≠ 12 ∧ b ≠ 15 ∧ b ≠ 16 := ⟨fun e9 => hb (by rw [e9]; decide), fun e9 => hb (by rw [e9]; decide), fun e9 => hb (by rw [e9]; decide)⟩
                exact ((up2_k _ _ (by omega)).trans ((up2_k _ _ (by omega)).trans ((congrFun (up2_n _ _ (by omega)) _).trans ((congrFun (hfr_23 3 (by omega)) _).trans (up2_k _ _ (by omega))))))), (fun a h3 hp ho => ((up2_n _ _ (by omega)).trans ((up2_n _ _ (by omega)).trans ((up2_n _ _ (by omega)).trans ((hfr_23 a (by omega)).trans (up2_n _ _ (by omega)))))))⟩))))⟩
          exact sj_vret hx hb hr hlocks hS ((up2 (up2 (up2 im_22 (r 3 17) 8 z_35) 3 15 6) 3 16 0), (upr r 3 18 (84 + 1 * j_11))) ⟨hO_38, (fun a ha => ((up2_n _ _ (by omega)).trans ((up2_n _ _ (by omega)).trans ((up2_n _ _ (by omega)).trans ((hfr_23 a (by omega)).trans (up2_n _ _ (by omega))))))), (RS_put hR rfl), (fun a b ha => (upr_o _ _ (by omega))), hV_54⟩ hH (sj_Knil hK) (Nat.le_of_ble_eq_true rfl) (Nat.le_of_ble_eq_true rfl) dX5_enterHead_245
        · skip
          have h_55 := s_eq (rfl : x.toInt = _) (show (6 : Int32).toInt = 6 from rfl) c_8
          have hr9 := hrm.1 (by omega)
          refine lv_aload_n hx hb dX5_enterHead_113 rfl (lv_at hl 0 rfl) ?_
          refine lv_aload_n hx hb dX5_enterHead_114 rfl (lv_at hl 0 rfl) ?_
          refine h_getr (ci := 5) (C := RX5) (F := TX5) (N := 19) hx hb hts in5 hown hK hH (by decide) (rfl : kd 3 = 5) (by decide) rfl 7 (by decide) wd8 (fun _ h9 => h9) (by decide) rfl (t := 9) (hR 3 7 rfl) (by decide) dX5_enterHead_115 ?_
          refine lv_aload_n hx hb dX5_enterHead_118 rfl (lv_at hl 0 rfl) ?_
          have bx_56 : (0 : Int) ≤ (i 3 8).toInt ∧ (i 3 8).toInt ≤ 12 := hO 3 8
          refine h_geti (ci := 5) (C := RX5) (F := TX5) (N := 19) hx hb hts in5 hown hK hH (by decide) (rfl : kd 3 = 5) (by decide) rfl 8 (by decide) wd9 (fun _ h9 => h9) (by decide) rfl dX5_enterHead_119 ?_
          obtain ⟨j_57, ej_57, hj_57⟩ : ∃ j : Nat, ((i 3 8)).toNatClampNeg = j ∧ (j : Int) = (i 3 8).toInt := ⟨_, rfl, by rw [s_cl (rfl : (i 3 8).toInt = _)]; omega⟩
          have lj_57 : j_57 < 12 := by omega
          refine h_qald hx hb hK hH (by decide) (rfl : kd 9 = 22) (by decide) rfl (s_vin (N := 12) (rfl : (i 3 8).toInt = _) (rfl : ln 9 = 12) (by omega) (by omega)) (t := (42 + 1 * j_57)) (by rw [ej_57]; exact (hR 9 j_57 rfl)) (lt_nK (by omega)) dX5_enterHead_122 ?_
          have pb_58 := bxp hO (p := (42 + 1 * j_57)) (by omega) (by omega)
          have po_59 := hPO (42 + 1 * j_57) (by omega) (by omega)
          refine h_putr (t := (42 + 1 * j_57)) (v := .ref (g (42 + 1 * j_57))) (ty := (.object "StoryDesk$Part")) (ci := 5) (C := RX5) (F := TX5) (N := 19) hx hb hts in5 tyX5 tyX5_ok nmX5 hown hK hH hS (by decide) (rfl : kd 3 = 5) (by decide) rfl 17 (by decide) wd5 (fun _ h9 => h9) rfl (rq_some (lt_nK (by omega))) (by decide +kernel) rfl rfl (by decide) rfl dX5_enterHead_123 (fun H locs hH hS => ?_)
          refine lv_aload_n hx hb dX5_enterHead_126 rfl (lv_at hl 0 rfl) ?_
          refine lv_dup hx hb dX5_enterHead_127 rfl ?_
          refine h_geti (ci := 5) (C := RX5) (F := TX5) (N := 19) hx hb hts in5 hown hK hH (by decide) (rfl : kd 3 = 5) (by decide) rfl 8 (by decide) wd9 (fun _ h9 => h9) (by decide) rfl dX5_enterHead_128 ?_
          refine lv_iconst (v := 1) hx hb dX5_enterHead_131 (by decide) ?_
          refine lv_iadd hx hb dX5_enterHead_132 ?_
          obtain ⟨z_60, ez_60, hz_60⟩ := s_add (rfl : (i 3 8).toInt = _) (show (1 : Int32).toInt = 1 from rfl) (by omega) (by omega)
          refine sj_i ez_60 ?_
          have hO_61 := okp hO (n := 3) (k := 8) (v := z_60) (show (0 : Int) ≤ (z_60 : Int32).toInt ∧ (z_60 : Int32).toInt ≤ 12 from ⟨by omega, by omega⟩)
          refine h_puti (ty := .int) (ci := 5) (C := RX5) (F := TX5) (N := 19) hx hb hts in5 tyX5 tyX5_ok nmX5 hown hK hH hS (by decide) (rfl : kd 3 = 5) (by decide) rfl 8 (by decide) wd9 (fun _ h9 => h9) rfl (by decide +kernel) rfl rfl (by decide) rfl dX5_enterHead_133 (fun H locs hH hS => ?_)
          refine lv_aload_n hx hb dX5_enterHead_136 rfl (lv_at hl 0 rfl) ?_
          refine h_getr (ci := 5) (C := RX5) (F := TX5) (N := 19) hx hb hts in5 hown hK hH (by decide) (rfl : kd 3 = 5) (by decide) rfl 17 (by decide) wd5 (fun _ h9 => h9) (by decide) rfl (t := (42 + 1 * j_57)) (upr_at _ _ _ _) (lt_nK (by omega)) dX5_enterHead_137 ?_
          have pb_62 := bxp hO (p := (42 + 1 * j_57)) (by omega) (by omega)
          have po_63 := hPO (42 + 1 * j_57) (by omega) (by omega)
          refine lv_iload_n hx hb dX5_enterHead_140 rfl (lv_at hl 2 rfl) ?_
          refine lv_aload_n hx hb dX5_enterHead_141 rfl (lv_at hl 0 rfl) ?_
          have bx_64 : (0 : Int) ≤ (i 3 16).toInt ∧ (i 3 16).toInt ≤ 65535 := hO 3 16
          refine h_geti (ci := 5) (C := RX5) (F := TX5) (N := 19) hx hb hts in5 hown hK hH (by decide) (rfl : kd 3 = 5) (by decide) rfl 16 (by decide) wd3 (fun _ h9 => h9) (by decide) rfl dX5_enterHead_142 ?_
          refine sj_i (y := (i 3 16)) (up2_k _ _ (by decide)) ?_
          refine lv_aload_n hx hb dX5_enterHead_145 rfl (lv_at hl 0 rfl) ?_
          have bx_65 : (0 : Int) ≤ (i 3 10).toInt ∧ (i 3 10).toInt ≤ 30 := hO 3 10
          refine h_geti (ci := 5) (C := RX5) (F := TX5) (N := 19) hx hb hts in5 hown hK hH (by decide) (rfl : kd 3 = 5) (by decide) rfl 10 (by decide) wd10 (fun _ h9 => h9) (by decide) rfl dX5_enterHead_146 ?_
          refine sj_i (y := (i 3 10)) (up2_k _ _ (by decide)) ?_
          refine x_callv (va_runV (As := [.int y, .int (i 3 16), .int (i 3 10)]) (rest := []) ⟨hx, hb, hml, hown, hts⟩ (k_pbegin l D g ka ad (up2 i 3 8 z_60) (upr r 3 17 (42 + 1 * j_57)) L d (42 + 1 * j_57) y (i 3 16) (i 3 10) hO_61 (RS_put hR rfl) H.size (by first | omega | decide) (by first | omega | decide) (by first | omega | decide) (by first | omega | decide) (by first | omega | decide) (by first | omega | decide)) (cwV 3 hts gX5_enterHead_X4_begin rfl rfl rfl (by decide +kernel) ⟨(Nat.le_of_ble_eq_true rfl), (Nat.le_of_ble_eq_true rfl)⟩) (x_preV (q := (RX4, TX4, 9)) hH hK (q_obj (lt_nK (by omega)) (kd_part (by omega) (by omega)) (by decide)) rfl gxb (gxw hE hS (x_F hH hS hA))) rfl rfl hl.1 rfl (lv_room (Nat.le_of_ble_eq_true rfl)) dX5_enterHead_149 ⟨(Nat.le_of_ble_eq_true rfl), (Nat.le_of_ble_eq_true rfl)⟩) hH hS hA rfl rfl (fun im_68 H locs hw_67 hH hS => ?_)
          have hH : sj_H D A (hwc g ka im_68 (upr r 3 17 (42 + 1 * j_57)) L d) H := hH
          obtain ⟨hO_70, hfr_69, hx2_71, hx2_72⟩ := hw_67
          obtain ⟨hpb_73, hpb_74, hpb_75, hpb_76, hpb_77⟩ := hx2_71
          refine lv_aload_n hx hb dX5_enterHead_152 rfl (lv_at hl 0 rfl) ?_
          refine h_getr (ci := 5) (C := RX5) (F := TX5) (N := 19) hx hb hts in5 hown hK hH (by decide) (rfl : kd 3 = 5) (by decide) rfl 17 (by decide) wd5 (fun _ h9 => h9) (by decide) rfl (t := (42 + 1 * j_57)) (upr_at _ _ _ _) (lt_nK (by omega)) dX5_enterHead_153 ?_
          have pb_78 := bxp hO (p := (42 + 1 * j_57)) (by omega) (by omega)
          have po_79 := hPO (42 + 1 * j_57) (by omega) (by omega)
          refine lv_aload_n hx hb dX5_enterHead_156 rfl (lv_at hl 0 rfl) ?_
          have bx_80 : (0 : Int) ≤ (i 3 6).toInt ∧ (i 3 6).toInt ≤ 4 := hO 3 6
          refine h_geti (ci := 5) (C := RX5) (F := TX5) (N := 19) hx hb hts in5 hown hK hH (by decide) (rfl : kd 3 = 5) (by decide) rfl 6 (by decide) wd11 (fun _ h9 => h9) (by decide) rfl dX5_enterHead_157 ?_
          refine sj_i (y := (i 3 6)) ((congrFun (hfr_69 3 (by omega)) _).trans (up2_k _ _ (by decide))) ?_
          have hO_81 := okp hO_70 (n := (42 + 1 * j_57)) (k := 6) (v := (i 3 6)) (by rw [bx_part (by omega) (by omega) 6]; exact (show (0 : Int) ≤ ((i 3 6) : Int32).toInt ∧ ((i 3 6) : Int32).toInt ≤ 4 from ⟨by omega, by omega⟩))
          refine h_puti (ty := .int) (ci := 4) (C := RX4) (F := TX4) (N := 9) hx hb hts in4 tyX4 tyX4_ok nmX4 hown hK hH hS (lt_nK (by omega)) (kd_part (by omega) (by omega)) (by decide) rfl 6 (by decide) wd12 (fun _ h9 => h9) rfl (by decide +kernel) rfl rfl (by decide) rfl dX5_enterHead_160 (fun H locs hH hS => ?_)
          refine lv_aload_n hx hb dX5_enterHead_163 rfl (lv_at hl 0 rfl) ?_
          refine h_getr (ci := 5) (C := RX5) (F := TX5) (N := 19) hx hb hts in5 hown hK hH (by decide) (rfl : kd 3 = 5) (by decide) rfl 17 (by decide) wd5 (fun _ h9 => h9) (by decide) rfl (t := (42 + 1 * j_57)) (upr_at _ _ _ _) (lt_nK (by omega)) dX5_enterHead_164 ?_
          have pb_82 := bxp hO (p := (42 + 1 * j_57)) (by omega) (by omega)
          have po_83 := hPO (42 + 1 * j_57) (by omega) (by omega)
          refine lv_aload_n hx hb dX5_enterHead_167 rfl (lv_at hl 0 rfl) ?_
          have bx_84 : (0 : Int) ≤ (i 3 12).toInt ∧ (i 3 12).toInt ≤ 12 := hO 3 12
          refine h_geti (ci := 5) (C := RX5) (F := TX5) (N := 19) hx hb hts in5 hown hK hH (by decide) (rfl : kd 3 = 5) (by decide) rfl 12 (by decide) wd1 (fun _ h9 => h9) (by decide) rfl dX5_enterHead_168 ?_
          refine sj_i (y := (i 3 12)) ((congrFun (up2_n _ _ (by omega)) _).trans ((congrFun (hfr_69 3 (by omega)) _).trans (up2_k _ _ (by decide)))) ?_
          have hO_85 := okp hO_81 (n := (42 + 1 * j_57)) (k := 7) (v := (i 3 12)) (by rw [bx_part (by omega) (by omega) 7]; exact (show (0 : Int) ≤ ((i 3 12) : Int32).toInt ∧ ((i 3 12) : Int32).toInt ≤ 12 from ⟨by omega, by omega⟩))
          refine h_puti (ty := .int) (ci := 4) (C := RX4) (F := TX4) (N := 9) hx hb hts in4 tyX4 tyX4_ok nmX4 hown hK hH hS (lt_nK (by omega)) (kd_part (by omega) (by omega)) (by decide) rfl 7 (by decide) wd13 (fun _ h9 => h9) rfl (by decide +kernel) rfl rfl (by decide) rfl dX5_enterHead_171 (fun H locs hH hS => ?_)
          refine lv_aload_n hx hb dX5_enterHead_174 rfl (lv_at hl 0 rfl) ?_
          refine lv_iconst (v := 4) hx hb dX5_enterHead_175 (by decide) ?_
          have hO_86 := okp hO_85 (n := 3) (k := 15) (v := 4) (show (0 : Int) ≤ (4 : Int32).toInt ∧ (4 : Int32).toInt ≤ 8 from ⟨by decide, by decide⟩)
          refine h_puti (ty := .int) (ci := 5) (C := RX5) (F := TX5) (N := 19) hx hb hts in5 tyX5 tyX5_ok nmX5 hown hK hH hS (by decide) (rfl : kd 3 = 5) (by decide) rfl 15 (by decide) wd7 (fun _ h9 => h9) rfl (by decide +kernel) rfl rfl (by decide) rfl dX5_enterHead_176 (fun H locs hH hS => ?_)
          refine lv_goto (tgt := 240) hx hb dX5_enterHead_179 (by decide) ?_
          refine lv_aload_n hx hb dX5_enterHead_240 rfl (lv_at hl 0 rfl) ?_
          refine lv_iconst (v := 0) hx hb dX5_enterHead_241 (by decide) ?_
          have hO_87 := okp hO_86 (n := 3) (k := 16) (v := 0) (show (0 : Int) ≤ (0 : Int32).toInt ∧ (0 : Int32).toInt ≤ 65535 from ⟨by decide, by decide⟩)
          refine h_puti (ty := .int) (ci := 5) (C := RX5) (F := TX5) (N := 19) hx hb hts in5 tyX5 tyX5_ok nmX5 hown hK hH hS (by decide) (rfl : kd 3 = 5) (by decide) rfl 16 (by decide) wd3 (fun _ h9 => h9) rfl (by decide +kernel) rfl rfl (by decide) rfl dX5_enterHead_242 (fun H locs hH hS => ?_)
          have hp_88 : ((up2 (up2 (up2 (up2 im_68 (42 + 1 * j_57) 6 (i 3 6)) (42 + 1 * j_57) 7 (i 3 12)) 3 15 4) 3 16 0) 3 6).toInt = ((i 3 6) : Int32).toInt := congrArg Int32.toInt (((up2_k _ _ (by decide)).trans ((up2_k _ _ (by decide)).trans ((congrFun (up2_n _ _ (by omega)) _).trans ((congrFun (up2_n _ _ (by omega)) _).trans ((congrFun (hfr_69 3 (by omega)) _).trans (up2_k _ _ (by decide))))))))
          have hp_89 : ((up2 (up2 (up2 (up2 im_68 (42 + 1 * j_57) 6 (i 3 6)) (42 + 1 * j_57) 7 (i 3 12)) 3 15 4) 3 16 0) 3 8).toInt = (z_60 : Int32).toInt := congrArg Int32.toInt (((up2_k _ _ (by decide)).trans ((up2_k _ _ (by decide)).trans ((congrFun (up2_n _ _ (by omega)) _).trans ((congrFun (up2_n _ _ (by omega)) _).trans ((congrFun (hfr_69 3 (by omega)) _).trans (up2_at _ _ _ _)))))))
          have hp_90 : ((up2 (up2 (up2 (up2 im_68 (42 + 1 * j_57) 6 (i 3 6)) (42 + 1 * j_57) 7 (i 3 12)) 3 15 4) 3 16 0) 3 10).toInt = ((i 3 10) : Int32).toInt := congrArg Int32.toInt (((up2_k _ _ (by decide)).trans ((up2_k _ _ (by decide)).trans ((congrFun (up2_n _ _ (by omega)) _).trans ((congrFun (up2_n _ _ (by omega)) _).trans ((congrFun (hfr_69 3 (by omega)) _).trans (up2_k _ _ (by decide))))))))
          have hp_91 : ((up2 (up2 (up2 (up2 im_68 (42 + 1 * j_57) 6 (i 3 6)) (42 + 1 * j_57) 7 (i 3 12)) 3 15 4) 3 16 0) 3 12).toInt = ((i 3 12) : Int32).toInt := congrArg Int32.toInt (((up2_k _ _ (by decide)).trans ((up2_k _ _ (by decide)).trans ((congrFun (up2_n _ _ (by omega)) _).trans ((congrFun (up2_n _ _ (by omega)) _).trans ((congrFun (hfr_69 3 (by omega)) _).trans (up2_k _ _ (by decide))))))))
          have hp_92 : ((up2 (up2 (up2 (up2 im_68 (42 + 1 * j_57) 6 (i 3 6)) (42 + 1 * j_57) 7 (i 3 12)) 3 15 4) 3 16 0) 3 14).toInt = ((i 3 14) : Int32).toInt := congrArg Int32.toInt (((up2_k _ _ (by decide)).trans ((up2_k _ _ (by decide)).trans ((congrFun (up2_n _ _ (by omega)) _).trans ((congrFun (up2_n _ _ (by omega)) _).trans ((congrFun (hfr_69 3 (by omega)) _).trans (up2_k _ _ (by decide))))))))
          have hp_93 : ((up2 (up2 (up2 (up2 im_68 (42 + 1 * j_57) 6 (i 3 6)) (42 + 1 * j_57) 7 (i 3 12)) 3 15 4) 3 16 0) 3 15).toInt = (4 : Int32).toInt := congrArg Int32.toInt (((up2_k _ _ (by decide)).trans (up2_at _ _ _ _)))
          have hl_94 : (4 : Int32).toInt = 4 := rfl
          have hp_95 : ((up2 (up2 (up2 (up2 im_68 (42 + 1 * j_57) 6 (i 3 6)) (42 + 1 * j_57) 7 (i 3 12)) 3 15 4) 3 16 0) 3 16).toInt = (0 : Int32).toInt := congrArg Int32.toInt ((up2_at _ _ _ _))
          have hl_96 : (0 : Int32).toInt = 0 := rfl
          have hN : 42 + (i 3 8).toInt.toNat = 42 + 1 * j_57 := by omega
          have hp_97 : ((up2 (up2 (up2 (up2 im_68 (42 + 1 * j_57) 6 (i 3 6)) (42 + 1 * j_57) 7 (i 3 12)) 3 15 4) 3 16 0) (42 + 1 * j_57) 0).toInt = ((im_68 (42 + 1 * j_57) 0) : Int32).toInt := congrArg Int32.toInt (((congrFun (up2_n _ _ (by omega)) _).trans ((congrFun (up2_n _ _ (by omega)) _).trans ((up2_k _ _ (by decide)).trans (up2_k _ _ (by decide))))))
          have hp_98 : ((up2 (up2 (up2 (up2 im_68 (42 + 1 * j_57) 6 (i 3 6)) (42 + 1 * j_57) 7 (i 3 12)) 3 15 4) 3 16 0) (42 + 1 * j_57) 1).toInt = ((im_68 (42 + 1 * j_57) 1) : Int32).toInt := congrArg Int32.toInt (((congrFun (up2_n _ _ (by omega)) _).trans ((congrFun (up2_n _ _ (by omega)) _).trans ((up2_k _ _ (by decide)).trans (up2_k _ _ (by decide))))))
          have hp_99 : ((up2 (up2 (up2 (up2 im_68 (42 + 1 * j_57) 6 (i 3 6)) (42 + 1 * j_57) 7 (i 3 12)) 3 15 4) 3 16 0) (42 + 1 * j_57) 2).toInt = ((im_68 (42 + 1 * j_57) 2) : Int32).toInt := congrArg Int32.toInt (((congrFun (up2_n _ _ (by omega)) _).trans ((congrFun (up2_n _ _ (by omega)) _).trans ((up2_k _ _ (by decide)).trans (up2_k _ _ (by decide))))))
          have hp_100 : ((up2 (up2 (up2 (up2 im_68 (42 + 1 * j_57) 6 (i 3 6)) (42 + 1 * j_57) 7 (i 3 12)) 3 15 4) 3 16 0) (42 + 1 * j_57) 3).toInt = ((im_68 (42 + 1 * j_57) 3) : Int32).toInt := congrArg Int32.toInt (((congrFun (up2_n _ _ (by omega)) _).trans ((congrFun (up2_n _ _ (by omega)) _).trans ((up2_k _ _ (by decide)).trans (up2_k _ _ (by decide))))))
          have hp_101 : ((up2 (up2 (up2 (up2 im_68 (42 + 1 * j_57) 6 (i 3 6)) (42 + 1 * j_57) 7 (i 3 12)) 3 15 4) 3 16 0) (42 + 1 * j_57) 8).toInt = ((im_68 (42 + 1 * j_57) 8) : Int32).toInt := congrArg Int32.toInt (((congrFun (up2_n _ _ (by omega)) _).trans ((congrFun (up2_n _ _ (by omega)) _).trans ((up2_k _ _ (by decide)).trans (up2_k _ _ (by decide))))))
          have hp_102 : ((up2 (up2 (up2 (up2 im_68 (42 + 1 * j_57) 6 (i 3 6)) (42 + 1 * j_57) 7 (i 3 12)) 3 15 4) 3 16 0) (42 + 1 * j_57) 6).toInt = ((i 3 6) : Int32).toInt := congrArg Int32.toInt (((congrFun (up2_n _ _ (by omega)) _).trans ((congrFun (up2_n _ _ (by omega)) _).trans ((up2_k _ _ (by decide)).trans (up2_at _ _ _ _)))))
          have hp_103 : ((up2 (up2 (up2 (up2 im_68 (42 + 1 * j_57) 6 (i 3 6)) (42 + 1 * j_57) 7 (i 3 12)) 3 15 4) 3 16 0) (42 + 1 * j_57) 7).toInt = ((i 3 12) : Int32).toInt := congrArg Int32.toInt (((congrFun (up2_n _ _ (by omega)) _).trans ((congrFun (up2_n _ _ (by omega)) _).trans (up2_at _ _ _ _))))
          have hV_104 : hdQ i (r 3 17) (r 3 18) (up2 (up2 (up2 (up2 im_68 (42 + 1 * j_57) 6 (i 3 6)) (42 + 1 * j_57) 7 (i 3 12)) 3 15 4) 3 16 0) ((upr r 3 17 (42 + 1 * j_57)) 3 17) ((upr r 3 17 (42 + 1 * j_57)) 3 18) y.toInt x.toInt := ⟨by omega, Or.inr (Or.inr (Or.inr (Or.inl ⟨by omega, (((upr_at _ _ _ _)).trans hN.symm), (((upr_k _ _ (by decide)).trans rfl)), by omega, (by rw [hN]; exact ⟨by omega, by omega, by omega, by omega, by omega⟩), (by rw [hN]; exact ⟨(((congrFun (up2_n _ _ (by omega)) _).trans ((congrFun (up2_n _ _ (by omega)) _).trans ((up2_k _ _ (by decide)).trans (up2_k _ _ (by decide))))).trans ((hx2_72 4 (by decide) (by decide)).trans (congrFun (up2_n _ _ (by omega)) _))), (((congrFun (up2_n _ _ (by omega)) _).trans ((congrFun (up2_n _ _ (by omega)) _).trans ((up2_k _ _ (by decide)).trans (up2_k _ _ (by decide))))).trans ((hx2_72 5 (by decide) (by decide)).trans (congrFun (up2_n _ _ (by omega)) _)))⟩), (by rw [hN]; exact (by omega)), (by rw [hN]; exact (by omega)), by omega, (fun b hb => by
                have hb9 : b ≠ 8 ∧ b ≠ 15 ∧ b ≠ 16 := ⟨fun e9 => hb (by rw [e9]; decide), fun e9 => hb (by rw [e9]; decide), fun e9 => hb (by rw [e9]; decide)⟩
                exact ((up2_k _ _ (by omega)).trans ((up2_k _ _ (by omega)).trans ((congrFun (up2_n _ _ (by omega)) _).trans ((congrFun (up2_n _ _ (by omega)) _).trans ((congrFun (hfr_69 3 (by omega)) _).trans (up2_k _ _ (by omega)))))))), (fun a h3 hp => ((up2_n _ _ (by omega)).trans ((up2_n _ _ (by omega)).trans ((up2_n _ _ (by omega)).trans ((up2_n _ _ (by omega)).trans ((hfr_69 a (by omega)).trans (up2_n _ _ (by omega))))))))⟩)))⟩
          exact sj_vret hx hb hr hlocks hS ((up2 (up2 (up2 (up2 im_68 (42 + 1 * j_57) 6 (i 3 6)) (42 + 1 * j_57) 7 (i 3 12)) 3 15 4) 3 16 0), (upr r 3 17 (42 + 1 * j_57))) ⟨hO_87, (fun a ha => ((up2_n _ _ (by omega)).trans ((up2_n _ _ (by omega)).trans ((up2_n _ _ (by omega)).trans ((up2_n _ _ (by omega)).trans ((hfr_69 a (by omega)).trans (up2_n _ _ (by omega)))))))), (RS_put hR rfl), (fun a b ha => (upr_o _ _ (by omega))), hV_104⟩ hH (sj_Knil hK) (Nat.le_of_ble_eq_true rfl) (Nat.le_of_ble_eq_true rfl) dX5_enterHead_245
      · skip
        have h_105 := s_eq (rfl : x.toInt = _) (show (5 : Int32).toInt = 5 from rfl) c_6
        refine lv_aload_n hx hb dX5_enterHead_75 rfl (lv_at hl 0 rfl) ?_
        refine lv_aload_n hx hb dX5_enterHead_76 rfl (lv_at hl 0 rfl) ?_
        refine h_getr (ci := 5) (C := RX5) (F := TX5) (N := 19) hx hb hts in5 hown hK hH (by decide) (rfl : kd 3 = 5) (by decide) rfl 5 (by decide) wd14 (fun _ h9 => h9) (by decide) rfl (t := 8) (hR 3 5 rfl) (by decide) dX5_enterHead_77 ?_
        refine lv_aload_n hx hb dX5_enterHead_80 rfl (lv_at hl 0 rfl) ?_
        have bx_106 : (0 : Int) ≤ (i 3 6).toInt ∧ (i 3 6).toInt ≤ 4 := hO 3 6
        refine h_geti (ci := 5) (C := RX5) (F := TX5) (N := 19) hx hb hts in5 hown hK hH (by decide) (rfl : kd 3 = 5) (by decide) rfl 6 (by decide) wd11 (fun _ h9 => h9) (by decide) rfl dX5_enterHead_81 ?_
        obtain ⟨j_107, ej_107, hj_107⟩ : ∃ j : Nat, ((i 3 6)).toNatClampNeg = j ∧ (j : Int) = (i 3 6).toInt := ⟨_, rfl, by rw [s_cl (rfl : (i 3 6).toInt = _)]; omega⟩
        have lj_107 : j_107 < 5 := by omega
        refine h_qald hx hb hK hH (by decide) (rfl : kd 8 = 22) (by decide) rfl (s_vin (N := 5) (rfl : (i 3 6).toInt = _) (rfl : ln 8 = 5) (by omega) (by omega)) (t := (37 + 1 * j_107)) (by rw [ej_107]; exact (hR 8 j_107 rfl)) (lt_nK (by omega)) dX5_enterHead_84 ?_
        have pb_108 := bxp hO (p := (37 + 1 * j_107)) (by omega) (by omega)
        have po_109 := hPO (37 + 1 * j_107) (by omega) (by omega)
        refine h_putr (t := (37 + 1 * j_107)) (v := .ref (g (37 + 1 * j_107))) (ty := (.object "StoryDesk$Part")) (ci := 5) (C := RX5) (F := TX5) (N := 19) hx hb hts in5 tyX5 tyX5_ok nmX5 hown hK hH hS (by decide) (rfl : kd 3 = 5) (by decide) rfl 17 (by decide) wd5 (fun _ h9 => h9) rfl (rq_some (lt_nK (by omega))) (by decide +kernel) rfl rfl (by decide) rfl dX5_enterHead_85 (fun H locs hH hS => ?_)
        refine lv_aload_n hx hb dX5_enterHead_88 rfl (lv_at hl 0 rfl) ?_
        refine h_getr (ci := 5) (C := RX5) (F := TX5) (N := 19) hx hb hts in5 hown hK hH (by decide) (rfl : kd 3 = 5) (by decide) rfl 17 (by decide) wd5 (fun _ h9 => h9) (by decide) rfl (t := (37 + 1 * j_107)) (upr_at _ _ _ _) (lt_nK (by omega)) dX5_enterHead_89 ?_
        have pb_110 := bxp hO (p := (37 + 1 * j_107)) (by omega) (by omega)
        have po_111 := hPO (37 + 1 * j_107) (by omega) (by omega)
        refine lv_aload_n hx hb dX5_enterHead_92 rfl (lv_at hl 0 rfl) ?_
        have bx_112 : (0 : Int) ≤ (i 3 10).toInt ∧ (i 3 10).toInt ≤ 30 := hO 3 10
        refine h_geti (ci := 5) (C := RX5) (F := TX5) (N := 19) hx hb hts in5 hown hK hH (by decide) (rfl : kd 3 = 5) (by decide) rfl 10 (by decide) wd10 (fun _ h9 => h9) (by decide) rfl dX5_enterHead_93 ?_
        have hO_113 := okp hO (n := (37 + 1 * j_107)) (k := 2) (v := (i 3 10)) (by rw [bx_part (by omega) (by omega) 2]; exact (show (0 : Int) ≤ ((i 3 10) : Int32).toInt ∧ ((i 3 10) : Int32).toInt ≤ 40 from ⟨by omega, by omega⟩))
        refine h_puti (ty := .int) (ci := 4) (C := RX4) (F := TX4) (N := 9) hx hb hts in4 tyX4 tyX4_ok nmX4 hown hK hH hS (lt_nK (by omega)) (kd_part (by omega) (by omega)) (by decide) rfl 2 (by decide) wd15 (fun _ h9 => h9) rfl (by decide +kernel) rfl rfl (by decide) rfl dX5_enterHead_96 (fun H locs hH hS => ?_)
        refine lv_aload_n hx hb dX5_enterHead_99 rfl (lv_at hl 0 rfl) ?_
        refine lv_iconst (v := 2) hx hb dX5_enterHead_100 (by decide) ?_
        have hO_114 := okp hO_113 (n := 3) (k := 15) (v := 2) (show (0 : Int) ≤ (2 : Int32).toInt ∧ (2 : Int32).toInt ≤ 8 from ⟨by decide, by decide⟩)
        refine h_puti (ty := .int) (ci := 5) (C := RX5) (F := TX5) (N := 19) hx hb hts in5 tyX5 tyX5_ok nmX5 hown hK hH hS (by decide) (rfl : kd 3 = 5) (by decide) rfl 15 (by decide) wd7 (fun _ h9 => h9) rfl (by decide +kernel) rfl rfl (by decide) rfl dX5_enterHead_101 (fun H locs hH hS => ?_)
        refine lv_goto (tgt := 240) hx hb dX5_enterHead_104 (by decide) ?_
        refine lv_aload_n hx hb dX5_enterHead_240 rfl (lv_at hl 0 rfl) ?_
        refine lv_iconst (v := 0) hx hb dX5_enterHead_241 (by decide) ?_
        have hO_115 := okp hO_114 (n := 3) (k := 16) (v := 0) (show (0 : Int) ≤ (0 : Int32).toInt ∧ (0 : Int32).toInt ≤ 65535 from ⟨by decide, by decide⟩)
        refine h_puti (ty := .int) (ci := 5) (C := RX5) (F := TX5) (N := 19) hx hb hts in5 tyX5 tyX5_ok nmX5 hown hK hH hS (by decide) (rfl : kd 3 = 5) (by decide) rfl 16 (by decide) wd3 (fun _ h9 => h9) rfl (by decide +kernel) rfl rfl (by decide) rfl dX5_enterHead_242 (fun H locs hH hS => ?_)
        have hp_116 : ((up2 (up2 (up2 i (37 + 1 * j_107) 2 (i 3 10)) 3 15 2) 3 16 0) 3 6).toInt = ((i 3 6) : Int32).toInt := congrArg Int32.toInt (((up2_k _ _ (by decide)).trans ((up2_k _ _ (by decide)).trans (congrFun (up2_n _ _ (by omega)) _))))
        have hp_117 : ((up2 (up2 (up2 i (37 + 1 * j_107) 2 (i 3 10)) 3 15 2) 3 16 0) 3 8).toInt = ((i 3 8) : Int32).toInt := congrArg Int32.toInt (((up2_k _ _ (by decide)).trans ((up2_k _ _ (by decide)).trans (congrFun (up2_n _ _ (by omega)) _))))
        have hp_118 : ((up2 (up2 (up2 i (37 + 1 * j_107) 2 (i 3 10)) 3 15 2) 3 16 0) 3 10).toInt = ((i 3 10) : Int32).toInt := congrArg Int32.toInt (((up2_k _ _ (by decide)).trans ((up2_k _ _ (by decide)).trans (congrFun (up2_n _ _ (by omega)) _))))
        have hp_119 : ((up2 (up2 (up2 i (37 + 1 * j_107) 2 (i 3 10)) 3 15 2) 3 16 0) 3 12).toInt = ((i 3 12) : Int32).toInt := congrArg Int32.toInt (((up2_k _ _ (by decide)).trans ((up2_k _ _ (by decide)).trans (congrFun (up2_n _ _ (by omega)) _))))
        have hp_120 : ((up2 (up2 (up2 i (37 + 1 * j_107) 2 (i 3 10)) 3 15 2) 3 16 0) 3 14).toInt = ((i 3 14) : Int32).toInt := congrArg Int32.toInt (((up2_k _ _ (by decide)).trans ((up2_k _ _ (by decide)).trans (congrFun (up2_n _ _ (by omega)) _))))
        have hp_121 : ((up2 (up2 (up2 i (37 + 1 * j_107) 2 (i 3 10)) 3 15 2) 3 16 0) 3 15).toInt = (2 : Int32).toInt := congrArg Int32.toInt (((up2_k _ _ (by decide)).trans (up2_at _ _ _ _)))
        have hl_122 : (2 : Int32).toInt = 2 := rfl
        have hp_123 : ((up2 (up2 (up2 i (37 + 1 * j_107) 2 (i 3 10)) 3 15 2) 3 16 0) 3 16).toInt = (0 : Int32).toInt := congrArg Int32.toInt ((up2_at _ _ _ _))
        have hl_124 : (0 : Int32).toInt = 0 := rfl
        have hN : 37 + (i 3 6).toInt.toNat = 37 + 1 * j_107 := by omega
        have hp_125 : ((up2 (up2 (up2 i (37 + 1 * j_107) 2 (i 3 10)) 3 15 2) 3 16 0) (37 + 1 * j_107) 2).toInt = ((i 3 10) : Int32).toInt := congrArg Int32.toInt (((congrFun (up2_n _ _ (by omega)) _).trans ((congrFun (up2_n _ _ (by omega)) _).trans (up2_at _ _ _ _))))
        have hV_126 : hdQ i (r 3 17) (r 3 18) (up2 (up2 (up2 i (37 + 1 * j_107) 2 (i 3 10)) 3 15 2) 3 16 0) ((upr r 3 17 (37 + 1 * j_107)) 3 17) ((upr r 3 17 (37 + 1 * j_107)) 3 18) y.toInt x.toInt := ⟨by omega, Or.inr (Or.inr (Or.inl ⟨by omega, (((upr_at _ _ _ _)).trans hN.symm), (((upr_k _ _ (by decide)).trans rfl)), (by rw [hN]; exact (by omega)), (by rw [hN]; exact (fun b hb => ((congrFun (up2_n _ _ (by omega)) _).trans ((congrFun (up2_n _ _ (by omega)) _).trans (up2_k _ _ (by omega)))))), by omega, (fun b hb => by
              have hb9 : b ≠ 15 ∧ b ≠ 16 := ⟨fun e9 => hb (by rw [e9]; decide), fun e9 => hb (by rw [e9]; decide)⟩
              exact ((up2_k _ _ (by omega)).trans ((up2_k _ _ (by omega)).trans (congrFun (up2_n _ _ (by omega)) _)))), (fun a h3 hp => ((up2_n _ _ (by omega)).trans ((up2_n _ _ (by omega)).trans (up2_n _ _ (by omega)))))⟩))⟩
        exact sj_vret hx hb hr hlocks hS ((up2 (up2 (up2 i (37 + 1 * j_107) 2 (i 3 10)) 3 15 2) 3 16 0), (upr r 3 17 (37 + 1 * j_107))) ⟨hO_115, (fun a ha => ((up2_n _ _ (by omega)).trans ((up2_n _ _ (by omega)).trans (up2_n _ _ (by omega))))), (RS_put hR rfl), (fun a b ha => (upr_o _ _ (by omega))), hV_126⟩ hH (sj_Knil hK) (Nat.le_of_ble_eq_true rfl) (Nat.le_of_ble_eq_true rfl) dX5_enterHead_245
    · skip
      have h_127 := s_eq (rfl : x.toInt = _) (show (4 : Int32).toInt = 4 from rfl) c_4
      have hr9 := hrm.2.2.2.2 (by omega)
      refine lv_aload_n hx hb dX5_enterHead_33 rfl (lv_at hl 0 rfl) ?_
      refine lv_dup hx hb dX5_enterHead_34 rfl ?_
      have bx_128 : (0 : Int) ≤ (i 3 6).toInt ∧ (i 3 6).toInt ≤ 4 := hO 3 6
      refine h_geti (ci := 5) (C := RX5) (F := TX5) (N := 19) hx hb hts in5 hown hK hH (by decide) (rfl : kd 3 = 5) (by decide) rfl 6 (by decide) wd11 (fun _ h9 => h9) (by decide) rfl dX5_enterHead_35 ?_
      refine lv_iconst (v := 1) hx hb dX5_enterHead_38 (by decide) ?_
      refine lv_iadd hx hb dX5_enterHead_39 ?_
      obtain ⟨z_129, ez_129, hz_129⟩ := s_add (rfl : (i 3 6).toInt = _) (show (1 : Int32).toInt = 1 from rfl) (by omega) (by omega)
      refine sj_i ez_129 ?_
      have hO_130 := okp hO (n := 3) (k := 6) (v := z_129) (show (0 : Int) ≤ (z_129 : Int32).toInt ∧ (z_129 : Int32).toInt ≤ 4 from ⟨by omega, by omega⟩)
      refine h_puti (ty := .int) (ci := 5) (C := RX5) (F := TX5) (N := 19) hx hb hts in5 tyX5 tyX5_ok nmX5 hown hK hH hS (by decide) (rfl : kd 3 = 5) (by decide) rfl 6 (by decide) wd11 (fun _ h9 => h9) rfl (by decide +kernel) rfl rfl (by decide) rfl dX5_enterHead_40 (fun H locs hH hS => ?_)
      refine lv_aload_n hx hb dX5_enterHead_43 rfl (lv_at hl 0 rfl) ?_
      refine h_getr (ci := 5) (C := RX5) (F := TX5) (N := 19) hx hb hts in5 hown hK hH (by decide) (rfl : kd 3 = 5) (by decide) rfl 5 (by decide) wd14 (fun _ h9 => h9) (by decide) rfl (t := 8) (hR 3 5 rfl) (by decide) dX5_enterHead_44 ?_
      refine lv_aload_n hx hb dX5_enterHead_47 rfl (lv_at hl 0 rfl) ?_
      refine h_geti (ci := 5) (C := RX5) (F := TX5) (N := 19) hx hb hts in5 hown hK hH (by decide) (rfl : kd 3 = 5) (by decide) rfl 6 (by decide) wd11 (fun _ h9 => h9) (by decide) rfl dX5_enterHead_48 ?_
      refine sj_i (y := z_129) (up2_at _ _ _ _) ?_
      obtain ⟨j_131, ej_131, hj_131⟩ : ∃ j : Nat, (z_129).toNatClampNeg = j ∧ (j : Int) = z_129.toInt := ⟨_, rfl, by rw [s_cl (rfl : z_129.toInt = _)]; omega⟩
      have lj_131 : j_131 < 5 := by omega
      refine h_qald hx hb hK hH (by decide) (rfl : kd 8 = 22) (by decide) rfl (s_vin (N := 5) (rfl : z_129.toInt = _) (rfl : ln 8 = 5) (by omega) (by omega)) (t := (37 + 1 * j_131)) (by rw [ej_131]; exact (hR 8 j_131 rfl)) (lt_nK (by omega)) dX5_enterHead_51 ?_
      have pb_132 := bxp hO (p := (37 + 1 * j_131)) (by omega) (by omega)
      have po_133 := hPO (37 + 1 * j_131) (by omega) (by omega)
      refine lv_iload_n hx hb dX5_enterHead_52 rfl (lv_at hl 2 rfl) ?_
      refine lv_aload_n hx hb dX5_enterHead_53 rfl (lv_at hl 0 rfl) ?_
      have bx_134 : (0 : Int) ≤ (i 3 16).toInt ∧ (i 3 16).toInt ≤ 65535 := hO 3 16
      refine h_geti (ci := 5) (C := RX5) (F := TX5) (N := 19) hx hb hts in5 hown hK hH (by decide) (rfl : kd 3 = 5) (by decide) rfl 16 (by decide) wd3 (fun _ h9 => h9) (by decide) rfl dX5_enterHead_54 ?_
      refine sj_i (y := (i 3 16)) (up2_k _ _ (by decide)) ?_
      refine lv_iconst (v := 0) hx hb dX5_enterHead_57 (by decide) ?_
      have hl_135 : (0 : Int32).toInt = 0 := rfl
      refine x_callv (va_runV (As := [.int y, .int (i 3 16), .int 0]) (rest := []) ⟨hx, hb, hml, hown, hts⟩ (k_pbegin l D g ka ad (up2 i 3 6 z_129) r L d (37 + 1 * j_131) y (i 3 16) 0 hO_130 hR H.size (by first | omega | decide) (by first | omega | decide) (by first | omega | decide) (by first | omega | decide) (by first | omega | decide) (by first | omega | decide)) (cwV 3 hts gX5_enterHead_X4_begin rfl rfl rfl (by decide +kernel) ⟨(Nat.le_of_ble_eq_true rfl), (Nat.le_of_ble_eq_true rfl)⟩) (x_preV (q := (RX4, TX4, 9)) hH hK (q_obj (lt_nK (by omega)) (kd_part (by omega) (by omega)) (by decide)) rfl gxb (gxw hE hS (x_F hH hS hA))) rfl rfl hl.1 rfl (lv_room (Nat.le_of_ble_eq_true rfl)) dX5_enterHead_58 ⟨(Nat.le_of_ble_eq_true rfl), (Nat.le_of_ble_eq_true rfl)⟩) hH hS hA rfl rfl (fun im_138 H locs hw_137 hH hS => ?_)
      have hH : sj_H D A (hwc g ka im_138 r L d) H := hH
      obtain ⟨hO_140, hfr_139, hx2_141, hx2_142⟩ := hw_137
      obtain ⟨hpb_143, hpb_144, hpb_145, hpb_146, hpb_147⟩ := hx2_141
      refine lv_aload_n hx hb dX5_enterHead_61 rfl (lv_at hl 0 rfl) ?_
      refine lv_bipush (v := 8) hx hb dX5_enterHead_62 (by decide) ?_
      have hO_148 := okp hO_140 (n := 3) (k := 15) (v := 8) (show (0 : Int) ≤ (8 : Int32).toInt ∧ (8 : Int32).toInt ≤ 8 from ⟨by decide, by decide⟩)
      refine h_puti (ty := .int) (ci := 5) (C := RX5) (F := TX5) (N := 19) hx hb hts in5 tyX5 tyX5_ok nmX5 hown hK hH hS (by decide) (rfl : kd 3 = 5) (by decide) rfl 15 (by decide) wd7 (fun _ h9 => h9) rfl (by decide +kernel) rfl rfl (by decide) rfl dX5_enterHead_64 (fun H locs hH hS => ?_)
      refine lv_goto (tgt := 240) hx hb dX5_enterHead_67 (by decide) ?_
      refine lv_aload_n hx hb dX5_enterHead_240 rfl (lv_at hl 0 rfl) ?_
      refine lv_iconst (v := 0) hx hb dX5_enterHead_241 (by decide) ?_
      have hO_149 := okp hO_148 (n := 3) (k := 16) (v := 0) (show (0 : Int) ≤ (0 : Int32).toInt ∧ (0 : Int32).toInt ≤ 65535 from ⟨by decide, by decide⟩)
      refine h_puti (ty := .int) (ci := 5) (C := RX5) (F := TX5) (N := 19) hx hb hts in5 tyX5 tyX5_ok nmX5 hown hK hH hS (by decide) (rfl : kd 3 = 5) (by decide) rfl 16 (by decide) wd3 (fun _ h9 => h9) rfl (by decide +kernel) rfl rfl (by decide) rfl dX5_enterHead_242 (fun H locs hH hS => ?_)
      have hp_150 : ((up2 (up2 im_138 3 15 8) 3 16 0) 3 6).toInt = (z_129 : Int32).toInt := congrArg Int32.toInt (((up2_k _ _ (by decide)).trans ((up2_k _ _ (by decide)).trans ((congrFun (hfr_139 3 (by omega)) _).trans (up2_at _ _ _ _)))))
      have hp_151 : ((up2 (up2 im_138 3 15 8) 3 16 0) 3 8).toInt = ((i 3 8) : Int32).toInt := congrArg Int32.toInt (((up2_k _ _ (by decide)).trans ((up2_k _ _ (by decide)).trans ((congrFun (hfr_139 3 (by omega)) _).trans (up2_k _ _ (by decide))))))
      have hp_152 : ((up2 (up2 im_138 3 15 8) 3 16 0) 3 10).toInt = ((i 3 10) : Int32).toInt := congrArg Int32.toInt (((up2_k _ _ (by decide)).trans ((up2_k _ _ (by decide)).trans ((congrFun (hfr_139 3 (by omega)) _).trans (up2_k _ _ (by decide))))))
      have hp_153 : ((up2 (up2 im_138 3 15 8) 3 16 0) 3 12).toInt = ((i 3 12) : Int32).toInt := congrArg Int32.toInt (((up2_k _ _ (by decide)).trans ((up2_k _ _ (by decide)).trans ((congrFun (hfr_139 3 (by omega)) _).trans (up2_k _ _ (by decide))))))
      have hp_154 : ((up2 (up2 im_138 3 15 8) 3 16 0) 3 14).toInt = ((i 3 14) : Int32).toInt := congrArg Int32.toInt (((up2_k _ _ (by decide)).trans ((up2_k _ _ (by decide)).trans ((congrFun (hfr_139 3 (by omega)) _).trans (up2_k _ _ (by decide))))))
      have hp_155 : ((up2 (up2 im_138 3 15 8) 3 16 0) 3 15).toInt = (8 : Int32).toInt := congrArg Int32.toInt (((up2_k _ _ (by decide)).trans (up2_at _ _ _ _)))
      have hl_156 : (8 : Int32).toInt = 8 := rfl
      have hp_157 : ((up2 (up2 im_138 3 15 8) 3 16 0) 3 16).toInt = (0 : Int32).toInt := congrArg Int32.toInt ((up2_at _ _ _ _))
      have hl_158 : (0 : Int32).toInt = 0 := rfl
      have hN : 38 + (i 3 6).toInt.toNat = 37 + 1 * j_131 := by omega
      have hp_159 : ((up2 (up2 im_138 3 15 8) 3 16 0) (37 + 1 * j_131) 0).toInt = ((im_138 (37 + 1 * j_131) 0) : Int32).toInt := congrArg Int32.toInt (((congrFun (up2_n _ _ (by omega)) _).trans (congrFun (up2_n _ _ (by omega)) _)))
      have hp_160 : ((up2 (up2 im_138 3 15 8) 3 16 0) (37 + 1 * j_131) 1).toInt = ((im_138 (37 + 1 * j_131) 1) : Int32).toInt := congrArg Int32.toInt (((congrFun (up2_n _ _ (by omega)) _).trans (congrFun (up2_n _ _ (by omega)) _)))
      have hp_161 : ((up2 (up2 im_138 3 15 8) 3 16 0) (37 + 1 * j_131) 2).toInt = ((im_138 (37 + 1 * j_131) 2) : Int32).toInt := congrArg Int32.toInt (((congrFun (up2_n _ _ (by omega)) _).trans (congrFun (up2_n _ _ (by omega)) _)))
      have hp_162 : ((up2 (up2 im_138 3 15 8) 3 16 0) (37 + 1 * j_131) 3).toInt = ((im_138 (37 + 1 * j_131) 3) : Int32).toInt := congrArg Int32.toInt (((congrFun (up2_n _ _ (by omega)) _).trans (congrFun (up2_n _ _ (by omega)) _)))
      have hp_163 : ((up2 (up2 im_138 3 15 8) 3 16 0) (37 + 1 * j_131) 8).toInt = ((im_138 (37 + 1 * j_131) 8) : Int32).toInt := congrArg Int32.toInt (((congrFun (up2_n _ _ (by omega)) _).trans (congrFun (up2_n _ _ (by omega)) _)))
      have hV_164 : hdQ i (r 3 17) (r 3 18) (up2 (up2 im_138 3 15 8) 3 16 0) (r 3 17) (r 3 18) y.toInt x.toInt := ⟨by omega, Or.inr (Or.inl ⟨by omega, rfl, rfl, by omega, (by rw [hN]; exact ⟨by omega, by omega, by omega, by omega, by omega⟩), (by rw [hN]; exact ⟨(((congrFun (up2_n _ _ (by omega)) _).trans (congrFun (up2_n _ _ (by omega)) _)).trans ((hx2_142 4 (by decide) (by decide)).trans (congrFun (up2_n _ _ (by omega)) _))), (((congrFun (up2_n _ _ (by omega)) _).trans (congrFun (up2_n _ _ (by omega)) _)).trans ((hx2_142 5 (by decide) (by decide)).trans (congrFun (up2_n _ _ (by omega)) _)))⟩), by omega, (fun b hb => by
            have hb9 : b ≠ 6 ∧ b ≠ 15 ∧ b ≠ 16 := ⟨fun e9 => hb (by rw [e9]; decide), fun e9 => hb (by rw [e9]; decide), fun e9 => hb (by rw [e9]; decide)⟩
            exact ((up2_k _ _ (by omega)).trans ((up2_k _ _ (by omega)).trans ((congrFun (hfr_139 3 (by omega)) _).trans (up2_k _ _ (by omega)))))), (fun a h3 hp => ((up2_n _ _ (by omega)).trans ((up2_n _ _ (by omega)).trans ((hfr_139 a (by omega)).trans (up2_n _ _ (by omega))))))⟩)⟩
      exact sj_vret hx hb hr hlocks hS ((up2 (up2 im_138 3 15 8) 3 16 0), r) ⟨hO_149, (fun a ha => ((up2_n _ _ (by omega)).trans ((up2_n _ _ (by omega)).trans ((hfr_139 a (by omega)).trans (up2_n _ _ (by omega)))))), hR, (fun a b ha => rfl), hV_164⟩ hH (sj_Knil hK) (Nat.le_of_ble_eq_true rfl) (Nat.le_of_ble_eq_true rfl) dX5_enterHead_245
  · skip
    have h_165 := s_eq (rfl : x.toInt = _) (show (3 : Int32).toInt = 3 from rfl) c_2
    refine lv_aload_n hx hb dX5_enterHead_5 rfl (lv_at hl 0 rfl) ?_
    refine h_getr (ci := 5) (C := RX5) (F := TX5) (N := 19) hx hb hts in5 hown hK hH (by decide) (rfl : kd 3 = 5) (by decide) rfl 5 (by decide) wd14 (fun _ h9 => h9) (by decide) rfl (t := 8) (hR 3 5 rfl) (by decide) dX5_enterHead_6 ?_
    refine lv_iconst (v := 0) hx hb dX5_enterHead_9 (by decide) ?_
    refine h_qald hx hb hK hH (by decide) (rfl : kd 8 = 22) (by decide) rfl (s_vin (N := 5) (show (0 : Int32).toInt = 0 from rfl) (rfl : ln 8 = 5) (by omega) (by omega)) (t := 37) (hR 8 0 rfl) (by decide) dX5_enterHead_10 ?_
    have pb_166 := bxp hO (p := 37) (by omega) (by omega)
    have po_167 := hPO 37 (by omega) (by omega)
    refine lv_iload_n hx hb dX5_enterHead_11 rfl (lv_at hl 2 rfl) ?_
    refine lv_aload_n hx hb dX5_enterHead_12 rfl (lv_at hl 0 rfl) ?_
    have bx_168 : (0 : Int) ≤ (i 3 16).toInt ∧ (i 3 16).toInt ≤ 65535 := hO 3 16
    refine h_geti (ci := 5) (C := RX5) (F := TX5) (N := 19) hx hb hts in5 hown hK hH (by decide) (rfl : kd 3 = 5) (by decide) rfl 16 (by decide) wd3 (fun _ h9 => h9) (by decide) rfl dX5_enterHead_13 ?_
    refine lv_iconst (v := 0) hx hb dX5_enterHead_16 (by decide) ?_
    have hl_169 : (0 : Int32).toInt = 0 := rfl
    refine x_callv (va_runV (As := [.int y, .int (i 3 16), .int 0]) (rest := []) ⟨hx, hb, hml, hown, hts⟩ (k_pbegin l D g ka ad i r L d 37 y (i 3 16) 0 hO hR s.heap.size (by first | omega | decide) (by first | omega | decide) (by first | omega | decide) (by first | omega | decide) (by first | omega | decide) (by first | omega | decide)) (cwV 3 hts gX5_enterHead_X4_begin rfl rfl rfl (by decide +kernel) ⟨(Nat.le_of_ble_eq_true rfl), (Nat.le_of_ble_eq_true rfl)⟩) (x_preV (q := (RX4, TX4, 9)) hH hK (q_obj (by decide) (rfl : kd 37 = 4) (by decide)) rfl gxb (gxw hE hS (x_F hH hS hA))) rfl rfl hl.1 rfl (lv_room (Nat.le_of_ble_eq_true rfl)) dX5_enterHead_17 ⟨(Nat.le_of_ble_eq_true rfl), (Nat.le_of_ble_eq_true rfl)⟩) hH hS hA rfl rfl (fun im_172 H locs hw_171 hH hS => ?_)
    have hH : sj_H D A (hwc g ka im_172 r L d) H := hH
    obtain ⟨hO_174, hfr_173, hx2_175, hx2_176⟩ := hw_171
    obtain ⟨hpb_177, hpb_178, hpb_179, hpb_180, hpb_181⟩ := hx2_175
    refine lv_aload_n hx hb dX5_enterHead_20 rfl (lv_at hl 0 rfl) ?_
    refine lv_iconst (v := 1) hx hb dX5_enterHead_21 (by decide) ?_
    have hO_182 := okp hO_174 (n := 3) (k := 15) (v := 1) (show (0 : Int) ≤ (1 : Int32).toInt ∧ (1 : Int32).toInt ≤ 8 from ⟨by decide, by decide⟩)
    refine h_puti (ty := .int) (ci := 5) (C := RX5) (F := TX5) (N := 19) hx hb hts in5 tyX5 tyX5_ok nmX5 hown hK hH hS (by decide) (rfl : kd 3 = 5) (by decide) rfl 15 (by decide) wd7 (fun _ h9 => h9) rfl (by decide +kernel) rfl rfl (by decide) rfl dX5_enterHead_22 (fun H locs hH hS => ?_)
    refine lv_goto (tgt := 240) hx hb dX5_enterHead_25 (by decide) ?_
    refine lv_aload_n hx hb dX5_enterHead_240 rfl (lv_at hl 0 rfl) ?_
    refine lv_iconst (v := 0) hx hb dX5_enterHead_241 (by decide) ?_
    have hO_183 := okp hO_182 (n := 3) (k := 16) (v := 0) (show (0 : Int) ≤ (0 : Int32).toInt ∧ (0 : Int32).toInt ≤ 65535 from ⟨by decide, by decide⟩)
    refine h_puti (ty := .int) (ci := 5) (C := RX5) (F := TX5) (N := 19) hx hb hts in5 tyX5 tyX5_ok nmX5 hown hK hH hS (by decide) (rfl : kd 3 = 5) (by decide) rfl 16 (by decide) wd3 (fun _ h9 => h9) rfl (by decide +kernel) rfl rfl (by decide) rfl dX5_enterHead_242 (fun H locs hH hS => ?_)
    have hp_184 : ((up2 (up2 im_172 3 15 1) 3 16 0) 3 6).toInt = ((i 3 6) : Int32).toInt := congrArg Int32.toInt (((up2_k _ _ (by decide)).trans ((up2_k _ _ (by decide)).trans (congrFun (hfr_173 3 (by omega)) _))))
    have hp_185 : ((up2 (up2 im_172 3 15 1) 3 16 0) 3 8).toInt = ((i 3 8) : Int32).toInt := congrArg Int32.toInt (((up2_k _ _ (by decide)).trans ((up2_k _ _ (by decide)).trans (congrFun (hfr_173 3 (by omega)) _))))
    have hp_186 : ((up2 (up2 im_172 3 15 1) 3 16 0) 3 10).toInt = ((i 3 10) : Int32).toInt := congrArg Int32.toInt (((up2_k _ _ (by decide)).trans ((up2_k _ _ (by decide)).trans (congrFun (hfr_173 3 (by omega)) _))))
    have hp_187 : ((up2 (up2 im_172 3 15 1) 3 16 0) 3 12).toInt = ((i 3 12) : Int32).toInt := congrArg Int32.toInt (((up2_k _ _ (by decide)).trans ((up2_k _ _ (by decide)).trans (congrFun (hfr_173 3 (by omega)) _))))
    have hp_188 : ((up2 (up2 im_172 3 15 1) 3 16 0) 3 14).toInt = ((i 3 14) : Int32).toInt := congrArg Int32.toInt (((up2_k _ _ (by decide)).trans ((up2_k _ _ (by decide)).trans (congrFun (hfr_173 3 (by omega)) _))))
    have hp_189 : ((up2 (up2 im_172 3 15 1) 3 16 0) 3 15).toInt = (1 : Int32).toInt := congrArg Int32.toInt (((up2_k _ _ (by decide)).trans (up2_at _ _ _ _)))
    have hl_190 : (1 : Int32).toInt = 1 := rfl
    have hp_191 : ((up2 (up2 im_172 3 15 1) 3 16 0) 3 16).toInt = (0 : Int32).toInt := congrArg Int32.toInt ((up2_at _ _ _ _))
    have hl_192 : (0 : Int32).toInt = 0 := rfl
    have hp_193 : ((up2 (up2 im_172 3 15 1) 3 16 0) 37 0).toInt = ((im_172 37 0) : Int32).toInt := congrArg Int32.toInt (((congrFun (up2_n _ _ (by decide)) _).trans (congrFun (up2_n _ _ (by decide)) _)))
    have hp_194 : ((up2 (up2 im_172 3 15 1) 3 16 0) 37 1).toInt = ((im_172 37 1) : Int32).toInt := congrArg Int32.toInt (((congrFun (up2_n _ _ (by decide)) _).trans (congrFun (up2_n _ _ (by decide)) _)))
    have hp_195 : ((up2 (up2 im_172 3 15 1) 3 16 0) 37 2).toInt = ((im_172 37 2) : Int32).toInt := congrArg Int32.toInt (((congrFun (up2_n _ _ (by decide)) _).trans (congrFun (up2_n _ _ (by decide)) _)))
    have hp_196 : ((up2 (up2 im_172 3 15 1) 3 16 0) 37 3).toInt = ((im_172 37 3) : Int32).toInt := congrArg Int32.toInt (((congrFun (up2_n _ _ (by decide)) _).trans (congrFun (up2_n _ _ (by decide)) _)))
    have hp_197 : ((up2 (up2 im_172 3 15 1) 3 16 0) 37 8).toInt = ((im_172 37 8) : Int32).toInt := congrArg Int32.toInt (((congrFun (up2_n _ _ (by decide)) _).trans (congrFun (up2_n _ _ (by decide)) _)))
    have hV_198 : hdQ i (r 3 17) (r 3 18) (up2 (up2 im_172 3 15 1) 3 16 0) (r 3 17) (r 3 18) y.toInt x.toInt := ⟨by omega, Or.inl ⟨by omega, rfl, rfl, ⟨by omega, by omega, by omega, by omega, by omega⟩, ⟨(((congrFun (up2_n _ _ (by omega)) _).trans (congrFun (up2_n _ _ (by omega)) _)).trans (hx2_176 4 (by decide) (by decide))), (((congrFun (up2_n _ _ (by omega)) _).trans (congrFun (up2_n _ _ (by omega)) _)).trans (hx2_176 5 (by decide) (by decide)))⟩, by omega, (fun b hb => by
          have hb9 : b ≠ 15 ∧ b ≠ 16 := ⟨fun e9 => hb (by rw [e9]; decide), fun e9 => hb (by rw [e9]; decide)⟩
          exact ((up2_k _ _ (by omega)).trans ((up2_k _ _ (by omega)).trans (congrFun (hfr_173 3 (by omega)) _)))), (fun a h3 hp => ((up2_n _ _ (by omega)).trans ((up2_n _ _ (by omega)).trans (hfr_173 a (by omega)))))⟩⟩
    exact sj_vret hx hb hr hlocks hS ((up2 (up2 im_172 3 15 1) 3 16 0), r) ⟨hO_183, (fun a ha => ((up2_n _ _ (by omega)).trans ((up2_n _ _ (by omega)).trans (hfr_173 a (by omega))))), hR, (fun a b ha => rfl), hV_198⟩ hH (sj_Knil hK) (Nat.le_of_ble_eq_true rfl) (Nat.le_of_ble_eq_true rfl) dX5_enterHead_245
