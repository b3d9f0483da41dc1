theorem MRQ_fr {m m' c : Nat → Nat → Int32} {t : Nat} (h : MRQ m c t) (h36 : ∀ b : Nat, 6 ≤ b → b ≠ 7 → b < 33 → m' 36 b = m 36 b) (ha : ∀ a : Nat, 381 ≤ a → a < 395 → m' a = m a) : MRQ m' c t := by
  have cs : ∀ w : Int, cstep m' w = cstep m w := cstep_eq (ha 386 (by decide) (by decide)) (h36 17 (by decide) (by decide) (by decide))
  obtain ⟨S, W, N, O, T, G, C, U, E, F, R, L, X⟩ := h
  unfold mqS at S; unfold mqW at W; unfold mqN at N; unfold mqO at O; unfold mqT at T; unfold mqG at G; unfold mqC at C; unfold mqU at U; unfold mqE at E; unfold mqF at F; unfold mqR at R; unfold mqL at L; unfold mqX at X
  refine ⟨?_, ?_, ?_, ?_, ?_, ?_, ?_, ?_, ?_, ?_, ?_, ?_, ?_⟩
  · unfold mqS; rw [h36 6 (by decide) (by decide) (by decide), h36 8 (by decide) (by decide) (by decide), h36 9 (by decide) (by decide) (by decide), h36 13 (by decide) (by decide) (by decide), h36 17 (by decide) (by decide) (by decide), h36 23 (by decide) (by decide) (by decide), h36 26 (by decide) (by decide) (by decide)]; exact S
  · unfold mqW; rw [h36 10 (by decide) (by decide) (by decide)]; exact W
  · unfold mqN; rw [h36 11 (by decide) (by decide) (by decide)]; exact N
  · unfold mqO; rw [h36 18 (by decide) (by decide) (by decide)]; exact O
  · unfold mqT; rw [h36 27 (by decide) (by decide) (by decide)]; exact T
  · unfold mqG; simp only [h36 11 (by decide) (by decide) (by decide), cs, ha 382 (by decide) (by decide)]; exact G
  · unfold mqC; simp only [h36 11 (by decide) (by decide) (by decide), cs, ha 383 (by decide) (by decide), ha 385 (by decide) (by decide)]; exact C
  · unfold mqU; simp only [h36 11 (by decide) (by decide) (by decide), ha 386 (by decide) (by decide)]; exact U
  · unfold mqE; simp only [ha 390 (by decide) (by decide), ha 391 (by decide) (by decide)]; exact E
  · unfold mqF; simp only [ha 392 (by decide) (by decide)]; exact F
  · unfold mqR; simp only [ha 392 (by decide) (by decide), ha 394 (by decide) (by decide)]; exact R
  · unfold mqL; simp only [ha 392 (by decide) (by decide), h36 27 (by decide) (by decide) (by decide)]; exact L
  · unfold mqX; simp only [ha 381 (by decide) (by decide)]; exact X
theorem MRQ_dl {m c c' : Nat → Nat → Int32} {t : Nat} {ln : Int} {l : List Int} (h : MRQ m c t) (g : dlQ c c' ln l) (ht : 54 ≤ t) : MRQ m c' t := by
  obtain ⟨_, g3, gf⟩ := g
  have f3 : ∀ b : Nat, b ≠ 1 → c' 3 b = c 3 b := fun b hb => g3 b (by simp; omega)
  have f37 : ∀ s : Nat, c' (37 + s) = c (37 + s) := fun s => gf _ (by omega)
  have f42 : ∀ s : Nat, c' (42 + s) = c (42 + s) := fun s => gf _ (by omega)
  have f84 : ∀ s : Nat, c' (84 + s) = c (84 + s) := fun s => gf _ (by omega)
  have f96 : ∀ s : Nat, c' (96 + 3 * s) = c (96 + 3 * s) := fun s => gf _ (by omega)
  obtain ⟨S, W, N, O, T, G, C, U, E, F, R, L, X⟩ := h
  unfold mqS at S; unfold mqW at W; unfold mqN at N; unfold mqO at O; unfold mqT at T; unfold mqG at G; unfold mqC at C; unfold mqU at U; unfold mqE at E; unfold mqF at F; unfold mqR at R; unfold mqL at L; unfold mqX at X
  refine ⟨?_, ?_, ?_, ?_, ?_, ?_, ?_, ?_, ?_, ?_, ?_, ?_, ?_⟩
  · unfold mqS; rw [f3 4 (by decide), f3 15 (by decide), f3 16 (by decide), f3 8 (by decide), f3 10 (by decide), f3 12 (by decide), f3 14 (by decide)]; exact S
  · unfold mqW; rw [f3 16 (by decide)]; exact W
  · unfold mqN; rw [f3 15 (by decide), f3 6 (by decide)]; exact N
  · unfold mqO; rw [f3 15 (by decide), f3 6 (by decide), f3 8 (by decide)]; exact O
  · unfold mqT; rw [f3 15 (by decide), f3 10 (by decide), f3 12 (by decide)]; exact T
  · unfold mqG; simp only [f37]; exact G
  · unfold mqC; simp only [f42, f3 8 (by decide), f3 12 (by decide)]; exact C
  · unfold mqU; simp only [f3 10 (by decide), f3 8 (by decide)]; exact U
  · unfold mqE; simp only [f3 12 (by decide), f3 8 (by decide), f42, f84]; exact E
  · unfold mqF; simp only [f3 12 (by decide), f3 14 (by decide), f84]; exact F
  · unfold mqR; simp only [f3 14 (by decide), f3 10 (by decide), f3 12 (by decide), f96]; exact R
  · unfold mqL; simp only [f3 15 (by decide), f3 14 (by decide), gf t (by omega)]; exact L
  · unfold mqX; rw [f3 4 (by decide), gf 6 (by decide), gf 7 (by decide)]; exact X
theorem MRQ_0 {m c : Nat → Nat → Int32} {t : Nat} (h : beQ c) (g : (m 36 6).toInt = 0 ∧ (m 36 8).toInt = 0 ∧ (m 36 9).toInt = 0 ∧ (m 36 10).toInt = 0 ∧ (m 36 11).toInt = 0 ∧ (m 36 13).toInt = 0 ∧ (m 36 17).toInt = 0 ∧ (m 36 23).toInt = 0 ∧ (m 36 26).toInt = 0 ∧ (m 36 33).toInt = 0) : MRQ m c t := by
  obtain ⟨h1, h4, h6, h8, h10, h12, h14, h15, h16⟩ := h
  obtain ⟨g6, g8, g9, g10, g11, g13, g17, g23, g26, g33⟩ := g
  refine ⟨⟨by omega, by omega, by omega, by omega, by omega, by omega, by omega⟩, Or.inl ⟨h16, g10⟩, Or.inl ⟨h15, g11, h6⟩, ⟨fun z => by omega, fun z1 z2 => by omega⟩, ⟨fun z => by omega, fun z => by omega⟩, fun g hg => by omega, fun s hs => by omega, fun k hk => by omega, fun e he => by omega, fun e he => by omega, fun k hk => by omega, fun hz => by omega, fun j hj => by omega⟩
theorem dl_no {c c' : Nat → Nat → Int32} {ln : Int} {l : List Int} (g : dlQ c c' ln l) (h : ln ≠ 1) : c' 3 1 = c 3 1 := (g.1.resolve_left (fun q => h q.1)).2
theorem dl_nl {c c' : Nat → Nat → Int32} {ln : Int} {l : List Int} (g : dlQ c c' ln l) (h : l ≠ [35, 49]) : c' 3 1 = c 3 1 := (g.1.resolve_left (fun q => h q.2.1)).2
theorem dl_yes {c c' : Nat → Nat → Int32} {ln : Int} {l : List Int} (g : dlQ c c' ln l) (h : ln = 1) (h2 : l = [35, 49]) : (c' 3 1).toInt = 1 := (g.1.resolve_right (fun q => q.1 ⟨h, h2⟩)).2.2
theorem li_d {c c' : Nat → Nat → Int32} {o t o' t' : Nat} {ln : Int} {l : List Int} (h : liQ c o t c' o' t' ln l) : c' 3 1 = c 3 1 := by
  obtain ⟨k, e, _, h⟩ := h
  rcases h with ⟨_, h, _⟩ | ⟨_, _, h⟩
  · rw [h]
  · rcases h with ⟨_, h, _⟩ | ⟨_, _, _, h, _⟩ | ⟨_, _, h⟩ | ⟨_, _, h⟩ | ⟨_, _, h, _⟩ | ⟨_, _, _, h⟩
    · exact h.2 3 1 (by decide) (by decide) (by decide)
    · exact h 1 (by decide)
    · exact h.2.2.2.2.2.2.2.2.1 1 (by decide)
    · exact h.2.2.2.2.2.2.2.2.1 1 (by decide)
    · rw [h]
    · rcases h.2 with g | g | g | g | g
      · exact g.2.2.2.2.2.2.1 1 (by decide)
      · exact g.2.2.2.2.2.2.2.1 1 (by decide)
      · exact g.2.2.2.2.2.2.1 1 (by decide)
      · exact g.2.2.2.2.2.2.2.2.2.1 1 (by decide)
      · exact g.2.2.2.2.2.2.2.2.2.1 1 (by decide)
theorem addE_0 {c c' : Nat → Nat → Int32} {ln e : Int} (h0 : 0 ≤ (c 3 4).toInt) (g : addE c c' ln e) : 0 ≤ (c' 3 4).toInt := by
  rcases g.1 with ⟨_, h, _⟩ | ⟨_, h, _⟩
  · rw [h]; exact h0
  · omega
theorem dX12_read_0 : decode cX12_read 0 = .ok (.aload_n 0, 1) := by decide +kernel
theorem dX12_read_1 : decode cX12_read 1 = .ok (.invokevirtual 174, 3) := by decide +kernel
theorem dX12_read_4 : decode cX12_read 4 = .ok (.ifCond .eq 5, 3) := by decide +kernel
theorem dX12_read_9 : decode cX12_read 9 = .ok (.aload_n 0, 1) := by decide +kernel
theorem dX12_read_10 : decode cX12_read 10 = .ok (.invokevirtual 178, 3) := by decide +kernel
theorem dX12_read_13 : decode cX12_read 13 = .ok (.iconst 0, 1) := by decide +kernel
theorem dX12_read_14 : decode cX12_read 14 = .ok (.istore_n 1, 1) := by decide +kernel
theorem dX12_read_15 : decode cX12_read 15 = .ok (.iconst 0, 1) := by decide +kernel
theorem dX12_read_16 : decode cX12_read 16 = .ok (.istore_n 2, 1) := by decide +kernel
theorem dX12_read_17 : decode cX12_read 17 = .ok (.iconst 0, 1) := by decide +kernel
theorem dX12_read_18 : decode cX12_read 18 = .ok (.istore_n 3, 1) := by decide +kernel
theorem dX12_read_19 : decode cX12_read 19 = .ok (.iload_n 3, 1) := by decide +kernel
theorem dX12_read_20 : decode cX12_read 20 = .ok (.aload_n 0, 1) := by decide +kernel
theorem dX12_read_21 : decode cX12_read 21 = .ok (.getfield 7, 3) := by decide +kernel
theorem dX12_read_24 : decode cX12_read 24 = .ok (.if_icmp .gt 104, 3) := by decide +kernel
theorem dX12_read_128 : decode cX12_read 128 = .ok (.aload_n 0, 1) := by decide +kernel
theorem dX12_read_129 : decode cX12_read 129 = .ok (.iconst 0, 1) := by decide +kernel
theorem dX12_read_130 : decode cX12_read 130 = .ok (.putfield 7, 3) := by decide +kernel
theorem dX12_read_133 : decode cX12_read 133 = .ok (.aload_n 0, 1) := by decide +kernel
theorem dX12_read_134 : decode cX12_read 134 = .ok (.getfield 117, 3) := by decide +kernel
theorem dX12_read_137 : decode cX12_read 137 = .ok (.ifCond .ne 12, 3) := by decide +kernel
theorem dX12_read_149 : decode cX12_read 149 = .ok (.aload_n 0, 1) := by decide +kernel
theorem dX12_read_150 : decode cX12_read 150 = .ok (.getfield 46, 3) := by decide +kernel
theorem dX12_read_153 : decode cX12_read 153 = .ok (.ifCond .eq 12, 3) := by decide +kernel
theorem dX12_read_165 : decode cX12_read 165 = .ok (.aload_n 0, 1) := by decide +kernel
theorem dX12_read_166 : decode cX12_read 166 = .ok (.getfield 57, 3) := by decide +kernel
theorem dX12_read_169 : decode cX12_read 169 = .ok (.ifCond .ne 7, 3) := by decide +kernel
theorem dX12_read_176 : decode cX12_read 176 = .ok (.aload_n 0, 1) := by decide +kernel
theorem dX12_read_177 : decode cX12_read 177 = .ok (.getfield 57, 3) := by decide +kernel
theorem dX12_read_180 : decode cX12_read 180 = .ok (.ireturn, 1) := by decide +kernel
theorem dX12_read_172 : decode cX12_read 172 = .ok (.aload_n 0, 1) := by decide +kernel
theorem dX12_read_173 : decode cX12_read 173 = .ok (.invokevirtual 192, 3) := by decide +kernel
theorem dX12_read_156 : decode cX12_read 156 = .ok (.aload_n 0, 1) := by decide +kernel
theorem dX12_read_157 : decode cX12_read 157 = .ok (.iload_n 1, 1) := by decide +kernel
theorem dX12_read_158 : decode cX12_read 158 = .ok (.iconst 1, 1) := by decide +kernel
theorem dX12_read_159 : decode cX12_read 159 = .ok (.iadd, 1) := by decide +kernel
theorem dX12_read_160 : decode cX12_read 160 = .ok (.bipush 7, 2) := by decide +kernel
theorem dX12_read_162 : decode cX12_read 162 = .ok (.invokevirtual 189, 3) := by decide +kernel
theorem dX12_read_140 : decode cX12_read 140 = .ok (.aload_n 0, 1) := by decide +kernel
theorem dX12_read_141 : decode cX12_read 141 = .ok (.iload_n 1, 1) := by decide +kernel
theorem dX12_read_142 : decode cX12_read 142 = .ok (.iconst 1, 1) := by decide +kernel
theorem dX12_read_143 : decode cX12_read 143 = .ok (.iadd, 1) := by decide +kernel
theorem dX12_read_144 : decode cX12_read 144 = .ok (.bipush 6, 2) := by decide +kernel
theorem dX12_read_146 : decode cX12_read 146 = .ok (.invokevirtual 189, 3) := by decide +kernel
theorem dX12_read_27 : decode cX12_read 27 = .ok (.iload_n 3, 1) := by decide +kernel
theorem dX12_read_28 : decode cX12_read 28 = .ok (.aload_n 0, 1) := by decide +kernel
theorem dX12_read_29 : decode cX12_read 29 = .ok (.getfield 7, 3) := by decide +kernel
theorem dX12_read_32 : decode cX12_read 32 = .ok (.if_icmp .eq 14, 3) := by decide +kernel
theorem dX12_read_46 : decode cX12_read 46 = .ok (.aload_n 0, 1) := by decide +kernel
theorem dX12_read_47 : decode cX12_read 47 = .ok (.iload_n 2, 1) := by decide +kernel
theorem dX12_read_48 : decode cX12_read 48 = .ok (.iload_n 3, 1) := by decide +kernel
theorem dX12_read_49 : decode cX12_read 49 = .ok (.invokevirtual 182, 3) := by decide +kernel
theorem dX12_read_52 : decode cX12_read 52 = .ok (.iload_n 3, 1) := by decide +kernel
theorem dX12_read_53 : decode cX12_read 53 = .ok (.iconst 1, 1) := by decide +kernel
theorem dX12_read_54 : decode cX12_read 54 = .ok (.iadd, 1) := by decide +kernel
theorem dX12_read_55 : decode cX12_read 55 = .ok (.istore_n 2, 1) := by decide +kernel
theorem dX12_read_56 : decode cX12_read 56 = .ok (.iinc 1 1, 3) := by decide +kernel
theorem dX12_read_103 : decode cX12_read 103 = .ok (.aload_n 0, 1) := by decide +kernel
theorem dX12_read_104 : decode cX12_read 104 = .ok (.iload_n 1, 1) := by decide +kernel
theorem dX12_read_105 : decode cX12_read 105 = .ok (.invokevirtual 186, 3) := by decide +kernel
theorem dX12_read_108 : decode cX12_read 108 = .ok (.istore 4, 2) := by decide +kernel
theorem dX12_read_110 : decode cX12_read 110 = .ok (.iload 4, 2) := by decide +kernel
theorem dX12_read_112 : decode cX12_read 112 = .ok (.ifCond .le 10, 3) := by decide +kernel
theorem dX12_read_122 : decode cX12_read 122 = .ok (.iinc 3 1, 3) := by decide +kernel
theorem dX12_read_125 : decode cX12_read 125 = .ok (.goto (-106), 3) := by decide +kernel
theorem dX12_read_115 : decode cX12_read 115 = .ok (.aload_n 0, 1) := by decide +kernel
theorem dX12_read_116 : decode cX12_read 116 = .ok (.iload_n 1, 1) := by decide +kernel
theorem dX12_read_117 : decode cX12_read 117 = .ok (.iload 4, 2) := by decide +kernel
theorem dX12_read_119 : decode cX12_read 119 = .ok (.invokevirtual 189, 3) := by decide +kernel
theorem dX12_read_59 : decode cX12_read 59 = .ok (.iload_n 1, 1) := by decide +kernel
theorem dX12_read_60 : decode cX12_read 60 = .ok (.iconst 1, 1) := by decide +kernel
theorem dX12_read_61 : decode cX12_read 61 = .ok (.if_icmp .ne 42, 3) := by decide +kernel
theorem dX12_read_64 : decode cX12_read 64 = .ok (.aload_n 0, 1) := by decide +kernel
theorem dX12_read_65 : decode cX12_read 65 = .ok (.aload_n 0, 1) := by decide +kernel
theorem dX12_read_66 : decode cX12_read 66 = .ok (.getfield 16, 3) := by decide +kernel
theorem dX12_read_69 : decode cX12_read 69 = .ok (.iconst 2, 1) := by decide +kernel
theorem dX12_read_70 : decode cX12_read 70 = .ok (.if_icmp .ne 29, 3) := by decide +kernel
theorem dX12_read_99 : decode cX12_read 99 = .ok (.iconst 0, 1) := by decide +kernel
theorem dX12_read_100 : decode cX12_read 100 = .ok (.putfield 33, 3) := by decide +kernel
theorem dX12_read_73 : decode cX12_read 73 = .ok (.aload_n 0, 1) := by decide +kernel
theorem dX12_read_74 : decode cX12_read 74 = .ok (.getfield 19, 3) := by decide +kernel
theorem dX12_read_77 : decode cX12_read 77 = .ok (.iconst 0, 1) := by decide +kernel
theorem dX12_read_78 : decode cX12_read 78 = .ok (.caload, 1) := by decide +kernel
theorem dX12_read_79 : decode cX12_read 79 = .ok (.bipush 35, 2) := by decide +kernel
theorem dX12_read_81 : decode cX12_read 81 = .ok (.if_icmp .ne 18, 3) := by decide +kernel
theorem dX12_read_84 : decode cX12_read 84 = .ok (.aload_n 0, 1) := by decide +kernel
theorem dX12_read_85 : decode cX12_read 85 = .ok (.getfield 19, 3) := by decide +kernel
theorem dX12_read_88 : decode cX12_read 88 = .ok (.iconst 1, 1) := by decide +kernel
theorem dX12_read_89 : decode cX12_read 89 = .ok (.caload, 1) := by decide +kernel
theorem dX12_read_90 : decode cX12_read 90 = .ok (.bipush 49, 2) := by decide +kernel
theorem dX12_read_92 : decode cX12_read 92 = .ok (.if_icmp .ne 7, 3) := by decide +kernel
theorem dX12_read_95 : decode cX12_read 95 = .ok (.iconst 1, 1) := by decide +kernel
theorem dX12_read_96 : decode cX12_read 96 = .ok (.goto 4, 3) := by decide +kernel
theorem dX12_read_35 : decode cX12_read 35 = .ok (.aload_n 0, 1) := by decide +kernel
theorem dX12_read_36 : decode cX12_read 36 = .ok (.getfield 12, 3) := by decide +kernel
theorem dX12_read_39 : decode cX12_read 39 = .ok (.iload_n 3, 1) := by decide +kernel
theorem dX12_read_40 : decode cX12_read 40 = .ok (.caload, 1) := by decide +kernel
theorem dX12_read_41 : decode cX12_read 41 = .ok (.bipush 10, 2) := by decide +kernel
theorem dX12_read_43 : decode cX12_read 43 = .ok (.if_icmp .ne 79, 3) := by decide +kernel
theorem gw_X12_busy : wsX12_busy.all goodWord = true := by decide +kernel
theorem gX12_read_X12_busy : GoodIn wsX12_read (wsV RX12 174 RX12 yX12_busy wsX12_busy) := goodIn_app (goodIn_sub (List.forall_mem_cons.mpr ⟨(List.mem_cons_of_mem _ (List.mem_append_left _ (List.mem_append_left _ lm8))), List.forall_mem_cons.mpr ⟨(List.mem_cons_of_mem _ (List.mem_append_left _ (List.mem_append_left _ lm9))), List.forall_mem_cons.mpr ⟨(List.mem_cons_of_mem _ (List.mem_append_left _ (List.mem_append_left _ lm10))), List.forall_mem_cons.mpr ⟨(List.mem_cons_of_mem _ (List.mem_append_left _ (List.mem_append_left _ lm11))), (fun _ h => absurd h List.not_mem_nil)⟩⟩⟩⟩) (by decide +kernel)) (goodIn_sub (by unfold wsX12_busy; exact List.forall_mem_cons.mpr ⟨(List.mem_cons_of_mem _ (List.mem_append_left _ (List.mem_append_left _ lm12))), List.forall_mem_append.mpr ⟨List.forall_mem_cons.mpr ⟨(List.mem_cons_of_mem _ (List.mem_append_left _ (List.mem_append_left _ lm13))), List.forall_mem_cons.mpr ⟨(List.mem_cons_of_mem _ (List.mem_append_left _ (List.mem_append_left _ lm14))), List.forall_mem_cons.mpr ⟨(List.mem_cons_of_mem _ (List.mem_append_left _ (List.mem_append_left _ lm15))), List.forall_mem_cons.mpr ⟨(List.mem_cons_of_mem _ (List.mem_append_left _ (List.mem_append_left _ lm16))), List.forall_mem_cons.mpr ⟨(List.mem_cons_of_mem _ (List.mem_append_left _ (List.mem_append_left _ lm11))), List.forall_mem_cons.mpr ⟨(List.mem_cons_of_mem _ (List.mem_append_left _ (List.mem_append_left _ lm17))), List.forall_mem_cons.mpr ⟨(List.mem_cons_of_mem _ (List.mem_append_left _ (List.mem_append_left _ lm18))), (fun _ h => absurd h List.not_mem_nil)⟩⟩⟩⟩⟩⟩⟩, (fun _ h => (List.mem_cons_of_mem _ (List.mem_append_right _ h)))⟩⟩) gw_X12_busy)
theorem gw_X12_forget : wsX12_forget.all goodWord = true := by decide +kernel
theorem gX12_read_X12_forget : GoodIn wsX12_read (wsV RX12 178 RX12 yX12_forget wsX12_forget) := goodIn_app (goodIn_sub (List.forall_mem_cons.mpr ⟨(List.mem_cons_of_mem _ (List.mem_append_left _ (List.mem_append_left _ lm19))), List.forall_mem_cons.mpr ⟨(List.mem_cons_of_mem _ (List.mem_append_left _ (List.mem_append_left _ lm20))), List.forall_mem_cons.mpr ⟨(List.mem_cons_of_mem _ (List.mem_append_left _ (List.mem_append_left _ lm21))), List.forall_mem_cons.mpr ⟨(List.mem_cons_of_mem _ (List.mem_append_left _ (List.mem_append_left _ lm11))), (fun _ h => absurd h List.not_mem_nil)⟩⟩⟩⟩) (by decide +kernel)) (goodIn_sub (by unfold wsX12_forget; exact List.forall_mem_cons.mpr ⟨(List.mem_cons_of_mem _ (List.mem_append_left _ (List.mem_append_left _ lm22))), List.forall_mem_append.mpr ⟨List.forall_mem_cons.mpr ⟨(List.mem_cons_of_mem _ (List.mem_append_left _ (List.mem_append_left _ lm7))), List.forall_mem_cons.mpr ⟨(List.mem_cons_of_mem _ (List.mem_append_left _ (List.mem_append_left _ lm23))), List.forall_mem_cons.mpr ⟨(List.mem_cons_of_mem _ (List.mem_append_left _ (List.mem_append_right _ (List.mem_append_left _ lm0)))), List.forall_mem_cons.mpr ⟨(List.mem_cons_of_mem _ (List.mem_append_left _ (List.mem_append_left _ lm6))), List.forall_mem_cons.mpr ⟨(List.mem_cons_of_mem _ (List.mem_append_left _ (List.mem_append_left _ lm5))), List.forall_mem_cons.mpr ⟨(List.mem_cons_of_mem _ (List.mem_append_left _ (List.mem_append_right _ (List.mem_append_left _ lm1)))), List.forall_mem_cons.mpr ⟨(List.mem_cons_of_mem _ (List.mem_append_left _ (List.mem_append_right _ (List.mem_append_left _ lm2)))), List.forall_mem_cons.mpr ⟨(List.mem_cons_of_mem _ (List.mem_append_left _ (List.mem_append_right _ (List.mem_append_left _ lm3)))), List.forall_mem_cons.mpr ⟨(List.mem_cons_of_mem _ (List.mem_append_left _ (List.mem_append_right _ (List.mem_append_left _ lm4)))), List.forall_mem_cons.mpr ⟨(List.mem_cons_of_mem _ (List.mem_append_left _ (List.mem_append_right _ (List.mem_append_left _ lm5)))), (fun _ h => absurd h List.not_mem_nil)⟩⟩⟩⟩⟩⟩⟩⟩⟩⟩, (fun _ h => (List.mem_cons_of_mem _ (List.mem_append_right _ h)))⟩⟩) gw_X12_forget)
theorem gw_X12_findCases : wsX12_findCases.all goodWord = true := by decide +kernel
theorem gX12_read_X12_findCases : GoodIn wsX12_read (wsV RX12 192 RX12 yX12_findCases wsX12_findCases) := goodIn_app (goodIn_sub (List.forall_mem_cons.mpr ⟨(List.mem_cons_of_mem _ (List.mem_append_left _ (List.mem_append_right _ (List.mem_append_right _ (List.mem_append_right _ (List.mem_append_right _ (List.mem_append_left _ lm20))))))), List.forall_mem_cons.mpr ⟨(List.mem_cons_of_mem _ (List.mem_append_left _ (List.mem_append_right _ (List.mem_append_right _ (List.mem_append_right _ (List.mem_append_right _ (List.mem_append_left _ lm21))))))), List.forall_mem_cons.mpr ⟨(List.mem_cons_of_mem _ (List.mem_append_left _ (List.mem_append_right _ (List.mem_append_right _ (List.mem_append_right _ (List.mem_append_right _ (List.mem_append_left _ lm22))))))), List.forall_mem_cons.mpr ⟨(List.mem_cons_of_mem _ (List.mem_append_left _ (List.mem_append_left _ lm11))), (fun _ h => absurd h List.not_mem_nil)⟩⟩⟩⟩) (by decide +kernel)) (goodIn_sub (by unfold wsX12_findCases; exact List.forall_mem_cons.mpr ⟨(List.mem_cons_of_mem _ (List.mem_append_left _ (List.mem_append_right _ (List.mem_append_right _ (List.mem_append_right _ (List.mem_append_right _ (List.mem_append_left _ lm23))))))), List.forall_mem_append.mpr ⟨List.forall_mem_append.mpr ⟨List.forall_mem_cons.mpr ⟨(List.mem_cons_of_mem _ (List.mem_append_left _ (List.mem_append_right _ (List.mem_append_left _ lm1)))), List.forall_mem_cons.mpr ⟨(List.mem_cons_of_mem _ (List.mem_append_left _ (List.mem_append_right _ (List.mem_append_left _ lm3)))), List.forall_mem_cons.mpr ⟨(List.mem_cons_of_mem _ (List.mem_append_left _ (List.mem_append_right _ (List.mem_append_right _ (List.mem_append_right _ (List.mem_append_right _ (List.mem_append_left _ lm14))))))), List.forall_mem_cons.mpr ⟨(List.mem_cons_of_mem _ (List.mem_append_left _ (List.mem_append_right _ (List.mem_append_left _ lm4)))), List.forall_mem_cons.mpr ⟨(List.mem_cons_of_mem _ (List.mem_append_left _ (List.mem_append_right _ (List.mem_append_right _ (List.mem_append_right _ (List.mem_append_left _ lm6)))))), List.forall_mem_cons.mpr ⟨(List.mem_cons_of_mem _ (List.mem_append_left _ (List.mem_append_right _ (List.mem_append_right _ (List.mem_append_right _ (List.mem_append_right _ (List.mem_append_left _ lm13))))))), List.forall_mem_cons.mpr ⟨(List.mem_cons_of_mem _ (List.mem_append_left _ (List.mem_append_right _ (List.mem_append_right _ (List.mem_append_right _ (List.mem_append_left _ lm8)))))), List.forall_mem_cons.mpr ⟨(List.mem_cons_of_mem _ (List.mem_append_left _ (List.mem_append_right _ (List.mem_append_right _ (List.mem_append_right _ (List.mem_append_left _ lm9)))))), List.forall_mem_cons.mpr ⟨(List.mem_cons_of_mem _ (List.mem_append_left _ (List.mem_append_right _ (List.mem_append_right _ (List.mem_append_right _ (List.mem_append_left _ lm10)))))), List.forall_mem_cons.mpr ⟨(List.mem_cons_of_mem _ (List.mem_append_left _ (List.mem_append_left _ lm11))), List.forall_mem_cons.mpr ⟨(List.mem_cons_of_mem _ (List.mem_append_left _ (List.mem_append_right _ (List.mem_append_right _ (List.mem_append_right _ (List.mem_append_left _ lm11)))))), List.forall_mem_cons.mpr ⟨(List.mem_cons_of_mem _ (List.mem_append_left _ (List.mem_append_right _ (List.mem_append_right _ (List.mem_append_right _ (List.mem_append_left _ lm12)))))), List.forall_mem_cons.mpr ⟨(List.mem_cons_of_mem _ (List.mem_append_left _ (List.mem_append_right _ (List.mem_append_right _ (List.mem_append_right _ (List.mem_append_left _ lm13)))))), List.forall_mem_cons.mpr ⟨(List.mem_cons_of_mem _ (List.mem_append_left _ (List.mem_append_right _ (List.mem_append_right _ (List.mem_append_right _ (List.mem_append_left _ lm14)))))), List.forall_mem_cons.mpr ⟨(List.mem_cons_of_mem _ (List.mem_append_left _ (List.mem_append_right _ (List.mem_append_right _ (List.mem_append_right _ (List.mem_append_right _ (List.mem_append_right _ lm0))))))), List.forall_mem_cons.mpr ⟨(List.mem_cons_of_mem _ (List.mem_append_left _ (List.mem_append_right _ (List.mem_append_right _ (List.mem_append_right _ (List.mem_append_right _ (List.mem_append_right _ lm1))))))), List.forall_mem_cons.mpr ⟨(List.mem_cons_of_mem _ (List.mem_append_left _ (List.mem_append_right _ (List.mem_append_right _ (List.mem_append_right _ (List.mem_append_right _ (List.mem_append_right _ lm2))))))), List.forall_mem_cons.mpr ⟨(List.mem_cons_of_mem _ (List.mem_append_left _ (List.mem_append_right _ (List.mem_append_right _ (List.mem_append_right _ (List.mem_append_right _ (List.mem_append_right _ lm3))))))), List.forall_mem_cons.mpr ⟨(List.mem_cons_of_mem _ (List.mem_append_left _ (List.mem_append_right _ (List.mem_append_left _ lm5)))), List.forall_mem_cons.mpr ⟨(List.mem_cons_of_mem _ (List.mem_append_left _ (List.mem_append_right _ (List.mem_append_right _ (List.mem_append_right _ (List.mem_append_right _ (List.mem_append_left _ lm12))))))), List.forall_mem_cons.mpr ⟨(List.mem_cons_of_mem _ (List.mem_append_left _ (List.mem_append_right _ (List.mem_append_right _ (List.mem_append_right _ (List.mem_append_right _ (List.mem_append_right _ lm4))))))), List.forall_mem_cons.mpr ⟨(List.mem_cons_of_mem _ (List.mem_append_left _ (List.mem_append_right _ (List.mem_append_right _ (List.mem_append_right _ (List.mem_append_right _ (List.mem_append_right _ lm5))))))), List.forall_mem_cons.mpr ⟨(List.mem_cons_of_mem _ (List.mem_append_left _ (List.mem_append_right _ (List.mem_append_right _ (List.mem_append_right _ (List.mem_append_right _ (List.mem_append_right _ lm6))))))), List.forall_mem_cons.mpr ⟨(List.mem_cons_of_mem _ (List.mem_append_left _ (List.mem_append_right _ (List.mem_append_right _ (List.mem_append_right _ (List.mem_append_right _ (List.mem_append_right _ lm7))))))), (fun _ h => absurd h List.not_mem_nil)⟩⟩⟩⟩⟩⟩⟩⟩⟩⟩⟩⟩⟩⟩⟩⟩⟩⟩⟩⟩⟩⟩⟩⟩, List.forall_mem_cons.mpr ⟨(List.mem_cons_of_mem _ (List.mem_append_left _ (List.mem_append_right _ (List.mem_append_right _ (List.mem_append_right _ (List.mem_append_right _ (List.mem_append_left _ lm10))))))), List.forall_mem_cons.mpr ⟨(List.mem_cons_of_mem _ (List.mem_append_left _ (List.mem_append_right _ (List.mem_append_right _ (List.mem_append_right _ (List.mem_append_right _ (List.mem_append_left _ lm9))))))), List.forall_mem_cons.mpr ⟨(List.mem_cons_of_mem _ (List.mem_append_left _ (List.mem_append_right _ (List.mem_append_right _ (List.mem_append_right _ (List.mem_append_right _ (List.mem_append_right _ lm8))))))), (fun _ h => absurd h List.not_mem_nil)⟩⟩⟩⟩, (fun _ h => (List.mem_cons_of_mem _ (List.mem_append_right _ h)))⟩⟩) gw_X12_findCases)
theorem gw_X12_note : wsX12_note.all goodWord = true := by decide +kernel
theorem gX12_read_X12_note : GoodIn wsX12_read (wsV RX12 189 RX12 yX12_note wsX12_note) := goodIn_app (goodIn_sub (List.forall_mem_cons.mpr ⟨(List.mem_cons_of_mem _ (List.mem_append_left _ (List.mem_append_right _ (List.mem_append_right _ (List.mem_append_right _ (List.mem_append_right _ (List.mem_append_left _ lm15))))))), List.forall_mem_cons.mpr ⟨(List.mem_cons_of_mem _ (List.mem_append_left _ (List.mem_append_right _ (List.mem_append_right _ (List.mem_append_right _ (List.mem_append_right _ (List.mem_append_left _ lm16))))))), List.forall_mem_cons.mpr ⟨(List.mem_cons_of_mem _ (List.mem_append_left _ (List.mem_append_right _ (List.mem_append_right _ (List.mem_append_right _ (List.mem_append_right _ (List.mem_append_left _ lm17))))))), List.forall_mem_cons.mpr ⟨(List.mem_cons_of_mem _ (List.mem_append_left _ (List.mem_append_left _ lm11))), (fun _ h => absurd h List.not_mem_nil)⟩⟩⟩⟩) (by decide +kernel)) (goodIn_sub (by unfold wsX12_note; exact List.forall_mem_cons.mpr ⟨(List.mem_cons_of_mem _ (List.mem_append_left _ (List.mem_append_right _ (List.mem_append_right _ (List.mem_append_right _ (List.mem_append_right _ (List.mem_append_left _ lm18))))))), List.forall_mem_append.mpr ⟨List.forall_mem_cons.mpr ⟨(List.mem_cons_of_mem _ (List.mem_append_left _ (List.mem_append_left _ lm7))), List.forall_mem_cons.mpr ⟨(List.mem_cons_of_mem _ (List.mem_append_left _ (List.mem_append_right _ (List.mem_append_right _ (List.mem_append_right _ (List.mem_append_right _ (List.mem_append_left _ lm19))))))), (fun _ h => absurd h List.not_mem_nil)⟩⟩, (fun _ h => (List.mem_cons_of_mem _ (List.mem_append_right _ h)))⟩⟩) gw_X12_note)
theorem gw_X12_takeLine : wsX12_takeLine.all goodWord = true := by decide +kernel
theorem gX12_read_X12_takeLine : GoodIn wsX12_read (wsV RX12 182 RX12 yX12_takeLine wsX12_takeLine) := goodIn_app (goodIn_sub (List.forall_mem_cons.mpr ⟨(List.mem_cons_of_mem _ (List.mem_append_left _ (List.mem_append_right _ (List.mem_append_left _ lm6)))), List.forall_mem_cons.mpr ⟨(List.mem_cons_of_mem _ (List.mem_append_left _ (List.mem_append_right _ (List.mem_append_left _ lm7)))), List.forall_mem_cons.mpr ⟨(List.mem_cons_of_mem _ (List.mem_append_left _ (List.mem_append_right _ (List.mem_append_left _ lm8)))), List.forall_mem_cons.mpr ⟨(List.mem_cons_of_mem _ (List.mem_append_left _ (List.mem_append_left _ lm11))), (fun _ h => absurd h List.not_mem_nil)⟩⟩⟩⟩) (by decide +kernel)) (goodIn_sub (by unfold wsX12_takeLine; exact List.forall_mem_cons.mpr ⟨(List.mem_cons_of_mem _ (List.mem_append_left _ (List.mem_append_right _ (List.mem_append_left _ lm9)))), List.forall_mem_append.mpr ⟨List.forall_mem_cons.mpr ⟨(List.mem_cons_of_mem _ (List.mem_append_left _ (List.mem_append_left _ lm1))), List.forall_mem_cons.mpr ⟨(List.mem_cons_of_mem _ (List.mem_append_left _ (List.mem_append_left _ lm2))), List.forall_mem_cons.mpr ⟨(List.mem_cons_of_mem _ (List.mem_append_left _ (List.mem_append_left _ lm3))), List.forall_mem_cons.mpr ⟨(List.mem_cons_of_mem _ (List.mem_append_left _ (List.mem_append_right _ (List.mem_append_left _ lm10)))), List.forall_mem_cons.mpr ⟨(List.mem_cons_of_mem _ (List.mem_append_left _ (List.mem_append_right _ (List.mem_append_left _ lm11)))), List.forall_mem_cons.mpr ⟨(List.mem_cons_of_mem _ (List.mem_append_left _ (List.mem_append_left _ lm11))), List.forall_mem_cons.mpr ⟨(List.mem_cons_of_mem _ (List.mem_append_left _ (List.mem_append_right _ (List.mem_append_left _ lm12)))), List.forall_mem_cons.mpr ⟨(List.mem_cons_of_mem _ (List.mem_append_left _ (List.mem_append_right _ (List.mem_append_left _ lm13)))), List.forall_mem_cons.mpr ⟨(List.mem_cons_of_mem _ (List.mem_append_left _ (List.mem_append_right _ (List.mem_append_left _ lm14)))), List.forall_mem_cons.mpr ⟨(List.mem_cons_of_mem _ (List.mem_append_left _ (List.mem_append_right _ (List.mem_append_left _ lm15)))), (fun _ h => absurd h List.not_mem_nil)⟩⟩⟩⟩⟩⟩⟩⟩⟩⟩, (fun _ h => (List.mem_cons_of_mem _ (List.mem_append_right _ h)))⟩⟩) gw_X12_takeLine)
theorem gw_X12_lineError : wsX12_lineError.all goodWord = true := by decide +kernel
theorem gX12_read_X12_lineError : GoodIn wsX12_read (wsV RX12 186 RX12 yX12_lineError wsX12_lineError) := goodIn_app (goodIn_sub (List.forall_mem_cons.mpr ⟨(List.mem_cons_of_mem _ (List.mem_append_left _ (List.mem_append_right _ (List.mem_append_left _ lm16)))), List.forall_mem_cons.mpr ⟨(List.mem_cons_of_mem _ (List.mem_append_left _ (List.mem_append_right _ (List.mem_append_left _ lm17)))), List.forall_mem_cons.mpr ⟨(List.mem_cons_of_mem _ (List.mem_append_left _ (List.mem_append_right _ (List.mem_append_left _ lm18)))), List.forall_mem_cons.mpr ⟨(List.mem_cons_of_mem _ (List.mem_append_left _ (List.mem_append_left _ lm11))), (fun _ h => absurd h List.not_mem_nil)⟩⟩⟩⟩) (by decide +kernel)) (goodIn_sub (by unfold wsX12_lineError; exact List.forall_mem_cons.mpr ⟨(List.mem_cons_of_mem _ (List.mem_append_left _ (List.mem_append_right _ (List.mem_append_left _ lm19)))), List.forall_mem_append.mpr ⟨List.forall_mem_append.mpr ⟨List.forall_mem_cons.mpr ⟨(List.mem_cons_of_mem _ (List.mem_append_left _ (List.mem_append_left _ lm5))), List.forall_mem_cons.mpr ⟨(List.mem_cons_of_mem _ (List.mem_append_left _ (List.mem_append_right _ (List.mem_append_left _ lm20)))), List.forall_mem_cons.mpr ⟨(List.mem_cons_of_mem _ (List.mem_append_left _ (List.mem_append_left _ lm23))), List.forall_mem_cons.mpr ⟨(List.mem_cons_of_mem _ (List.mem_append_left _ (List.mem_append_right _ (List.mem_append_left _ lm21)))), List.forall_mem_cons.mpr ⟨(List.mem_cons_of_mem _ (List.mem_append_left _ (List.mem_append_right _ (List.mem_append_left _ lm22)))), List.forall_mem_cons.mpr ⟨(List.mem_cons_of_mem _ (List.mem_append_left _ (List.mem_append_right _ (List.mem_append_left _ lm23)))), List.forall_mem_cons.mpr ⟨(List.mem_cons_of_mem _ (List.mem_append_left _ (List.mem_append_left _ lm11))), List.forall_mem_cons.mpr ⟨(List.mem_cons_of_mem _ (List.mem_append_left _ (List.mem_append_right _ (List.mem_append_right _ (List.mem_append_left _ lm0))))), List.forall_mem_cons.mpr ⟨(List.mem_cons_of_mem _ (List.mem_append_left _ (List.mem_append_left _ lm2))), List.forall_mem_cons.mpr ⟨(List.mem_cons_of_mem _ (List.mem_append_left _ (List.mem_append_left _ lm3))), List.forall_mem_cons.mpr ⟨(List.mem_cons_of_mem _ (List.mem_append_left _ (List.mem_append_left _ lm4))), List.forall_mem_cons.mpr ⟨(List.mem_cons_of_mem _ (List.mem_append_left _ (List.mem_append_right _ (List.mem_append_right _ (List.mem_append_left _ lm1))))), List.forall_mem_cons.mpr ⟨(List.mem_cons_of_mem _ (List.mem_append_left _ (List.mem_append_right _ (List.mem_append_right _ (List.mem_append_left _ lm2))))), List.forall_mem_cons.mpr ⟨(List.mem_cons_of_mem _ (List.mem_append_left _ (List.mem_append_right _ (List.mem_append_right _ (List.mem_append_left _ lm3))))), List.forall_mem_cons.mpr ⟨(List.mem_cons_of_mem _ (List.mem_append_left _ (List.mem_append_right _ (List.mem_append_right _ (List.mem_append_left _ lm4))))), List.forall_mem_cons.mpr ⟨(List.mem_cons_of_mem _ (List.mem_append_left _ (List.mem_append_right _ (List.mem_append_right _ (List.mem_append_left _ lm5))))), List.forall_mem_cons.mpr ⟨(List.mem_cons_of_mem _ (List.mem_append_left _ (List.mem_append_right _ (List.mem_append_right _ (List.mem_append_left _ lm6))))), List.forall_mem_cons.mpr ⟨(List.mem_cons_of_mem _ (List.mem_append_left _ (List.mem_append_right _ (List.mem_append_right _ (List.mem_append_left _ lm7))))), List.forall_mem_cons.mpr ⟨(List.mem_cons_of_mem _ (List.mem_append_left _ (List.mem_append_right _ (List.mem_append_right _ (List.mem_append_left _ lm8))))), List.forall_mem_cons.mpr ⟨(List.mem_cons_of_mem _ (List.mem_append_left _ (List.mem_append_right _ (List.mem_append_right _ (List.mem_append_left _ lm9))))), List.forall_mem_cons.mpr ⟨(List.mem_cons_of_mem _ (List.mem_append_left _ (List.mem_append_right _ (List.mem_append_right _ (List.mem_append_left _ lm10))))), List.forall_mem_cons.mpr ⟨(List.mem_cons_of_mem _ (List.mem_append_left _ (List.mem_append_right _ (List.mem_append_right _ (List.mem_append_left _ lm11))))), List.forall_mem_cons.mpr ⟨(List.mem_cons_of_mem _ (List.mem_append_left _ (List.mem_append_right _ (List.mem_append_right _ (List.mem_append_left _ lm12))))), List.forall_mem_cons.mpr ⟨(List.mem_cons_of_mem _ (List.mem_append_left _ (List.mem_append_right _ (List.mem_append_right _ (List.mem_append_left _ lm13))))), (fun _ h => absurd h List.not_mem_nil)⟩⟩⟩⟩⟩⟩⟩⟩⟩⟩⟩⟩⟩⟩⟩⟩⟩⟩⟩⟩⟩⟩⟩⟩, List.forall_mem_append.mpr ⟨List.forall_mem_cons.mpr ⟨(List.mem_cons_of_mem _ (List.mem_append_left _ (List.mem_append_right _ (List.mem_append_right _ (List.mem_append_left _ lm14))))), List.forall_mem_cons.mpr ⟨(List.mem_cons_of_mem _ (List.mem_append_left _ (List.mem_append_left _ lm6))), List.forall_mem_cons.mpr ⟨(List.mem_cons_of_mem _ (List.mem_append_left _ (List.mem_append_right _ (List.mem_append_right _ (List.mem_append_left _ lm15))))), List.forall_mem_cons.mpr ⟨(List.mem_cons_of_mem _ (List.mem_append_left _ (List.mem_append_right _ (List.mem_append_right _ (List.mem_append_left _ lm16))))), List.forall_mem_cons.mpr ⟨(List.mem_cons_of_mem _ (List.mem_append_left _ (List.mem_append_right _ (List.mem_append_right _ (List.mem_append_left _ lm17))))), List.forall_mem_cons.mpr ⟨(List.mem_cons_of_mem _ (List.mem_append_left _ (List.mem_append_right _ (List.mem_append_right _ (List.mem_append_left _ lm18))))), List.forall_mem_cons.mpr ⟨(List.mem_cons_of_mem _ (List.mem_append_left _ (List.mem_append_right _ (List.mem_append_right _ (List.mem_append_left _ lm19))))), List.forall_mem_cons.mpr ⟨(List.mem_cons_of_mem _ (List.mem_append_left _ (List.mem_append_right _ (List.mem_append_right _ (List.mem_append_left _ lm20))))), List.forall_mem_cons.mpr ⟨(List.mem_cons_of_mem _ (List.mem_append_left _ (List.mem_append_right _ (List.mem_append_right _ (List.mem_append_left _ lm21))))), List.forall_mem_cons.mpr ⟨(List.mem_cons_of_mem _ (List.mem_append_left _ (List.mem_append_right _ (List.mem_append_right _ (List.mem_append_left _ lm22))))), List.forall_mem_cons.mpr ⟨(List.mem_cons_of_mem _ (List.mem_append_left _ (List.mem_append_right _ (List.mem_append_right _ (List.mem_append_left _ lm23))))), List.forall_mem_cons.mpr ⟨(List.mem_cons_of_mem _ (List.mem_append_left _ (List.mem_append_right _ (List.mem_append_left _ lm0)))), List.forall_mem_cons.mpr ⟨(List.mem_cons_of_mem _ (List.mem_append_left _ (List.mem_append_right _ (List.mem_append_left _ lm10)))), List.forall_mem_cons.mpr ⟨(List.mem_cons_of_mem _ (List.mem_append_left _ (List.mem_append_right _ (List.mem_append_left _ lm11)))), List.forall_mem_cons.mpr ⟨(List.mem_cons_of_mem _ (List.mem_append_left _ (List.mem_append_right _ (List.mem_append_left _ lm12)))), List.forall_mem_cons.mpr ⟨(List.mem_cons_of_mem _ (List.mem_append_left _ (List.mem_append_right _ (List.mem_append_right _ (List.mem_append_right _ (List.mem_append_left _ lm0)))))), List.forall_mem_cons.mpr ⟨(List.mem_cons_of_mem _ (List.mem_append_left _ (List.mem_append_right _ (List.mem_append_right _ (List.mem_append_right _ (List.mem_append_left _ lm1)))))), List.forall_mem_cons.mpr ⟨(List.mem_cons_of_mem _ (List.mem_append_left _ (List.mem_append_right _ (List.mem_append_right _ (List.mem_append_right _ (List.mem_append_left _ lm2)))))), List.forall_mem_cons.mpr ⟨(List.mem_cons_of_mem _ (List.mem_append_left _ (List.mem_append_right _ (List.mem_append_right _ (List.mem_append_right _ (List.mem_append_left _ lm3)))))), List.forall_mem_cons.mpr ⟨(List.mem_cons_of_mem _ (List.mem_append_left _ (List.mem_append_right _ (List.mem_append_right _ (List.mem_append_right _ (List.mem_append_left _ lm4)))))), List.forall_mem_cons.mpr ⟨(List.mem_cons_of_mem _ (List.mem_append_left _ (List.mem_append_right _ (List.mem_append_right _ (List.mem_append_right _ (List.mem_append_left _ lm5)))))), List.forall_mem_cons.mpr ⟨(List.mem_cons_of_mem _ (List.mem_append_left _ (List.mem_append_right _ (List.mem_append_left _ lm4)))), List.forall_mem_cons.mpr ⟨(List.mem_cons_of_mem _ (List.mem_append_left _ (List.mem_append_right _ (List.mem_append_right _ (List.mem_append_right _ (List.mem_append_left _ lm6)))))), List.forall_mem_cons.mpr ⟨(List.mem_cons_of_mem _ (List.mem_append_left _ (List.mem_append_right _ (List.mem_append_right _ (List.mem_append_right _ (List.mem_append_left _ lm7)))))), (fun _ h => absurd h List.not_mem_nil)⟩⟩⟩⟩⟩⟩⟩⟩⟩⟩⟩⟩⟩⟩⟩⟩⟩⟩⟩⟩⟩⟩⟩⟩, List.forall_mem_append.mpr ⟨List.forall_mem_cons.mpr ⟨(List.mem_cons_of_mem _ (List.mem_append_left _ (List.mem_append_right _ (List.mem_append_right _ (List.mem_append_right _ (List.mem_append_left _ lm8)))))), List.forall_mem_cons.mpr ⟨(List.mem_cons_of_mem _ (List.mem_append_left _ (List.mem_append_right _ (List.mem_append_right _ (List.mem_append_right _ (List.mem_append_left _ lm9)))))), List.forall_mem_cons.mpr ⟨(List.mem_cons_of_mem _ (List.mem_append_left _ (List.mem_append_right _ (List.mem_append_right _ (List.mem_append_right _ (List.mem_append_left _ lm10)))))), List.forall_mem_cons.mpr ⟨(List.mem_cons_of_mem _ (List.mem_append_left _ (List.mem_append_right _ (List.mem_append_right _ (List.mem_append_right _ (List.mem_append_left _ lm11)))))), List.forall_mem_cons.mpr ⟨(List.mem_cons_of_mem _ (List.mem_append_left _ (List.mem_append_right _ (List.mem_append_right _ (List.mem_append_right _ (List.mem_append_left _ lm12)))))), List.forall_mem_cons.mpr ⟨(List.mem_cons_of_mem _ (List.mem_append_left _ (List.mem_append_right _ (List.mem_append_right _ (List.mem_append_right _ (List.mem_append_left _ lm13)))))), List.forall_mem_cons.mpr ⟨(List.mem_cons_of_mem _ (List.mem_append_left _ (List.mem_append_right _ (List.mem_append_right _ (List.mem_append_right _ (List.mem_append_left _ lm14)))))), List.forall_mem_cons.mpr ⟨(List.mem_cons_of_mem _ (List.mem_append_left _ (List.mem_append_right _ (List.mem_append_right _ (List.mem_append_right _ (List.mem_append_left _ lm15)))))), List.forall_mem_cons.mpr ⟨(List.mem_cons_of_mem _ (List.mem_append_left _ (List.mem_append_right _ (List.mem_append_right _ (List.mem_append_right _ (List.mem_append_left _ lm16)))))), List.forall_mem_cons.mpr ⟨(List.mem_cons_of_mem _ (List.mem_append_left _ (List.mem_append_right _ (List.mem_append_right _ (List.mem_append_right _ (List.mem_append_left _ lm17)))))), List.forall_mem_cons.mpr ⟨(List.mem_cons_of_mem _ (List.mem_append_left _ (List.mem_append_right _ (List.mem_append_right _ (List.mem_append_right _ (List.mem_append_left _ lm18)))))), List.forall_mem_cons.mpr ⟨(List.mem_cons_of_mem _ (List.mem_append_left _ (List.mem_append_right _ (List.mem_append_right _ (List.mem_append_right _ (List.mem_append_left _ lm19)))))), List.forall_mem_cons.mpr ⟨(List.mem_cons_of_mem _ (List.mem_append_left _ (List.mem_append_right _ (List.mem_append_right _ (List.mem_append_right _ (List.mem_append_left _ lm20)))))), List.forall_mem_cons.mpr ⟨(List.mem_cons_of_mem _ (List.mem_append_left _ (List.mem_append_right _ (List.mem_append_left _ lm13)))), List.forall_mem_cons.mpr ⟨(List.mem_cons_of_mem _ (List.mem_append_left _ (List.mem_append_right _ (List.mem_append_left _ lm14)))), List.forall_mem_cons.mpr ⟨(List.mem_cons_of_mem _ (List.mem_append_left _ (List.mem_append_right _ (List.mem_append_left _ lm15)))), List.forall_mem_cons.mpr ⟨(List.mem_cons_of_mem _ (List.mem_append_left _ (List.mem_append_right _ (List.mem_append_right _ (List.mem_append_right _ (List.mem_append_left _ lm21)))))), List.forall_mem_cons.mpr ⟨(List.mem_cons_of_mem _ (List.mem_append_left _ (List.mem_append_right _ (List.mem_append_right _ (List.mem_append_right _ (List.mem_append_left _ lm22)))))), List.forall_mem_cons.mpr ⟨(List.mem_cons_of_mem _ (List.mem_append_left _ (List.mem_append_right _ (List.mem_append_right _ (List.mem_append_right _ (List.mem_append_left _ lm23)))))), List.forall_mem_cons.mpr ⟨(List.mem_cons_of_mem _ (List.mem_append_left _ (List.mem_append_right _ (List.mem_append_right _ (List.mem_append_right _ (List.mem_append_right _ (List.mem_append_left _ lm0))))))), List.forall_mem_cons.mpr ⟨(List.mem_cons_of_mem _ (List.mem_append_left _ (List.mem_append_right _ (List.mem_append_left _ lm2)))), List.forall_mem_cons.mpr ⟨(List.mem_cons_of_mem _ (List.mem_append_left _ (List.mem_append_right _ (List.mem_append_right _ (List.mem_append_right _ (List.mem_append_right _ (List.mem_append_left _ lm1))))))), List.forall_mem_cons.mpr ⟨(List.mem_cons_of_mem _ (List.mem_append_left _ (List.mem_append_right _ (List.mem_append_right _ (List.mem_append_right _ (List.mem_append_right _ (List.mem_append_left _ lm2))))))), List.forall_mem_cons.mpr ⟨(List.mem_cons_of_mem _ (List.mem_append_left _ (List.mem_append_right _ (List.mem_append_right _ (List.mem_append_right _ (List.mem_append_right _ (List.mem_append_left _ lm3))))))), (fun _ h => absurd h List.not_mem_nil)⟩⟩⟩⟩⟩⟩⟩⟩⟩⟩⟩⟩⟩⟩⟩⟩⟩⟩⟩⟩⟩⟩⟩⟩, List.forall_mem_cons.mpr ⟨(List.mem_cons_of_mem _ (List.mem_append_left _ (List.mem_append_right _ (List.mem_append_right _ (List.mem_append_right _ (List.mem_append_right _ (List.mem_append_left _ lm4))))))), List.forall_mem_cons.mpr ⟨(List.mem_cons_of_mem _ (List.mem_append_left _ (List.mem_append_right _ (List.mem_append_right _ (List.mem_append_right _ (List.mem_append_right _ (List.mem_append_left _ lm5))))))), List.forall_mem_cons.mpr ⟨(List.mem_cons_of_mem _ (List.mem_append_left _ (List.mem_append_right _ (List.mem_append_right _ (List.mem_append_right _ (List.mem_append_right _ (List.mem_append_left _ lm6))))))), List.forall_mem_cons.mpr ⟨(List.mem_cons_of_mem _ (List.mem_append_left _ (List.mem_append_right _ (List.mem_append_right _ (List.mem_append_right _ (List.mem_append_right _ (List.mem_append_left _ lm7))))))), List.forall_mem_cons.mpr ⟨(List.mem_cons_of_mem _ (List.mem_append_left _ (List.mem_append_right _ (List.mem_append_right _ (List.mem_append_right _ (List.mem_append_right _ (List.mem_append_left _ lm8))))))), List.forall_mem_cons.mpr ⟨(List.mem_cons_of_mem _ (List.mem_append_left _ (List.mem_append_right _ (List.mem_append_left _ lm1)))), List.forall_mem_cons.mpr ⟨(List.mem_cons_of_mem _ (List.mem_append_left _ (List.mem_append_right _ (List.mem_append_left _ lm3)))), List.forall_mem_cons.mpr ⟨(List.mem_cons_of_mem _ (List.mem_append_left _ (List.mem_append_right _ (List.mem_append_right _ (List.mem_append_right _ (List.mem_append_right _ (List.mem_append_left _ lm9))))))), List.forall_mem_cons.mpr ⟨(List.mem_cons_of_mem _ (List.mem_append_left _ (List.mem_append_right _ (List.mem_append_right _ (List.mem_append_right _ (List.mem_append_right _ (List.mem_append_left _ lm10))))))), List.forall_mem_cons.mpr ⟨(List.mem_cons_of_mem _ (List.mem_append_left _ (List.mem_append_right _ (List.mem_append_right _ (List.mem_append_right _ (List.mem_append_right _ (List.mem_append_left _ lm11))))))), List.forall_mem_cons.mpr ⟨(List.mem_cons_of_mem _ (List.mem_append_left _ (List.mem_append_right _ (List.mem_append_right _ (List.mem_append_right _ (List.mem_append_right _ (List.mem_append_left _ lm12))))))), List.forall_mem_cons.mpr ⟨(List.mem_cons_of_mem _ (List.mem_append_left _ (List.mem_append_right _ (List.mem_append_right _ (List.mem_append_right _ (List.mem_append_right _ (List.mem_append_left _ lm13))))))), List.forall_mem_cons.mpr ⟨(List.mem_cons_of_mem _ (List.mem_append_left _ (List.mem_append_right _ (List.mem_append_right _ (List.mem_append_right _ (List.mem_append_right _ (List.mem_append_left _ lm14))))))), (fun _ h => absurd h List.not_mem_nil)⟩⟩⟩⟩⟩⟩⟩⟩⟩⟩⟩⟩⟩⟩⟩⟩, (fun _ h => (List.mem_cons_of_mem _ (List.mem_append_right _ h)))⟩⟩) gw_X12_lineError)
set_option maxHeartbeats 2000000 in
set_option maxRecDepth 100000 in
theorem m_read1 (l : Launch) (D : va_G) (g : Nat → Nat) (ka : Nat → ClassId) (ad : Nat → Nat) (i : Nat → Nat → Int32) (r : Nat → Nat → Nat) (L : Nat → Nat → Int64) (d : Nat → Nat → UInt64) (qs : Nat → rdS) (T : Nat → Int32) (c2 : Nat → Nat → Int32) (hO : OkI i) (hR : RS r) (sz : Nat) (hb76 : (i 36 76).toInt = 0) (hqO : ∀ j : Nat, j ≤ (i 36 2).toInt.toNat + 1 → OkI (qs j).1 ∧ QI (qs j).1 (qs j).2.1 (qs j).2.2) (hq0 : beQ (qs 0).1) (hqs : ∀ j : Nat, j < (i 36 2).toInt.toNat + 1 → stepR T (i 36 2).toInt.toNat j (qs j) (qs (j + 1))) (hTT : ∀ k : Nat, k < (i 36 2).toInt.toNat → (T k).toInt = (i 379 k).toInt) (hen : enQ (qs ((i 36 2).toInt.toNat + 1)).1 c2 (lnF T (i 36 2).toInt.toNat ((i 36 2).toInt.toNat + 1) : Int)) (hc2 : OkI c2) (hnr : NR i) : Met l yX12_read wsX12_read ({ frames := 4, cells := 0, slots := 0, locals := 97 }) (va_Pc [.ref (g 36)] (sj_B D (hwc g ka i r L d) (hT ka) sz (gx ad (va_A (hwc g ka i r L d) sz)))) (sj_Qi (S := (Nat → Nat → Int32)) D (fun v u => OkI u ∧ (∀ a b, ¬ ((a = 36 ∧ (b = 0 ∨ b = 2 ∨ b = 4 ∨ b = 6 ∨ b = 7 ∨ b = 8 ∨ b = 9 ∨ b = 10 ∨ b = 11 ∨ b = 13 ∨ b = 17 ∨ b = 18 ∨ b = 23 ∨ b = 26 ∨ b = 27 ∨ b = 33)) ∨ a = 380 ∨ a = 381 ∨ a = 382 ∨ a = 383 ∨ a = 384 ∨ a = 385 ∨ a = 386 ∨ a = 387 ∨ a = 388 ∨ a = 389 ∨ a = 390 ∨ a = 391 ∨ a = 392 ∨ a = 393 ∨ a = 394 ∨ a = 395 ∨ a = 396 ∨ a = 397 ∨ a = 398 ∨ a = 399 ∨ a = 400 ∨ a = 401) → u a b = i a b) ∧ ((0 : Int) ≤ v.toInt ∧ v.toInt ≤ 20) ∧ ((u 36 2).toInt = 0) ∧ (MRQ u c2 (qs ((i 36 2).toInt.toNat + 1)).2.2 ∧ mcP u (if 0 < (c2 3 4).toInt then [] else (csA c2 (c2 3 8).toInt.toNat).take 24)) ∧ (NR u)) (fun u => hwc g ka u r L d) (fun _ => []) (va_A (hwc g ka i r L d) sz)) 0 0 (va_A (hwc g ka i r L d) sz) := by
  refine x_met (Ex := gx ad) (cc := cX12_read) (maxL := 5) (ret := (some .int)) (by decide) rfl (Nat.le_of_ble_eq_true rfl) ?_
  intro p e s m below meth c A ls hx hb hr hml hts hown hlocks hA hS hH hK hE hl
  have hown : s.vm.findClass RX12 = some m.cls := hown
  have in12 : ∀ w ∈ wsX120, w ∈ wsX12_read := (fun _ h => (List.mem_cons_of_mem _ (List.mem_append_right _ h)))
  have wd0 := hts (.fieldLink RX12 7 "StoryDeskModel" "size" "I") (List.mem_cons_of_mem _ (List.mem_append_left _ (List.mem_append_left _ lm0)))
  have wd1 := hts (.fieldLink RX12 117 "StoryDeskModel" "groups" "I") (List.mem_cons_of_mem _ (List.mem_append_left _ (List.mem_append_left _ lm5)))
  have wd2 := hts (.fieldLink RX12 46 "StoryDeskModel" "tagged" "Z") (List.mem_cons_of_mem _ (List.mem_append_left _ (List.mem_append_left _ lm6)))
  have wd3 := hts (.fieldLink RX12 57 "StoryDeskModel" "wrongs" "I") (List.mem_cons_of_mem _ (List.mem_append_left _ (List.mem_append_left _ lm7)))
  have wd4 := hts (.fieldLink RX12 16 "StoryDeskModel" "width" "I") (List.mem_cons_of_mem _ (List.mem_append_left _ (List.mem_append_left _ lm2)))
  have wd5 := hts (.fieldLink RX12 33 "StoryDeskModel" "dialect" "I") (List.mem_cons_of_mem _ (List.mem_append_left _ (List.mem_append_left _ lm4)))
  have wd6 := hts (.fieldLink RX12 19 "StoryDeskModel" "line" "[C") (List.mem_cons_of_mem _ (List.mem_append_left _ (List.mem_append_left _ lm3)))
  have wd7 := hts (.fieldLink RX12 12 "StoryDeskModel" "text" "[C") (List.mem_cons_of_mem _ (List.mem_append_left _ (List.mem_append_left _ lm1)))
  have hl : lv_has ls 5 [(0, .ref (g 36))] := hl
  have hK : va_K D vwCl (hT ka) s := hK
  have hb2 : (0 : Int) ≤ (i 36 2).toInt ∧ (i 36 2).toInt ≤ 480 := hO 36 2
  refine lv_aload_n hx hb dX12_read_0 rfl (lv_at hl 0 rfl) ?_
  refine x_calli (va_runV (As := []) (rest := []) ⟨hx, hb, hml, hown, hts⟩ (m_busy l D g ka ad i r L d  hO hR s.heap.size ) (cwV 0 hts gX12_read_X12_busy rfl rfl rfl (by decide +kernel) ⟨(Nat.le_of_ble_eq_true rfl), (Nat.le_of_ble_eq_true rfl)⟩) (x_preV (q := (RX12, TX12, 86)) hH hK (q_obj (by decide) (rfl : kd 36 = 12) (by decide)) rfl gxb (gxw hE hS (x_F hH hS hA))) rfl rfl hl.1 rfl (lv_room (Nat.le_of_ble_eq_true rfl)) dX12_read_1 ⟨(Nat.le_of_ble_eq_true rfl), (Nat.le_of_ble_eq_true rfl)⟩) hH hS hA rfl rfl (fun r_1 im_3 H locs hw_2 hH hS => ?_)
  have hH : sj_H D A (hwc g ka im_3 r L d) H := hH
  obtain ⟨hO_5, hfr_4, hr_6, he_7⟩ := hw_2
  have hr_6 : (0 : Int) ≤ r_1.toInt ∧ r_1.toInt ≤ 1 := hr_6
  refine lv_if_eq (tgt := 9) hx hb dX12_read_4 (by decide) (fun _ => ?_) (fun h => absurd (p_eq (rfl : r_1.toInt = _) (show (0 : Int32).toInt = 0 from rfl) (by omega)) h)
  refine lv_aload_n hx hb dX12_read_9 rfl (lv_at hl 0 rfl) ?_
  refine x_callv (va_runV (As := []) (rest := []) ⟨hx, hb, hml, hown, hts⟩ (m_forget l D g ka ad im_3 r L d  hO_5 hR H.size ) (cwV 0 hts gX12_read_X12_forget rfl rfl rfl (by decide +kernel) ⟨(Nat.le_of_ble_eq_true rfl), (Nat.le_of_ble_eq_true rfl)⟩) (x_preV (q := (RX12, TX12, 86)) hH hK (q_obj (by decide) (rfl : kd 36 = 12) (by decide)) rfl gxb (gxw hE hS (x_F hH hS hA))) rfl rfl hl.1 rfl (lv_room (Nat.le_of_ble_eq_true rfl)) dX12_read_10 ⟨(Nat.le_of_ble_eq_true rfl), (Nat.le_of_ble_eq_true rfl)⟩) hH hS hA rfl rfl (fun im_10 H locs hw_9 hH hS => ?_)
  have hH : sj_H D A (hwc g ka im_10 r L d) H := hH
  obtain ⟨hO_12, hfr_11, hx2_13⟩ := hw_9
  refine lv_iconst (v := 0) hx hb dX12_read_13 (by decide) ?_
  refine lv_istore_n (lv' := [(1, .int 0), (0, .ref (g 36))]) hx hb dX12_read_14 rfl hl (by decide) rfl (fun ls hl => ?_)
  refine lv_iconst (v := 0) hx hb dX12_read_15 (by decide) ?_
  refine lv_istore_n (lv' := [(2, .int 0), (1, .int 0), (0, .ref (g 36))]) hx hb dX12_read_16 rfl hl (by decide) rfl (fun ls hl => ?_)
  refine lv_iconst (v := 0) hx hb dX12_read_17 (by decide) ?_
  refine lv_istore_n (lv' := [(3, .int 0), (2, .int 0), (1, .int 0), (0, .ref (g 36))]) hx hb dX12_read_18 rfl hl (by decide) rfl (fun ls hl => ?_)
  -- loop at 19
  have lp_14 : ∀ (fuel_lp_14 : Nat) (u : Int32) (v9 : Int32) (f : Int32) (j1 : Nat → Nat → Int32) (H : Heap) (locs : List Loc) (ls : Array Slot), (481 - f.toInt).toNat < fuel_lp_14 → (0 : Int) ≤ u.toInt ∧ u.toInt ≤ 481 → (0 : Int) ≤ v9.toInt ∧ v9.toInt ≤ 481 → (0 : Int) ≤ f.toInt ∧ f.toInt ≤ 481 → f.toInt ≤ (i 36 2).toInt + 1 → u.toInt + 1 = (lnF T (i 36 2).toInt.toNat f.toInt.toNat : Int) → v9.toInt = (frF T (i 36 2).toInt.toNat f.toInt.toNat : Int) → MRQ j1 (qs f.toInt.toNat).1 (qs f.toInt.toNat).2.2 → (u.toInt = 0 ∧ ((qs f.toInt.toNat).1 3 1).toInt = 0) ∨ (1 ≤ u.toInt ∧ (j1 36 7).toInt = ((qs f.toInt.toNat).1 3 1).toInt) → OkI j1 → (∀ a b, ¬ ((a = 36 ∧ (b = 4 ∨ b = 6 ∨ b = 7 ∨ b = 8 ∨ b = 9 ∨ b = 10 ∨ b = 11 ∨ b = 13 ∨ b = 17 ∨ b = 18 ∨ b = 23 ∨ b = 26 ∨ b = 27)) ∨ a = 380 ∨ a = 381 ∨ a = 382 ∨ a = 383 ∨ a = 384 ∨ a = 385 ∨ a = 386 ∨ a = 387 ∨ a = 388 ∨ a = 389 ∨ a = 390 ∨ a = 391 ∨ a = 392 ∨ a = 393 ∨ a = 394 ∨ a = 395 ∨ a = 396) → j1 a b = im_10 a b) → lv_has ls 5 [(3, .int f), (2, .int v9), (1, .int u), (0, .ref (g 36))] → sj_H D A (hwc g ka j1 r L d) H → va_S A s.heap H locs → W p l e (headSpec wsX12_read ({ frames := 4, cells := 0, slots := 0, locals := 97 })).room s m ([.ref (g 36)] : List Value).toArray below meth c H locs 0 0 (MQ below (sj_Qi (S := (Nat → Nat → Int32)) D (fun v u => OkI u ∧ (∀ a b, ¬ ((a = 36 ∧ (b = 0 ∨ b = 2 ∨ b = 4 ∨ b = 6 ∨ b = 7 ∨ b = 8 ∨ b = 9 ∨ b = 10 ∨ b = 11 ∨ b = 13 ∨ b = 17 ∨ b = 18 ∨ b = 23 ∨ b = 26 ∨ b = 27 ∨ b = 33)) ∨ a = 380 ∨ a = 381 ∨ a = 382 ∨ a = 383 ∨ a = 384 ∨ a = 385 ∨ a = 386 ∨ a = 387 ∨ a = 388 ∨ a = 389 ∨ a = 390 ∨ a = 391 ∨ a = 392 ∨ a = 393 ∨ a = 394 ∨ a = 395 ∨ a = 396 ∨ a = 397 ∨ a = 398 ∨ a = 399 ∨ a = 400 ∨ a = 401) → u a b = i a b) ∧ ((0 : Int) ≤ v.toInt ∧ v.toInt ≤ 20) ∧ ((u 36 2).toInt = 0) ∧ (MRQ u c2 (qs ((i 36 2).toInt.toNat + 1)).2.2 ∧ mcP u (if 0 < (c2 3 4).toInt then [] else (csA c2 (c2 3 8).toInt.toNat).take 24)) ∧ (NR u)) (fun u => hwc g ka u r L d) (fun _ => []) A) ([.ref (g 36)] : List Value).toArray s 0 0 A) (F0 m 19 ls []) := by
    intro fuel_lp_14
    induction fuel_lp_14 with
    | zero => intros; omega
    | succ fuel_lp_14 ih_lp_14 =>
      intro u v9 f j1 H locs ls hm hr_u hr_v9 hr_f hi_lp_14_0 hi_lp_14_1 hi_lp_14_2 hi_lp_14_3 hi_lp_14_4 hO_j1 hfr_j1 hl hH hS
      have hI2 := hi_lp_14_2
      have hI1 := hi_lp_14_1
      have hI4 := hi_lp_14_4
      have hfk : f.toInt = ((f.toInt.toNat : Nat) : Int) := by omega
      have hfle := frF_le T (i 36 2).toInt.toNat f.toInt.toNat
      have hlle := lnF_le T (i 36 2).toInt.toNat f.toInt.toNat
      refine lv_iload_n hx hb dX12_read_19 rfl (lv_at hl 0 rfl) ?_
      refine lv_aload_n hx hb dX12_read_20 rfl (lv_at hl 3 rfl) ?_
      have bx_15 : (0 : Int) ≤ (i 36 2).toInt ∧ (i 36 2).toInt ≤ 480 := hO 36 2
      refine h_geti (ci := 12) (C := RX12) (F := TX12) (N := 86) hx hb hts in12 hown hK hH (by decide) (rfl : kd 36 = 12) (by decide) rfl 2 (by decide) wd0 (fun _ h9 => h9) (by decide) rfl dX12_read_21 ?_
      refine sj_i (y := (i 36 2)) ((hfr_j1 36 2 (by omega)).trans ((hfr_11 36 2 (by omega)).trans (hfr_4 36 2 (by omega)))) ?_
      refine lv_icmp_gt (tgt := 128) hx hb dX12_read_24 (by decide) (fun c_16 => ?_) (fun c_16 => ?_)
      · skip
        have h_17 := s_lt (rfl : (i 36 2).toInt = _) (rfl : f.toInt = _) c_16
        have hke : f.toInt.toNat = (i 36 2).toInt.toNat + 1 := by omega
        have hM0 := hi_lp_14_3
        rw [hke] at hM0
        have hu9 := hi_lp_14_1
        rw [hke] at hu9
        obtain ⟨i2, h6, h7⟩ := hen
        have hb04 := (rd_bx (hqO _ (Nat.le_refl _)).1).2.2.2.2.2.2.2.1
        have hc04 : 0 ≤ ((qs ((i 36 2).toInt.toNat + 1)).1 3 4).toInt := hb04.1
        have hb06 := (rd_bx (hqO _ (Nat.le_refl _)).1).1
        have hN0 := hM0.2.2.1
        have hW0 := hM0.2.1
        refine lv_aload_n hx hb dX12_read_128 rfl (lv_at hl 3 rfl) ?_
        refine lv_iconst (v := 0) hx hb dX12_read_129 (by decide) ?_
        have hO_18 := okp hO_j1 (n := 36) (k := 2) (v := 0) (show (0 : Int) ≤ (0 : Int32).toInt ∧ (0 : Int32).toInt ≤ 480 from ⟨by decide, by decide⟩)
        refine h_puti (ty := .int) (ci := 12) (C := RX12) (F := TX12) (N := 86) hx hb hts in12 tyX12 tyX12_ok nmX12 hown hK hH hS (by decide) (rfl : kd 36 = 12) (by decide) rfl 2 (by decide) wd0 (fun _ h9 => h9) rfl (by decide +kernel) rfl rfl (by decide) rfl dX12_read_130 (fun H locs hH hS => ?_)
        refine lv_aload_n hx hb dX12_read_133 rfl (lv_at hl 3 rfl) ?_
        have bx_19 : (0 : Int) ≤ (j1 36 11).toInt ∧ (j1 36 11).toInt ≤ 5 := hO_j1 36 11
        refine h_geti (ci := 12) (C := RX12) (F := TX12) (N := 86) hx hb hts in12 hown hK hH (by decide) (rfl : kd 36 = 12) (by decide) rfl 11 (by decide) wd1 (fun _ h9 => h9) (by decide) rfl dX12_read_134 ?_
        refine sj_i (y := (j1 36 11)) (up2_k _ _ (by decide)) ?_
        refine lv_if_ne (tgt := 149) hx hb dX12_read_137 (by decide) (fun c_20 => ?_) (fun c_20 => ?_)
        · skip
          have h_21 := s_ne (rfl : (j1 36 11).toInt = _) (show (0 : Int32).toInt = 0 from rfl) c_20
          have hM1 : MRQ (up2 j1 36 2 0) (qs ((i 36 2).toInt.toNat + 1)).1 (qs ((i 36 2).toInt.toNat + 1)).2.2 := (MRQ_fr hM0 (fun b h1 h2 h3 => (up2_o _ _ (by omega))) (fun a h1 h2 => funext fun b => (up2_o _ _ (by omega))))
          unfold mqN at hN0
          have h6b := (h6.resolve_left (fun q => by have := q.1; omega)).2
          have hM2 : MRQ (up2 j1 36 2 0) i2 (qs ((i 36 2).toInt.toNat + 1)).2.2 := by rw [h6b]; exact hM1
          have hc04b : 0 ≤ (i2 3 4).toInt := by rw [h6b]; exact hc04
          refine lv_aload_n hx hb dX12_read_149 rfl (lv_at hl 3 rfl) ?_
          have bx_22 : (0 : Int) ≤ (j1 36 10).toInt ∧ (j1 36 10).toInt ≤ 1 := hO_j1 36 10
          refine h_geti (ci := 12) (C := RX12) (F := TX12) (N := 86) hx hb hts in12 hown hK hH (by decide) (rfl : kd 36 = 12) (by decide) rfl 10 (by decide) wd2 (fun _ h9 => h9) (by decide) rfl dX12_read_150 ?_
          refine sj_i (y := (j1 36 10)) (up2_k _ _ (by decide)) ?_
          refine lv_if_eq (tgt := 165) hx hb dX12_read_153 (by decide) (fun c_23 => ?_) (fun c_23 => ?_)
          · skip
            have h_24 := s_eq (rfl : (j1 36 10).toInt = _) (show (0 : Int32).toInt = 0 from rfl) c_23
            have hW2 := hM2.2.1
            unfold mqW at hW2
            have hp_25 : ((up2 j1 36 2 0) 36 10).toInt = ((j1 36 10) : Int32).toInt := congrArg Int32.toInt ((up2_k _ _ (by decide)))
            have h7b := (h7.resolve_left (fun q => by have := q.1; omega)).2
            have hM3 : MRQ (up2 j1 36 2 0) c2 (qs ((i 36 2).toInt.toNat + 1)).2.2 := by rw [h7b]; exact hM2
            refine lv_aload_n hx hb dX12_read_165 rfl (lv_at hl 3 rfl) ?_
            have bx_26 : (0 : Int) ≤ (j1 36 6).toInt ∧ (j1 36 6).toInt ≤ 20 := hO_j1 36 6
            refine h_geti (ci := 12) (C := RX12) (F := TX12) (N := 86) hx hb hts in12 hown hK hH (by decide) (rfl : kd 36 = 12) (by decide) rfl 6 (by decide) wd3 (fun _ h9 => h9) (by decide) rfl dX12_read_166 ?_
            refine sj_i (y := (j1 36 6)) (up2_k _ _ (by decide)) ?_
            refine lv_if_ne (tgt := 176) hx hb dX12_read_169 (by decide) (fun c_27 => ?_) (fun c_27 => ?_)
            · skip
              have h_28 := s_ne (rfl : (j1 36 6).toInt = _) (show (0 : Int32).toInt = 0 from rfl) c_27
              refine lv_aload_n hx hb dX12_read_176 rfl (lv_at hl 3 rfl) ?_
              refine h_geti (ci := 12) (C := RX12) (F := TX12) (N := 86) hx hb hts in12 hown hK hH (by decide) (rfl : kd 36 = 12) (by decide) rfl 6 (by decide) wd3 (fun _ h9 => h9) (by decide) rfl dX12_read_177 ?_
              refine sj_i (y := (j1 36 6)) (up2_k _ _ (by decide)) ?_
              have hp_29 : ((up2 j1 36 2 0) 36 2).toInt = (0 : Int32).toInt := congrArg Int32.toInt ((up2_at _ _ _ _))
              have hl_30 : (0 : Int32).toInt = 0 := rfl
              have hV_31 : ((up2 j1 36 2 0) 36 2).toInt = 0 := (by omega)
              have hwr := hM3.1.1
              have hp_32 : ((up2 j1 36 2 0) 36 33).toInt = ((im_10 36 33) : Int32).toInt := congrArg Int32.toInt (((up2_k _ _ (by decide)).trans (hfr_j1 36 33 (by omega))))
              have hp_33 : ((up2 j1 36 2 0) 36 6).toInt = ((j1 36 6) : Int32).toInt := congrArg Int32.toInt ((up2_k _ _ (by decide)))
              have hV_34 : MRQ (up2 j1 36 2 0) c2 (qs ((i 36 2).toInt.toNat + 1)).2.2 ∧ mcP (up2 j1 36 2 0) (if 0 < (c2 3 4).toInt then [] else (csA c2 (c2 3 8).toInt.toNat).take 24) := ⟨hM3, (by rw [if_pos (by omega)]; exact ⟨by rw [List.length_nil]; omega, fun c s t h => by simp at h⟩)⟩
              have hV_35 : NR (up2 j1 36 2 0) := (NR_fr hnr (funext fun b9 => ((up2_o _ _ (by omega)).trans ((hfr_j1 399 b9 (by omega)).trans ((hfr_11 399 b9 (by omega)).trans (hfr_4 399 b9 (by omega)))))) (funext fun b9 => ((up2_o _ _ (by omega)).trans ((hfr_j1 398 b9 (by omega)).trans ((hfr_11 398 b9 (by omega)).trans (hfr_4 398 b9 (by omega)))))))
              exact sj_zret hx hb hr hlocks rfl hS (up2 j1 36 2 0) ⟨hO_18, (fun a b ha => ((up2_o _ _ (by omega)).trans ((hfr_j1 a b (by omega)).trans ((hfr_11 a b (by omega)).trans (hfr_4 a b (by omega)))))), ⟨by omega, by omega⟩, hV_31, hV_34, hV_35⟩ hH (sj_Knil hK) (Nat.le_of_ble_eq_true rfl) (Nat.le_of_ble_eq_true rfl) dX12_read_180
            · skip
              have h_36 := s_eq (rfl : (j1 36 6).toInt = _) (show (0 : Int32).toInt = 0 from rfl) c_27
              refine lv_aload_n hx hb dX12_read_172 rfl (lv_at hl 3 rfl) ?_
              have hwt_37 : ((up2 j1 36 2 0) 36 33).toInt = ((im_10 36 33) : Int32).toInt := congrArg Int32.toInt ((up2_k _ _ (by decide)).trans (hfr_j1 36 33 (by omega)))
              refine x_callv (va_runV (As := []) (rest := []) ⟨hx, hb, hml, hown, hts⟩ (m_findCases l D g ka ad (up2 j1 36 2 0) r L d c2 ((qs ((i 36 2).toInt.toNat + 1)).2.1) ((qs ((i 36 2).toInt.toNat + 1)).2.2) hO_18 hR H.size hc2 hM3 (by omega) (NR_fr hnr (funext fun b9 => ((up2_o _ _ (by omega)).trans ((hfr_j1 399 b9 (by omega)).trans ((hfr_11 399 b9 (by omega)).trans (hfr_4 399 b9 (by omega)))))) (funext fun b9 => ((up2_o _ _ (by omega)).trans ((hfr_j1 398 b9 (by omega)).trans ((hfr_11 398 b9 (by omega)).trans (hfr_4 398 b9 (by omega)))))))) (cwV 0 hts gX12_read_X12_findCases rfl rfl rfl (by decide +kernel) ⟨(Nat.le_of_ble_eq_true rfl), (Nat.le_of_ble_eq_true rfl)⟩) (x_preV (q := (RX12, TX12, 86)) hH hK (q_obj (by decide) (rfl : kd 36 = 12) (by decide)) rfl gxb (gxw hE hS (x_F hH hS hA))) rfl rfl hl.1 rfl (lv_room (Nat.le_of_ble_eq_true rfl)) dX12_read_173 ⟨(Nat.le_of_ble_eq_true rfl), (Nat.le_of_ble_eq_true rfl)⟩) hH hS hA rfl rfl (fun im_40 H locs hw_39 hH hS => ?_)
              have hH : sj_H D A (hwc g ka im_40 r L d) H := hH
              obtain ⟨hO_42, hfr_41, hx2_43, hx2_44⟩ := hw_39
              have hmc := hx2_43
              have hnr2 := hx2_44
              refine lv_aload_n hx hb dX12_read_176 rfl (lv_at hl 3 rfl) ?_
              refine h_geti (ci := 12) (C := RX12) (F := TX12) (N := 86) hx hb hts in12 hown hK hH (by decide) (rfl : kd 36 = 12) (by decide) rfl 6 (by decide) wd3 (fun _ h9 => h9) (by decide) rfl dX12_read_177 ?_
              refine sj_i (y := (j1 36 6)) ((hfr_41 36 6 (by omega)).trans (up2_k _ _ (by decide))) ?_
              have hp_45 : (im_40 36 2).toInt = (0 : Int32).toInt := congrArg Int32.toInt (((hfr_41 36 2 (by omega)).trans (up2_at _ _ _ _)))
              have hl_46 : (0 : Int32).toInt = 0 := rfl
              have hV_47 : (im_40 36 2).toInt = 0 := (by omega)
              have hwr := hM3.1.1
              have hwr2 : ((up2 j1 36 2 0) 36 6).toInt = ((j1 36 6) : Int32).toInt := congrArg Int32.toInt ((up2_k _ _ (by decide)))
              have hV_48 : MRQ im_40 c2 (qs ((i 36 2).toInt.toNat + 1)).2.2 ∧ mcP im_40 (if 0 < (c2 3 4).toInt then [] else (csA c2 (c2 3 8).toInt.toNat).take 24) := ⟨(MRQ_fr hM3 (fun b h1 h2 h3 => (hfr_41 36 b (by omega))) (fun a h1 h2 => funext fun b => (hfr_41 a b (by omega)))), (by rw [if_neg (by omega)]; exact hmc)⟩
              have hV_49 : NR im_40 := hnr2
              exact sj_zret hx hb hr hlocks rfl hS im_40 ⟨hO_42, (fun a b ha => ((hfr_41 a b (by omega)).trans ((up2_o _ _ (by omega)).trans ((hfr_j1 a b (by omega)).trans ((hfr_11 a b (by omega)).trans (hfr_4 a b (by omega))))))), ⟨by omega, by omega⟩, hV_47, hV_48, hV_49⟩ hH (sj_Knil hK) (Nat.le_of_ble_eq_true rfl) (Nat.le_of_ble_eq_true rfl) dX12_read_180
          · skip
            have h_50 := s_ne (rfl : (j1 36 10).toInt = _) (show (0 : Int32).toInt = 0 from rfl) c_23
            have hW2 := hM2.2.1
            unfold mqW at hW2
            have hp_51 : ((up2 j1 36 2 0) 36 10).toInt = ((j1 36 10) : Int32).toInt := congrArg Int32.toInt ((up2_k _ _ (by decide)))
            have h7a := h7.resolve_right (fun q => by have := q.1; omega)
            refine lv_aload_n hx hb dX12_read_156 rfl (lv_at hl 3 rfl) ?_
            refine lv_iload_n hx hb dX12_read_157 rfl (lv_at hl 2 rfl) ?_
            refine lv_iconst (v := 1) hx hb dX12_read_158 (by decide) ?_
            refine lv_iadd hx hb dX12_read_159 ?_
            obtain ⟨z_52, ez_52, hz_52⟩ := s_add (rfl : u.toInt = _) (show (1 : Int32).toInt = 1 from rfl) (by omega) (by omega)
            refine sj_i ez_52 ?_
            refine lv_bipush (v := 7) hx hb dX12_read_160 (by decide) ?_
            have hl_53 : (7 : Int32).toInt = 7 := rfl
            refine x_callv (va_runV (As := [.int z_52, .int 7]) (rest := []) ⟨hx, hb, hml, hown, hts⟩ (m_note l D g ka ad (up2 j1 36 2 0) r L d z_52 7 hO_18 hR H.size ) (cwV 2 hts gX12_read_X12_note rfl rfl rfl (by decide +kernel) ⟨(Nat.le_of_ble_eq_true rfl), (Nat.le_of_ble_eq_true rfl)⟩) (x_preV (q := (RX12, TX12, 86)) hH hK (q_obj (by decide) (rfl : kd 36 = 12) (by decide)) rfl gxb (gxw hE hS (x_F hH hS hA))) rfl rfl hl.1 rfl (lv_room (Nat.le_of_ble_eq_true rfl)) dX12_read_162 ⟨(Nat.le_of_ble_eq_true rfl), (Nat.le_of_ble_eq_true rfl)⟩) hH hS hA rfl rfl (fun im_56 H locs hw_55 hH hS => ?_)
            have hH : sj_H D A (hwc g ka im_56 r L d) H := hH
            obtain ⟨hO_58, hfr_57, hx2_59⟩ := hw_55
            have hno7 := hx2_59
            have hM3 : MRQ im_56 c2 (qs ((i 36 2).toInt.toNat + 1)).2.2 := MRQ_er hM2 h7a.2 (by rw [show (((lnF T (i 36 2).toInt.toNat ((i 36 2).toInt.toNat + 1)) : Nat) : Int) = z_52.toInt by omega]; exact hno7) hc04b (hqO _ (Nat.le_refl _)).2.1.2.2.1
            refine lv_aload_n hx hb dX12_read_165 rfl (lv_at hl 3 rfl) ?_
            have bx_60 : (0 : Int) ≤ (im_56 36 6).toInt ∧ (im_56 36 6).toInt ≤ 20 := hO_58 36 6
            refine h_geti (ci := 12) (C := RX12) (F := TX12) (N := 86) hx hb hts in12 hown hK hH (by decide) (rfl : kd 36 = 12) (by decide) rfl 6 (by decide) wd3 (fun _ h9 => h9) (by decide) rfl dX12_read_166 ?_
            refine lv_if_ne (tgt := 176) hx hb dX12_read_169 (by decide) (fun c_61 => ?_) (fun c_61 => ?_)
            · skip
              have h_62 := s_ne (rfl : (im_56 36 6).toInt = _) (show (0 : Int32).toInt = 0 from rfl) c_61
              refine lv_aload_n hx hb dX12_read_176 rfl (lv_at hl 3 rfl) ?_
              refine h_geti (ci := 12) (C := RX12) (F := TX12) (N := 86) hx hb hts in12 hown hK hH (by decide) (rfl : kd 36 = 12) (by decide) rfl 6 (by decide) wd3 (fun _ h9 => h9) (by decide) rfl dX12_read_177 ?_
              have hp_63 : (im_56 36 2).toInt = (0 : Int32).toInt := congrArg Int32.toInt (((hfr_57 36 2 (by omega)).trans (up2_at _ _ _ _)))
              have hl_64 : (0 : Int32).toInt = 0 := rfl
              have hV_65 : (im_56 36 2).toInt = 0 := (by omega)
              have hwr := hM3.1.1
              have hp_66 : (im_56 36 33).toInt = ((im_10 36 33) : Int32).toInt := congrArg Int32.toInt (((hfr_57 36 33 (by omega)).trans ((up2_k _ _ (by decide)).trans (hfr_j1 36 33 (by omega)))))
              have hp_67 : (im_56 36 6).toInt = ((im_56 36 6) : Int32).toInt := rfl
              have hV_68 : MRQ im_56 c2 (qs ((i 36 2).toInt.toNat + 1)).2.2 ∧ mcP im_56 (if 0 < (c2 3 4).toInt then [] else (csA c2 (c2 3 8).toInt.toNat).take 24) := ⟨hM3, (by rw [if_pos (by omega)]; exact ⟨by rw [List.length_nil]; omega, fun c s t h => by simp at h⟩)⟩
              have hV_69 : NR im_56 := (NR_fr hnr (funext fun b9 => ((hfr_57 399 b9 (by omega)).trans ((up2_o _ _ (by omega)).trans ((hfr_j1 399 b9 (by omega)).trans ((hfr_11 399 b9 (by omega)).trans (hfr_4 399 b9 (by omega))))))) (funext fun b9 => ((hfr_57 398 b9 (by omega)).trans ((up2_o _ _ (by omega)).trans ((hfr_j1 398 b9 (by omega)).trans ((hfr_11 398 b9 (by omega)).trans (hfr_4 398 b9 (by omega))))))))
              exact sj_zret hx hb hr hlocks rfl hS im_56 ⟨hO_58, (fun a b ha => ((hfr_57 a b (by omega)).trans ((up2_o _ _ (by omega)).trans ((hfr_j1 a b (by omega)).trans ((hfr_11 a b (by omega)).trans (hfr_4 a b (by omega))))))), ⟨by omega, by omega⟩, hV_65, hV_68, hV_69⟩ hH (sj_Knil hK) (Nat.le_of_ble_eq_true rfl) (Nat.le_of_ble_eq_true rfl) dX12_read_180
            · skip
              have h_70 := s_eq (rfl : (im_56 36 6).toInt = _) (show (0 : Int32).toInt = 0 from rfl) c_61
              refine lv_aload_n hx hb dX12_read_172 rfl (lv_at hl 3 rfl) ?_
              have hwt_71 : (im_56 36 33).toInt = ((im_10 36 33) : Int32).toInt := congrArg Int32.toInt ((hfr_57 36 33 (by omega)).trans ((up2_k _ _ (by decide)).trans (hfr_j1 36 33 (by omega))))
              refine x_callv (va_runV (As := []) (rest := []) ⟨hx, hb, hml, hown, hts⟩ (m_findCases l D g ka ad im_56 r L d c2 ((qs ((i 36 2).toInt.toNat + 1)).2.1) ((qs ((i 36 2).toInt.toNat + 1)).2.2) hO_58 hR H.size hc2 hM3 (by omega) (NR_fr hnr (funext fun b9 => ((hfr_57 399 b9 (by omega)).trans ((up2_o _ _ (by omega)).trans ((hfr_j1 399 b9 (by omega)).trans ((hfr_11 399 b9 (by omega)).trans (hfr_4 399 b9 (by omega))))))) (funext fun b9 => ((hfr_57 398 b9 (by omega)).trans ((up2_o _ _ (by omega)).trans ((hfr_j1 398 b9 (by omega)).trans ((hfr_11 398 b9 (by omega)).trans (hfr_4 398 b9 (by omega))))))))) (cwV 0 hts gX12_read_X12_findCases rfl rfl rfl (by decide +kernel) ⟨(Nat.le_of_ble_eq_true rfl), (Nat.le_of_ble_eq_true rfl)⟩) (x_preV (q := (RX12, TX12, 86)) hH hK (q_obj (by decide) (rfl : kd 36 = 12) (by decide)) rfl gxb (gxw hE hS (x_F hH hS hA))) rfl rfl hl.1 rfl (lv_room (Nat.le_of_ble_eq_true rfl)) dX12_read_173 ⟨(Nat.le_of_ble_eq_true rfl), (Nat.le_of_ble_eq_true rfl)⟩) hH hS hA rfl rfl (fun im_74 H locs hw_73 hH hS => ?_)
              have hH : sj_H D A (hwc g ka im_74 r L d) H := hH
              obtain ⟨hO_76, hfr_75, hx2_77, hx2_78⟩ := hw_73
              have hmc := hx2_77
              have hnr2 := hx2_78
              refine lv_aload_n hx hb dX12_read_176 rfl (lv_at hl 3 rfl) ?_
              refine h_geti (ci := 12) (C := RX12) (F := TX12) (N := 86) hx hb hts in12 hown hK hH (by decide) (rfl : kd 36 = 12) (by decide) rfl 6 (by decide) wd3 (fun _ h9 => h9) (by decide) rfl dX12_read_177 ?_
              refine sj_i (y := (im_56 36 6)) (hfr_75 36 6 (by omega)) ?_
              have hp_79 : (im_74 36 2).toInt = (0 : Int32).toInt := congrArg Int32.toInt (((hfr_75 36 2 (by omega)).trans ((hfr_57 36 2 (by omega)).trans (up2_at _ _ _ _))))
              have hl_80 : (0 : Int32).toInt = 0 := rfl
              have hV_81 : (im_74 36 2).toInt = 0 := (by omega)
              have hwr := hM3.1.1
              have hwr2 : (im_56 36 6).toInt = ((im_56 36 6) : Int32).toInt := rfl
              have hV_82 : MRQ im_74 c2 (qs ((i 36 2).toInt.toNat + 1)).2.2 ∧ mcP im_74 (if 0 < (c2 3 4).toInt then [] else (csA c2 (c2 3 8).toInt.toNat).take 24) := ⟨(MRQ_fr hM3 (fun b h1 h2 h3 => (hfr_75 36 b (by omega))) (fun a h1 h2 => funext fun b => (hfr_75 a b (by omega)))), (by rw [if_neg (by omega)]; exact hmc)⟩
              have hV_83 : NR im_74 := hnr2
              exact sj_zret hx hb hr hlocks rfl hS im_74 ⟨hO_76, (fun a b ha => ((hfr_75 a b (by omega)).trans ((hfr_57 a b (by omega)).trans ((up2_o _ _ (by omega)).trans ((hfr_j1 a b (by omega)).trans ((hfr_11 a b (by omega)).trans (hfr_4 a b (by omega)))))))), ⟨by omega, by omega⟩, hV_81, hV_82, hV_83⟩ hH (sj_Knil hK) (Nat.le_of_ble_eq_true rfl) (Nat.le_of_ble_eq_true rfl) dX12_read_180
        · skip
          have h_84 := s_eq (rfl : (j1 36 11).toInt = _) (show (0 : Int32).toInt = 0 from rfl) c_20
          have hM1 : MRQ (up2 j1 36 2 0) (qs ((i 36 2).toInt.toNat + 1)).1 (qs ((i 36 2).toInt.toNat + 1)).2.2 := (MRQ_fr hM0 (fun b h1 h2 h3 => (up2_o _ _ (by omega))) (fun a h1 h2 => funext fun b => (up2_o _ _ (by omega))))
          unfold mqN at hN0
          have h6a := h6.resolve_right (fun q => by have := q.1; omega)
          refine lv_aload_n hx hb dX12_read_140 rfl (lv_at hl 3 rfl) ?_
          refine lv_iload_n hx hb dX12_read_141 rfl (lv_at hl 2 rfl) ?_
          refine lv_iconst (v := 1) hx hb dX12_read_142 (by decide) ?_
          refine lv_iadd hx hb dX12_read_143 ?_
          obtain ⟨z_85, ez_85, hz_85⟩ := s_add (rfl : u.toInt = _) (show (1 : Int32).toInt = 1 from rfl) (by omega) (by omega)
          refine sj_i ez_85 ?_
          refine lv_bipush (v := 6) hx hb dX12_read_144 (by decide) ?_
          have hl_86 : (6 : Int32).toInt = 6 := rfl
          refine x_callv (va_runV (As := [.int z_85, .int 6]) (rest := []) ⟨hx, hb, hml, hown, hts⟩ (m_note l D g ka ad (up2 j1 36 2 0) r L d z_85 6 hO_18 hR H.size ) (cwV 2 hts gX12_read_X12_note rfl rfl rfl (by decide +kernel) ⟨(Nat.le_of_ble_eq_true rfl), (Nat.le_of_ble_eq_true rfl)⟩) (x_preV (q := (RX12, TX12, 86)) hH hK (q_obj (by decide) (rfl : kd 36 = 12) (by decide)) rfl gxb (gxw hE hS (x_F hH hS hA))) rfl rfl hl.1 rfl (lv_room (Nat.le_of_ble_eq_true rfl)) dX12_read_146 ⟨(Nat.le_of_ble_eq_true rfl), (Nat.le_of_ble_eq_true rfl)⟩) hH hS hA rfl rfl (fun im_89 H locs hw_88 hH hS => ?_)
          have hH : sj_H D A (hwc g ka im_89 r L d) H := hH
          obtain ⟨hO_91, hfr_90, hx2_92⟩ := hw_88
          have hno6 := hx2_92
          have hM2 : MRQ im_89 i2 (qs ((i 36 2).toInt.toNat + 1)).2.2 := MRQ_er hM1 h6a.2 (by rw [show (((lnF T (i 36 2).toInt.toNat ((i 36 2).toInt.toNat + 1)) : Nat) : Int) = z_85.toInt by omega]; exact hno6) hc04 (hqO _ (Nat.le_refl _)).2.1.2.2.1
          refine lv_aload_n hx hb dX12_read_149 rfl (lv_at hl 3 rfl) ?_
          have bx_93 : (0 : Int) ≤ (j1 36 10).toInt ∧ (j1 36 10).toInt ≤ 1 := hO_j1 36 10
          refine h_geti (ci := 12) (C := RX12) (F := TX12) (N := 86) hx hb hts in12 hown hK hH (by decide) (rfl : kd 36 = 12) (by decide) rfl 10 (by decide) wd2 (fun _ h9 => h9) (by decide) rfl dX12_read_150 ?_
          refine sj_i (y := (j1 36 10)) ((hfr_90 36 10 (by omega)).trans (up2_k _ _ (by decide))) ?_
          refine lv_if_eq (tgt := 165) hx hb dX12_read_153 (by decide) (fun c_94 => ?_) (fun c_94 => ?_)
          · skip
            have h_95 := s_eq (rfl : (j1 36 10).toInt = _) (show (0 : Int32).toInt = 0 from rfl) c_94
            have hc04b : 0 ≤ (i2 3 4).toInt := addE_0 hc04 h6a.2
            have hW2 := hM2.2.1
            unfold mqW at hW2
            have hp_96 : (im_89 36 10).toInt = ((j1 36 10) : Int32).toInt := congrArg Int32.toInt (((hfr_90 36 10 (by omega)).trans (up2_k _ _ (by decide))))
            have h7b := (h7.resolve_left (fun q => by have := q.1; omega)).2
            have hM3 : MRQ im_89 c2 (qs ((i 36 2).toInt.toNat + 1)).2.2 := by rw [h7b]; exact hM2
            refine lv_aload_n hx hb dX12_read_165 rfl (lv_at hl 3 rfl) ?_
            have bx_97 : (0 : Int) ≤ (im_89 36 6).toInt ∧ (im_89 36 6).toInt ≤ 20 := hO_91 36 6
            refine h_geti (ci := 12) (C := RX12) (F := TX12) (N := 86) hx hb hts in12 hown hK hH (by decide) (rfl : kd 36 = 12) (by decide) rfl 6 (by decide) wd3 (fun _ h9 => h9) (by decide) rfl dX12_read_166 ?_
            refine lv_if_ne (tgt := 176) hx hb dX12_read_169 (by decide) (fun c_98 => ?_) (fun c_98 => ?_)
            · skip
              have h_99 := s_ne (rfl : (im_89 36 6).toInt = _) (show (0 : Int32).toInt = 0 from rfl) c_98
              refine lv_aload_n hx hb dX12_read_176 rfl (lv_at hl 3 rfl) ?_
              refine h_geti (ci := 12) (C := RX12) (F := TX12) (N := 86) hx hb hts in12 hown hK hH (by decide) (rfl : kd 36 = 12) (by decide) rfl 6 (by decide) wd3 (fun _ h9 => h9) (by decide) rfl dX12_read_177 ?_
              have hp_100 : (im_89 36 2).toInt = (0 : Int32).toInt := congrArg Int32.toInt (((hfr_90 36 2 (by omega)).trans (up2_at _ _ _ _)))
              have hl_101 : (0 : Int32).toInt = 0 := rfl
              have hV_102 : (im_89 36 2).toInt = 0 := (by omega)
              have hwr := hM3.1.1
              have hp_103 : (im_89 36 33).toInt = ((im_10 36 33) : Int32).toInt := congrArg Int32.toInt (((hfr_90 36 33 (by omega)).trans ((up2_k _ _ (by decide)).trans (hfr_j1 36 33 (by omega)))))
              have hp_104 : (im_89 36 6).toInt = ((im_89 36 6) : Int32).toInt := rfl
              have hV_105 : MRQ im_89 c2 (qs ((i 36 2).toInt.toNat + 1)).2.2 ∧ mcP im_89 (if 0 < (c2 3 4).toInt then [] else (csA c2 (c2 3 8).toInt.toNat).take 24) := ⟨hM3, (by rw [if_pos (by omega)]; exact ⟨by rw [List.length_nil]; omega, fun c s t h => by simp at h⟩)⟩
              have hV_106 : NR im_89 := (NR_fr hnr (funext fun b9 => ((hfr_90 399 b9 (by omega)).trans ((up2_o _ _ (by omega)).trans ((hfr_j1 399 b9 (by omega)).trans ((hfr_11 399 b9 (by omega)).trans (hfr_4 399 b9 (by omega))))))) (funext fun b9 => ((hfr_90 398 b9 (by omega)).trans ((up2_o _ _ (by omega)).trans ((hfr_j1 398 b9 (by omega)).trans ((hfr_11 398 b9 (by omega)).trans (hfr_4 398 b9 (by omega))))))))
              exact sj_zret hx hb hr hlocks rfl hS im_89 ⟨hO_91, (fun a b ha => ((hfr_90 a b (by omega)).trans ((up2_o _ _ (by omega)).trans ((hfr_j1 a b (by omega)).trans ((hfr_11 a b (by omega)).trans (hfr_4 a b (by omega))))))), ⟨by omega, by omega⟩, hV_102, hV_105, hV_106⟩ hH (sj_Knil hK) (Nat.le_of_ble_eq_true rfl) (Nat.le_of_ble_eq_true rfl) dX12_read_180
            · skip
              have h_107 := s_eq (rfl : (im_89 36 6).toInt = _) (show (0 : Int32).toInt = 0 from rfl) c_98
              refine lv_aload_n hx hb dX12_read_172 rfl (lv_at hl 3 rfl) ?_
              have hwt_108 : (im_89 36 33).toInt = ((im_10 36 33) : Int32).toInt := congrArg Int32.toInt ((hfr_90 36 33 (by omega)).trans ((up2_k _ _ (by decide)).trans (hfr_j1 36 33 (by omega))))
              refine x_callv (va_runV (As := []) (rest := []) ⟨hx, hb, hml, hown, hts⟩ (m_findCases l D g ka ad im_89 r L d c2 ((qs ((i 36 2).toInt.toNat + 1)).2.1) ((qs ((i 36 2).toInt.toNat + 1)).2.2) hO_91 hR H.size hc2 hM3 (by omega) (NR_fr hnr (funext fun b9 => ((hfr_90 399 b9 (by omega)).trans ((up2_o _ _ (by omega)).trans ((hfr_j1 399 b9 (by omega)).trans ((hfr_11 399 b9 (by omega)).trans (hfr_4 399 b9 (by omega))))))) (funext fun b9 => ((hfr_90 398 b9 (by omega)).trans ((up2_o _ _ (by omega)).trans ((hfr_j1 398 b9 (by omega)).trans ((hfr_11 398 b9 (by omega)).trans (hfr_4 398 b9 (by omega))))))))) (cwV 0 hts gX12_read_X12_findCases rfl rfl rfl (by decide +kernel) ⟨(Nat.le_of_ble_eq_true rfl), (Nat.le_of_ble_eq_true rfl)⟩) (x_preV (q := (RX12, TX12, 86)) hH hK (q_obj (by decide) (rfl : kd 36 = 12) (by decide)) rfl gxb (gxw hE hS (x_F hH hS hA))) rfl rfl hl.1 rfl (lv_room (Nat.le_of_ble_eq_true rfl)) dX12_read_173 ⟨(Nat.le_of_ble_eq_true rfl), (Nat.le_of_ble_eq_true rfl)⟩) hH hS hA rfl rfl (fun im_111 H locs hw_110 hH hS => ?_)
              have hH : sj_H D A (hwc g ka im_111 r L d) H := hH
              obtain ⟨hO_113, hfr_112, hx2_114, hx2_115⟩ := hw_110
              have hmc := hx2_114
              have hnr2 := hx2_115
              refine lv_aload_n hx hb dX12_read_176 rfl (lv_at hl 3 rfl) ?_
              refine h_geti (ci := 12) (C := RX12) (F := TX12) (N := 86) hx hb hts in12 hown hK hH (by decide) (rfl : kd 36 = 12) (by decide) rfl 6 (by decide) wd3 (fun _ h9 => h9) (by decide) rfl dX12_read_177 ?_
              refine sj_i (y := (im_89 36 6)) (hfr_112 36 6 (by omega)) ?_
              have hp_116 : (im_111 36 2).toInt = (0 : Int32).toInt := congrArg Int32.toInt (((hfr_112 36 2 (by omega)).trans ((hfr_90 36 2 (by omega)).trans (up2_at _ _ _ _))))
              have hl_117 : (0 : Int32).toInt = 0 := rfl
              have hV_118 : (im_111 36 2).toInt = 0 := (by omega)
              have hwr := hM3.1.1
              have hwr2 : (im_89 36 6).toInt = ((im_89 36 6) : Int32).toInt := rfl
              have hV_119 : MRQ im_111 c2 (qs ((i 36 2).toInt.toNat + 1)).2.2 ∧ mcP im_111 (if 0 < (c2 3 4).toInt then [] else (csA c2 (c2 3 8).toInt.toNat).take 24) := ⟨(MRQ_fr hM3 (fun b h1 h2 h3 => (hfr_112 36 b (by omega))) (fun a h1 h2 => funext fun b => (hfr_112 a b (by omega)))), (by rw [if_neg (by omega)]; exact hmc)⟩
              have hV_120 : NR im_111 := hnr2
              exact sj_zret hx hb hr hlocks rfl hS im_111 ⟨hO_113, (fun a b ha => ((hfr_112 a b (by omega)).trans ((hfr_90 a b (by omega)).trans ((up2_o _ _ (by omega)).trans ((hfr_j1 a b (by omega)).trans ((hfr_11 a b (by omega)).trans (hfr_4 a b (by omega)))))))), ⟨by omega, by omega⟩, hV_118, hV_119, hV_120⟩ hH (sj_Knil hK) (Nat.le_of_ble_eq_true rfl) (Nat.le_of_ble_eq_true rfl) dX12_read_180
          · skip
            have h_121 := s_ne (rfl : (j1 36 10).toInt = _) (show (0 : Int32).toInt = 0 from rfl) c_94
            have hc04b : 0 ≤ (i2 3 4).toInt := addE_0 hc04 h6a.2
            have hW2 := hM2.2.1
            unfold mqW at hW2
            have hp_122 : (im_89 36 10).toInt = ((j1 36 10) : Int32).toInt := congrArg Int32.toInt (((hfr_90 36 10 (by omega)).trans (up2_k _ _ (by decide))))
            have h7a := h7.resolve_right (fun q => by have := q.1; omega)
            refine lv_aload_n hx hb dX12_read_156 rfl (lv_at hl 3 rfl) ?_
            refine lv_iload_n hx hb dX12_read_157 rfl (lv_at hl 2 rfl) ?_
            refine lv_iconst (v := 1) hx hb dX12_read_158 (by decide) ?_
            refine lv_iadd hx hb dX12_read_159 ?_
            obtain ⟨z_123, ez_123, hz_123⟩ := s_add (rfl : u.toInt = _) (show (1 : Int32).toInt = 1 from rfl) (by omega) (by omega)
            refine sj_i ez_123 ?_
            refine lv_bipush (v := 7) hx hb dX12_read_160 (by decide) ?_
            have hl_124 : (7 : Int32).toInt = 7 := rfl
            refine x_callv (va_runV (As := [.int z_123, .int 7]) (rest := []) ⟨hx, hb, hml, hown, hts⟩ (m_note l D g ka ad im_89 r L d z_123 7 hO_91 hR H.size ) (cwV 2 hts gX12_read_X12_note rfl rfl rfl (by decide +kernel) ⟨(Nat.le_of_ble_eq_true rfl), (Nat.le_of_ble_eq_true rfl)⟩) (x_preV (q := (RX12, TX12, 86)) hH hK (q_obj (by decide) (rfl : kd 36 = 12) (by decide)) rfl gxb (gxw hE hS (x_F hH hS hA))) rfl rfl hl.1 rfl (lv_room (Nat.le_of_ble_eq_true rfl)) dX12_read_162 ⟨(Nat.le_of_ble_eq_true rfl), (Nat.le_of_ble_eq_true rfl)⟩) hH hS hA rfl rfl (fun im_127 H locs hw_126 hH hS => ?_)
            have hH : sj_H D A (hwc g ka im_127 r L d) H := hH
            obtain ⟨hO_129, hfr_128, hx2_130⟩ := hw_126
            have hno7 := hx2_130
            have hM3 : MRQ im_127 c2 (qs ((i 36 2).toInt.toNat + 1)).2.2 := MRQ_er hM2 h7a.2 (by rw [show (((lnF T (i 36 2).toInt.toNat ((i 36 2).toInt.toNat + 1)) : Nat) : Int) = z_123.toInt by omega]; exact hno7) hc04b (hqO _ (Nat.le_refl _)).2.1.2.2.1
            refine lv_aload_n hx hb dX12_read_165 rfl (lv_at hl 3 rfl) ?_
            have bx_131 : (0 : Int) ≤ (im_127 36 6).toInt ∧ (im_127 36 6).toInt ≤ 20 := hO_129 36 6
            refine h_geti (ci := 12) (C := RX12) (F := TX12) (N := 86) hx hb hts in12 hown hK hH (by decide) (rfl : kd 36 = 12) (by decide) rfl 6 (by decide) wd3 (fun _ h9 => h9) (by decide) rfl dX12_read_166 ?_
            refine lv_if_ne (tgt := 176) hx hb dX12_read_169 (by decide) (fun c_132 => ?_) (fun c_132 => ?_)
            · skip
              have h_133 := s_ne (rfl : (im_127 36 6).toInt = _) (show (0 : Int32).toInt = 0 from rfl) c_132
              refine lv_aload_n hx hb dX12_read_176 rfl (lv_at hl 3 rfl) ?_
              refine h_geti (ci := 12) (C := RX12) (F := TX12) (N := 86) hx hb hts in12 hown hK hH (by decide) (rfl : kd 36 = 12) (by decide) rfl 6 (by decide) wd3 (fun _ h9 => h9) (by decide) rfl dX12_read_177 ?_
              have hp_134 : (im_127 36 2).toInt = (0 : Int32).toInt := congrArg Int32.toInt (((hfr_128 36 2 (by omega)).trans ((hfr_90 36 2 (by omega)).trans (up2_at _ _ _ _))))
              have hl_135 : (0 : Int32).toInt = 0 := rfl
              have hV_136 : (im_127 36 2).toInt = 0 := (by omega)
              have hwr := hM3.1.1
              have hp_137 : (im_127 36 33).toInt = ((im_10 36 33) : Int32).toInt := congrArg Int32.toInt (((hfr_128 36 33 (by omega)).trans ((hfr_90 36 33 (by omega)).trans ((up2_k _ _ (by decide)).trans (hfr_j1 36 33 (by omega))))))
              have hp_138 : (im_127 36 6).toInt = ((im_127 36 6) : Int32).toInt := rfl
              have hV_139 : MRQ im_127 c2 (qs ((i 36 2).toInt.toNat + 1)).2.2 ∧ mcP im_127 (if 0 < (c2 3 4).toInt then [] else (csA c2 (c2 3 8).toInt.toNat).take 24) := ⟨hM3, (by rw [if_pos (by omega)]; exact ⟨by rw [List.length_nil]; omega, fun c s t h => by simp at h⟩)⟩
              have hV_140 : NR im_127 := (NR_fr hnr (funext fun b9 => ((hfr_128 399 b9 (by omega)).trans ((hfr_90 399 b9 (by omega)).trans ((up2_o _ _ (by omega)).trans ((hfr_j1 399 b9 (by omega)).trans ((hfr_11 399 b9 (by omega)).trans (hfr_4 399 b9 (by omega)))))))) (funext fun b9 => ((hfr_128 398 b9 (by omega)).trans ((hfr_90 398 b9 (by omega)).trans ((up2_o _ _ (by omega)).trans ((hfr_j1 398 b9 (by omega)).trans ((hfr_11 398 b9 (by omega)).trans (hfr_4 398 b9 (by omega)))))))))
              exact sj_zret hx hb hr hlocks rfl hS im_127 ⟨hO_129, (fun a b ha => ((hfr_128 a b (by omega)).trans ((hfr_90 a b (by omega)).trans ((up2_o _ _ (by omega)).trans ((hfr_j1 a b (by omega)).trans ((hfr_11 a b (by omega)).trans (hfr_4 a b (by omega)))))))), ⟨by omega, by omega⟩, hV_136, hV_139, hV_140⟩ hH (sj_Knil hK) (Nat.le_of_ble_eq_true rfl) (Nat.le_of_ble_eq_true rfl) dX12_read_180
            · skip
              have h_141 := s_eq (rfl : (im_127 36 6).toInt = _) (show (0 : Int32).toInt = 0 from rfl) c_132
              refine lv_aload_n hx hb dX12_read_172 rfl (lv_at hl 3 rfl) ?_
              have hwt_142 : (im_127 36 33).toInt = ((im_10 36 33) : Int32).toInt := congrArg Int32.toInt ((hfr_128 36 33 (by omega)).trans ((hfr_90 36 33 (by omega)).trans ((up2_k _ _ (by decide)).trans (hfr_j1 36 33 (by omega)))))
              refine x_callv (va_runV (As := []) (rest := []) ⟨hx, hb, hml, hown, hts⟩ (m_findCases l D g ka ad im_127 r L d c2 ((qs ((i 36 2).toInt.toNat + 1)).2.1) ((qs ((i 36 2).toInt.toNat + 1)).2.2) hO_129 hR H.size hc2 hM3 (by omega) (NR_fr hnr (funext fun b9 => ((hfr_128 399 b9 (by omega)).trans ((hfr_90 399 b9 (by omega)).trans ((up2_o _ _ (by omega)).trans ((hfr_j1 399 b9 (by omega)).trans ((hfr_11 399 b9 (by omega)).trans (hfr_4 399 b9 (by omega)))))))) (funext fun b9 => ((hfr_128 398 b9 (by omega)).trans ((hfr_90 398 b9 (by omega)).trans ((up2_o _ _ (by omega)).trans ((hfr_j1 398 b9 (by omega)).trans ((hfr_11 398 b9 (by omega)).trans (hfr_4 398 b9 (by omega)))))))))) (cwV 0 hts gX12_read_X12_findCases rfl rfl rfl (by decide +kernel) ⟨(Nat.le_of_ble_eq_true rfl), (Nat.le_of_ble_eq_true rfl)⟩) (x_preV (q := (RX12, TX12, 86)) hH hK (q_obj (by decide) (rfl : kd 36 = 12) (by decide)) rfl gxb (gxw hE hS (x_F hH hS hA))) rfl rfl hl.1 rfl (lv_room (Nat.le_of_ble_eq_true rfl)) dX12_read_173 ⟨(Nat.le_of_ble_eq_true rfl), (Nat.le_of_ble_eq_true rfl)⟩) hH hS hA rfl rfl (fun im_145 H locs hw_144 hH hS => ?_)
              have hH : sj_H D A (hwc g ka im_145 r L d) H := hH
              obtain ⟨hO_147, hfr_146, hx2_148, hx2_149⟩ := hw_144
              have hmc := hx2_148
              have hnr2 := hx2_149
              refine lv_aload_n hx hb dX12_read_176 rfl (lv_at hl 3 rfl) ?_
              refine h_geti (ci := 12) (C := RX12) (F := TX12) (N := 86) hx hb hts in12 hown hK hH (by decide) (rfl : kd 36 = 12) (by decide) rfl 6 (by decide) wd3 (fun _ h9 => h9) (by decide) rfl dX12_read_177 ?_
              refine sj_i (y := (im_127 36 6)) (hfr_146 36 6 (by omega)) ?_
              have hp_150 : (im_145 36 2).toInt = (0 : Int32).toInt := congrArg Int32.toInt (((hfr_146 36 2 (by omega)).trans ((hfr_128 36 2 (by omega)).trans ((hfr_90 36 2 (by omega)).trans (up2_at _ _ _ _)))))
              have hl_151 : (0 : Int32).toInt = 0 := rfl
              have hV_152 : (im_145 36 2).toInt = 0 := (by omega)
              have hwr := hM3.1.1
              have hwr2 : (im_127 36 6).toInt = ((im_127 36 6) : Int32).toInt := rfl
              have hV_153 : MRQ im_145 c2 (qs ((i 36 2).toInt.toNat + 1)).2.2 ∧ mcP im_145 (if 0 < (c2 3 4).toInt then [] else (csA c2 (c2 3 8).toInt.toNat).take 24) := ⟨(MRQ_fr hM3 (fun b h1 h2 h3 => (hfr_146 36 b (by omega))) (fun a h1 h2 => funext fun b => (hfr_146 a b (by omega)))), (by rw [if_neg (by omega)]; exact hmc)⟩
              have hV_154 : NR im_145 := hnr2
              exact sj_zret hx hb hr hlocks rfl hS im_145 ⟨hO_147, (fun a b ha => ((hfr_146 a b (by omega)).trans ((hfr_128 a b (by omega)).trans ((hfr_90 a b (by omega)).trans ((up2_o _ _ (by omega)).trans ((hfr_j1 a b (by omega)).trans ((hfr_11 a b (by omega)).trans (hfr_4 a b (by omega))))))))), ⟨by omega, by omega⟩, hV_152, hV_153, hV_154⟩ hH (sj_Knil hK) (Nat.le_of_ble_eq_true rfl) (Nat.le_of_ble_eq_true rfl) dX12_read_180
      · skip
        have h_155 := s_nlt (rfl : (i 36 2).toInt = _) (rfl : f.toInt = _) c_16
        have hst := hqs f.toInt.toNat (by omega)
        refine lv_iload_n hx hb dX12_read_27 rfl (lv_at hl 0 rfl) ?_
        refine lv_aload_n hx hb dX12_read_28 rfl (lv_at hl 3 rfl) ?_
        refine h_geti (ci := 12) (C := RX12) (F := TX12) (N := 86) hx hb hts in12 hown hK hH (by decide) (rfl : kd 36 = 12) (by decide) rfl 2 (by decide) wd0 (fun _ h9 => h9) (by decide) rfl dX12_read_29 ?_
        refine sj_i (y := (i 36 2)) ((hfr_j1 36 2 (by omega)).trans ((hfr_11 36 2 (by omega)).trans (hfr_4 36 2 (by omega)))) ?_
        refine lv_icmp_eq (tgt := 46) hx hb dX12_read_32 (by decide) (fun c_156 => ?_) (fun c_156 => ?_)
        · skip
          have h_157 := s_eq (rfl : f.toInt = _) (rfl : (i 36 2).toInt = _) c_156
          have hly : f.toInt.toNat = (i 36 2).toInt.toNat ∨ (T f.toInt.toNat).toInt = 10 := Or.inl (by omega)
          have hfy := frF_y hly
          have hfy1 := hfy.1
          have hfy2 := hfy.2
          obtain ⟨a9, b9, hsk9, hdr9, i9, hO9, hdl9, hli9⟩ := hst.2.2.1 hly
          rw [← hI2, ← hfk] at hsk9
          rw [← hfk] at hdr9
          have hsk91 := hsk9.1
          have hsk92 := hsk9.2.1
          refine lv_aload_n hx hb dX12_read_46 rfl (lv_at hl 3 rfl) ?_
          refine lv_iload_n hx hb dX12_read_47 rfl (lv_at hl 1 rfl) ?_
          refine lv_iload_n hx hb dX12_read_48 rfl (lv_at hl 0 rfl) ?_
          refine x_callv (va_runV (As := [.int v9, .int f]) (rest := []) ⟨hx, hb, hml, hown, hts⟩ (m_takeLine l D g ka ad j1 r L d v9 f hO_j1 hR H.size (by first | omega | decide) (by first | omega | decide) (by first | omega | decide)) (cwV 2 hts gX12_read_X12_takeLine rfl rfl rfl (by decide +kernel) ⟨(Nat.le_of_ble_eq_true rfl), (Nat.le_of_ble_eq_true rfl)⟩) (x_preV (q := (RX12, TX12, 86)) hH hK (q_obj (by decide) (rfl : kd 36 = 12) (by decide)) rfl gxb (gxw hE hS (x_F hH hS hA))) rfl rfl hl.1 rfl (lv_room (Nat.le_of_ble_eq_true rfl)) dX12_read_49 ⟨(Nat.le_of_ble_eq_true rfl), (Nat.le_of_ble_eq_true rfl)⟩) hH hS hA rfl rfl (fun im_160 H locs hw_159 hH hS => ?_)
          have hH : sj_H D A (hwc g ka im_160 r L d) H := hH
          obtain ⟨hO_162, hfr_161, hx2_163⟩ := hw_159
          obtain ⟨a8, b8, hs8, hd8, hw8, hl8⟩ := hx2_163
          rw [show j1 379 = i 379 from funext fun b9 => ((hfr_j1 379 b9 (by omega)).trans ((hfr_11 379 b9 (by omega)).trans (hfr_4 379 b9 (by omega))))] at hs8 hd8 hl8
          have ea : a9 = a8 := skp_u (f := T) (h := i 379) (by omega) (fun k h1 h2 => hTT k (by omega)) hsk9 hs8
          subst ea
          have eb : b9 = b8 := drp_u (f := T) (h := i 379) (by omega) (fun k h1 h2 => hTT k (by omega)) hdr9 hd8
          subst eb
          have hdr91 := hdr9.1
          have hdr92 := hdr9.2.1
          have hLL : lnL (im_160 380) 0 (im_160 36 4).toInt = lnL T a9 b9 := by
            rw [hw8, hl8]
            exact lnL_ext (by omega) (by omega) rfl (fun j hj => (hTT _ (by omega)).symm)
          have hMt : MRQ im_160 (qs f.toInt.toNat).1 (qs f.toInt.toNat).2.2 := (MRQ_fr hi_lp_14_3 (fun b h1 h2 h3 => (hfr_161 36 b (by omega))) (fun a h1 h2 => funext fun b => (hfr_161 a b (by omega))))
          refine lv_iload_n hx hb dX12_read_52 rfl (lv_at hl 0 rfl) ?_
          refine lv_iconst (v := 1) hx hb dX12_read_53 (by decide) ?_
          refine lv_iadd hx hb dX12_read_54 ?_
          obtain ⟨z_164, ez_164, hz_164⟩ := s_add (rfl : f.toInt = _) (show (1 : Int32).toInt = 1 from rfl) (by omega) (by omega)
          refine sj_i ez_164 ?_
          refine lv_istore_n (lv' := [(2, .int z_164), (3, .int f), (1, .int u), (0, .ref (g 36))]) hx hb dX12_read_55 rfl hl (by decide) rfl (fun ls hl => ?_)
          obtain ⟨z_165, ez_165, hz_165⟩ := s_add (rfl : u.toInt = _) (show (1 : Int32).toInt = 1 from rfl) (by omega) (by omega)
          refine lv_iinc (v := z_165) (lv' := [(1, .int z_165), (2, .int z_164), (3, .int f), (0, .ref (g 36))]) hx hb dX12_read_56 hl (k := 2) rfl ez_165 (by decide) rfl (fun ls hl => ?_)
          -- cut at 103
          have ct_166 : ∀  (j4 : Nat → Nat → Int32) (H : Heap) (locs : List Loc) (ls : Array Slot), (j4 36 7).toInt = (i9 3 1).toInt → lnL (j4 380) 0 (j4 36 4).toInt = lnL T a9 b9 → MRQ j4 (qs f.toInt.toNat).1 (qs f.toInt.toNat).2.2 → OkI j4 → (∀ a b, ¬ ((a = 36 ∧ (b = 7))) → j4 a b = im_160 a b) → lv_has ls 5 [(1, .int z_165), (2, .int z_164), (3, .int f), (0, .ref (g 36))] → sj_H D A (hwc g ka j4 r L d) H → va_S A s.heap H locs → W p l e (headSpec wsX12_read ({ frames := 4, cells := 0, slots := 0, locals := 97 })).room s m ([.ref (g 36)] : List Value).toArray below meth c H locs 0 0 (MQ below (sj_Qi (S := (Nat → Nat → Int32)) D (fun v u => OkI u ∧ (∀ a b, ¬ ((a = 36 ∧ (b = 0 ∨ b = 2 ∨ b = 4 ∨ b = 6 ∨ b = 7 ∨ b = 8 ∨ b = 9 ∨ b = 10 ∨ b = 11 ∨ b = 13 ∨ b = 17 ∨ b = 18 ∨ b = 23 ∨ b = 26 ∨ b = 27 ∨ b = 33)) ∨ a = 380 ∨ a = 381 ∨ a = 382 ∨ a = 383 ∨ a = 384 ∨ a = 385 ∨ a = 386 ∨ a = 387 ∨ a = 388 ∨ a = 389 ∨ a = 390 ∨ a = 391 ∨ a = 392 ∨ a = 393 ∨ a = 394 ∨ a = 395 ∨ a = 396 ∨ a = 397 ∨ a = 398 ∨ a = 399 ∨ a = 400 ∨ a = 401) → u a b = i a b) ∧ ((0 : Int) ≤ v.toInt ∧ v.toInt ≤ 20) ∧ ((u 36 2).toInt = 0) ∧ (MRQ u c2 (qs ((i 36 2).toInt.toNat + 1)).2.2 ∧ mcP u (if 0 < (c2 3 4).toInt then [] else (csA c2 (c2 3 8).toInt.toNat).take 24)) ∧ (NR u)) (fun u => hwc g ka u r L d) (fun _ => []) A) ([.ref (g 36)] : List Value).toArray s 0 0 A) (F0 m 103 ls []) := by
            intro j4 H locs ls hi_ct_166_0 hi_ct_166_1 hi_ct_166_2 hO_j4 hfr_j4 hl hH hS
            refine lv_aload_n hx hb dX12_read_103 rfl (lv_at hl 3 rfl) ?_
            refine lv_iload_n hx hb dX12_read_104 rfl (lv_at hl 0 rfl) ?_
            rw [show ((lnF T (i 36 2).toInt.toNat f.toInt.toNat : Nat) : Int) = z_165.toInt by omega] at hli9
            refine x_calli (va_runV (As := [.int z_165]) (rest := []) ⟨hx, hb, hml, hown, hts⟩ (m_lineError l D g ka ad j4 r L d z_165 i9 ((qs f.toInt.toNat).2.1) ((qs f.toInt.toNat).2.2) ((qs (f.toInt.toNat + 1)).1) ((qs (f.toInt.toNat + 1)).2.1) ((qs (f.toInt.toNat + 1)).2.2) hO_j4 hR H.size hO9 (hqO (f.toInt.toNat + 1) (by omega)).1 (QI_dl hst.2.1 hdl9) (MRQ_dl hi_ct_166_2 hdl9 hst.2.1.1.2.2.1) hi_ct_166_0 (by rw [hi_ct_166_1]; exact hli9)) (cwV 1 hts gX12_read_X12_lineError rfl rfl rfl (by decide +kernel) ⟨(Nat.le_of_ble_eq_true rfl), (Nat.le_of_ble_eq_true rfl)⟩) (x_preV (q := (RX12, TX12, 86)) hH hK (q_obj (by decide) (rfl : kd 36 = 12) (by decide)) rfl gxb (gxw hE hS (x_F hH hS hA))) rfl rfl hl.1 rfl (lv_room (Nat.le_of_ble_eq_true rfl)) dX12_read_105 ⟨(Nat.le_of_ble_eq_true rfl), (Nat.le_of_ble_eq_true rfl)⟩) hH hS hA rfl rfl (fun r_167 im_169 H locs hw_168 hH hS => ?_)
            have hH : sj_H D A (hwc g ka im_169 r L d) H := hH
            obtain ⟨hO_171, hfr_170, hr_172, hx2_173⟩ := hw_168
            have hr_172 : (0 : Int) ≤ r_167.toInt ∧ r_167.toInt ≤ 5 := hr_172
            have hle := hx2_173
            refine lv_istore (lv' := [(4, .int r_167), (1, .int z_165), (2, .int z_164), (3, .int f), (0, .ref (g 36))]) hx hb dX12_read_108 hl (by decide) rfl (fun ls hl => ?_)
            refine lv_iload hx hb dX12_read_110 (lv_at hl 0 rfl) ?_
            refine lv_if_le (tgt := 122) hx hb dX12_read_112 (by decide) (fun c_174 => ?_) (fun c_174 => ?_)
            · skip
              have h_175 := s_le (rfl : r_167.toInt = _) (show (0 : Int32).toInt = 0 from rfl) c_174
              obtain ⟨z_176, ez_176, hz_176⟩ := s_add (rfl : f.toInt = _) (show (1 : Int32).toInt = 1 from rfl) (by omega) (by omega)
              refine lv_iinc (v := z_176) (lv' := [(3, .int z_176), (4, .int r_167), (1, .int z_165), (2, .int z_164), (0, .ref (g 36))]) hx hb dX12_read_122 hl (k := 3) rfl ez_176 (by decide) rfl (fun ls hl => ?_)
              refine lv_goto (tgt := 19) hx hb dX12_read_125 (by decide) ?_
              have hk9 : (z_176).toInt.toNat = f.toInt.toNat + 1 := by omega
              exact ih_lp_14 z_165 z_164 z_176 _ _ _ ls (by omega) (by omega) (by omega) (by omega) (by omega) (by rw [hk9]; omega) (by rw [hk9]; omega) (by rw [hk9]; exact (hle.resolve_right (fun q => by have := q.1; omega)).2) (by
                        rw [hk9]
                        have h9 : im_169 36 7 = j4 36 7 := (hfr_170 36 7 (by omega))
                        have h8 : (qs (f.toInt.toNat + 1)).1 3 1 = i9 3 1 := li_d hli9
                        exact Or.inr ⟨by omega, by rw [h9, h8]; exact hi_ct_166_0⟩) hO_171 (fun a b ha => ((hfr_170 a b (by omega)).trans ((hfr_j4 a b (by omega)).trans ((hfr_161 a b (by omega)).trans (hfr_j1 a b (by omega)))))) (lv_sub hl [0, 3, 2, 4] rfl) hH hS
            · skip
              have h_177 := s_nle (rfl : r_167.toInt = _) (show (0 : Int32).toInt = 0 from rfl) c_174
              refine lv_aload_n hx hb dX12_read_115 rfl (lv_at hl 4 rfl) ?_
              refine lv_iload_n hx hb dX12_read_116 rfl (lv_at hl 1 rfl) ?_
              refine lv_iload hx hb dX12_read_117 (lv_at hl 0 rfl) ?_
              refine x_callv (va_runV (As := [.int z_165, .int r_167]) (rest := []) ⟨hx, hb, hml, hown, hts⟩ (m_note l D g ka ad im_169 r L d z_165 r_167 hO_171 hR H.size ) (cwV 2 hts gX12_read_X12_note rfl rfl rfl (by decide +kernel) ⟨(Nat.le_of_ble_eq_true rfl), (Nat.le_of_ble_eq_true rfl)⟩) (x_preV (q := (RX12, TX12, 86)) hH hK (q_obj (by decide) (rfl : kd 36 = 12) (by decide)) rfl gxb (gxw hE hS (x_F hH hS hA))) rfl rfl hl.1 rfl (lv_room (Nat.le_of_ble_eq_true rfl)) dX12_read_119 ⟨(Nat.le_of_ble_eq_true rfl), (Nat.le_of_ble_eq_true rfl)⟩) hH hS hA rfl rfl (fun im_180 H locs hw_179 hH hS => ?_)
              have hH : sj_H D A (hwc g ka im_180 r L d) H := hH
              obtain ⟨hO_182, hfr_181, hx2_183⟩ := hw_179
              have hno := hx2_183
              obtain ⟨z_184, ez_184, hz_184⟩ := s_add (rfl : f.toInt = _) (show (1 : Int32).toInt = 1 from rfl) (by omega) (by omega)
              refine lv_iinc (v := z_184) (lv' := [(3, .int z_184), (4, .int r_167), (1, .int z_165), (2, .int z_164), (0, .ref (g 36))]) hx hb dX12_read_122 hl (k := 3) rfl ez_184 (by decide) rfl (fun ls hl => ?_)
              refine lv_goto (tgt := 19) hx hb dX12_read_125 (by decide) ?_
              have hk9 : (z_184).toInt.toNat = f.toInt.toNat + 1 := by omega
              exact ih_lp_14 z_165 z_164 z_184 _ _ _ ls (by omega) (by omega) (by omega) (by omega) (by omega) (by rw [hk9]; omega) (by rw [hk9]; omega) (by rw [hk9]; exact (hle.resolve_left (fun q => by have := q.1; omega)).elim (fun _ q => by rw [q.2.2]; exact MRQ_er q.1 q.2.1 hno (rd_bx hO9).2.2.2.2.2.2.2.1.1 (hst.2.1).1.2.2.1)) (by
                        rw [hk9]
                        have h9 : im_180 36 7 = j4 36 7 := ((hfr_181 36 7 (by omega)).trans (hfr_170 36 7 (by omega)))
                        have h8 : (qs (f.toInt.toNat + 1)).1 3 1 = i9 3 1 := li_d hli9
                        exact Or.inr ⟨by omega, by rw [h9, h8]; exact hi_ct_166_0⟩) hO_182 (fun a b ha => ((hfr_181 a b (by omega)).trans ((hfr_170 a b (by omega)).trans ((hfr_j4 a b (by omega)).trans ((hfr_161 a b (by omega)).trans (hfr_j1 a b (by omega))))))) (lv_sub hl [0, 3, 2, 4] rfl) hH hS
          refine lv_iload_n hx hb dX12_read_59 rfl (lv_at hl 0 rfl) ?_
          refine lv_iconst (v := 1) hx hb dX12_read_60 (by decide) ?_
          refine lv_icmp_ne (tgt := 103) hx hb dX12_read_61 (by decide) (fun c_185 => ?_) (fun c_185 => ?_)
          · skip
            have h_186 := s_ne (rfl : z_165.toInt = _) (show (1 : Int32).toInt = 1 from rfl) c_185
            exact ct_166  _ _ _ ls (by
                      have h9 : (im_160 36 7).toInt = ((j1 36 7) : Int32).toInt := congrArg Int32.toInt ((hfr_161 36 7 (by omega)))
                      have h8 : i9 3 1 = (qs f.toInt.toNat).1 3 1 := dl_no hdl9 (by omega)
                      rw [h9, h8]; omega) (by rw [show im_160 380 = im_160 380 from funext fun b9 => rfl, show im_160 36 4 = im_160 36 4 from rfl]; exact hLL) (MRQ_fr hMt (fun b h1 h2 h3 => rfl) (fun a h1 h2 => funext fun b => rfl)) hO_162 (fun a b ha => rfl) (lv_sub hl [0, 1, 2, 3] rfl) hH hS
          · skip
            have h_187 := s_eq (rfl : z_165.toInt = _) (show (1 : Int32).toInt = 1 from rfl) c_185
            refine lv_aload_n hx hb dX12_read_64 rfl (lv_at hl 3 rfl) ?_
            refine lv_aload_n hx hb dX12_read_65 rfl (lv_at hl 3 rfl) ?_
            have bx_188 : (0 : Int) ≤ (im_160 36 4).toInt ∧ (im_160 36 4).toInt ≤ 480 := hO_162 36 4
            refine h_geti (ci := 12) (C := RX12) (F := TX12) (N := 86) hx hb hts in12 hown hK hH (by decide) (rfl : kd 36 = 12) (by decide) rfl 4 (by decide) wd4 (fun _ h9 => h9) (by decide) rfl dX12_read_66 ?_
            refine lv_iconst (v := 2) hx hb dX12_read_69 (by decide) ?_
            refine lv_icmp_ne (tgt := 99) hx hb dX12_read_70 (by decide) (fun c_189 => ?_) (fun c_189 => ?_)
            · skip
              have h_190 := s_ne (rfl : (im_160 36 4).toInt = _) (show (2 : Int32).toInt = 2 from rfl) c_189
              refine lv_iconst (v := 0) hx hb dX12_read_99 (by decide) ?_
              have hO_191 := okp hO_162 (n := 36) (k := 7) (v := 0) (show (0 : Int) ≤ (0 : Int32).toInt ∧ (0 : Int32).toInt ≤ 1 from ⟨by decide, by decide⟩)
              refine h_puti (ty := .int) (ci := 12) (C := RX12) (F := TX12) (N := 86) hx hb hts in12 tyX12 tyX12_ok nmX12 hown hK hH hS (by decide) (rfl : kd 36 = 12) (by decide) rfl 7 (by decide) wd5 (fun _ h9 => h9) rfl (by decide +kernel) rfl rfl (by decide) rfl dX12_read_100 (fun H locs hH hS => ?_)
              have hp_192 : ((up2 im_160 36 7 0) 36 7).toInt = (0 : Int32).toInt := congrArg Int32.toInt ((up2_at _ _ _ _))
              have hl_193 : (0 : Int32).toInt = 0 := rfl
              exact ct_166  _ _ _ ls (by
                        have h8 : i9 3 1 = (qs f.toInt.toNat).1 3 1 := dl_nl hdl9 (fun q => by
                          rw [← hLL] at q
                          have q9 := (lnL_35 (Int.le_refl 0) (by omega)).mp q
                          have q8 := q9.1
                          have q7 := q9.2.1
                          have q6 := q9.2.2
                          rw [show (0 : Int).toNat = 0 from rfl] at q7
                          rw [show ((0 : Int) + 1).toNat = 1 from rfl] at q6
                          omega)
                        have h7 := congrArg Int32.toInt h8
                        omega) (by rw [show (up2 im_160 36 7 0) 380 = im_160 380 from funext fun b9 => (up2_o _ _ (by omega)), show (up2 im_160 36 7 0) 36 4 = im_160 36 4 from (up2_o _ _ (by omega))]; exact hLL) (MRQ_fr hMt (fun b h1 h2 h3 => (up2_o _ _ (by omega))) (fun a h1 h2 => funext fun b => (up2_o _ _ (by omega)))) hO_191 (fun a b ha => (up2_o _ _ (by omega))) (lv_sub hl [0, 1, 2, 3] rfl) hH hS
            · skip
              have h_194 := s_eq (rfl : (im_160 36 4).toInt = _) (show (2 : Int32).toInt = 2 from rfl) c_189
              refine lv_aload_n hx hb dX12_read_73 rfl (lv_at hl 3 rfl) ?_
              refine h_getr (ci := 12) (C := RX12) (F := TX12) (N := 86) hx hb hts in12 hown hK hH (by decide) (rfl : kd 36 = 12) (by decide) rfl 3 (by decide) wd6 (fun _ h9 => h9) (by decide) rfl (t := 380) (hR 36 3 rfl) (by decide) dX12_read_74 ?_
              refine lv_iconst (v := 0) hx hb dX12_read_77 (by decide) ?_
              have bx_195 : (0 : Int) ≤ (im_160 380 0).toInt ∧ (im_160 380 0).toInt ≤ 65535 := hO_162 380 0
              refine h_cald hx hb hK hH (by decide) (rfl : kd 380 = 14) (s_vin (N := 480) (show (0 : Int32).toInt = 0 from rfl) (rfl : ln 380 = 480) (by omega) (by omega)) dX12_read_78 ?_
              refine sj_i (y := (im_160 380 0)) rfl ?_
              refine lv_bipush (v := 35) hx hb dX12_read_79 (by decide) ?_
              refine lv_icmp_ne (tgt := 99) hx hb dX12_read_81 (by decide) (fun c_196 => ?_) (fun c_196 => ?_)
              · skip
                have h_197 := s_ne (rfl : (im_160 380 0).toInt = _) (show (35 : Int32).toInt = 35 from rfl) c_196
                refine lv_iconst (v := 0) hx hb dX12_read_99 (by decide) ?_
                have hO_198 := okp hO_162 (n := 36) (k := 7) (v := 0) (show (0 : Int) ≤ (0 : Int32).toInt ∧ (0 : Int32).toInt ≤ 1 from ⟨by decide, by decide⟩)
                refine h_puti (ty := .int) (ci := 12) (C := RX12) (F := TX12) (N := 86) hx hb hts in12 tyX12 tyX12_ok nmX12 hown hK hH hS (by decide) (rfl : kd 36 = 12) (by decide) rfl 7 (by decide) wd5 (fun _ h9 => h9) rfl (by decide +kernel) rfl rfl (by decide) rfl dX12_read_100 (fun H locs hH hS => ?_)
                have hp_199 : ((up2 im_160 36 7 0) 36 7).toInt = (0 : Int32).toInt := congrArg Int32.toInt ((up2_at _ _ _ _))
                have hl_200 : (0 : Int32).toInt = 0 := rfl
                exact ct_166  _ _ _ ls (by
                          have h8 : i9 3 1 = (qs f.toInt.toNat).1 3 1 := dl_nl hdl9 (fun q => by
                            rw [← hLL] at q
                            have q9 := (lnL_35 (Int.le_refl 0) (by omega)).mp q
                            have q8 := q9.1
                            have q7 := q9.2.1
                            have q6 := q9.2.2
                            rw [show (0 : Int).toNat = 0 from rfl] at q7
                            rw [show ((0 : Int) + 1).toNat = 1 from rfl] at q6
                            omega)
                          have h7 := congrArg Int32.toInt h8
                          omega) (by rw [show (up2 im_160 36 7 0) 380 = im_160 380 from funext fun b9 => (up2_o _ _ (by omega)), show (up2 im_160 36 7 0) 36 4 = im_160 36 4 from (up2_o _ _ (by omega))]; exact hLL) (MRQ_fr hMt (fun b h1 h2 h3 => (up2_o _ _ (by omega))) (fun a h1 h2 => funext fun b => (up2_o _ _ (by omega)))) hO_198 (fun a b ha => (up2_o _ _ (by omega))) (lv_sub hl [0, 1, 2, 3] rfl) hH hS
              · skip
                have h_201 := s_eq (rfl : (im_160 380 0).toInt = _) (show (35 : Int32).toInt = 35 from rfl) c_196
                refine lv_aload_n hx hb dX12_read_84 rfl (lv_at hl 3 rfl) ?_
                refine h_getr (ci := 12) (C := RX12) (F := TX12) (N := 86) hx hb hts in12 hown hK hH (by decide) (rfl : kd 36 = 12) (by decide) rfl 3 (by decide) wd6 (fun _ h9 => h9) (by decide) rfl (t := 380) (hR 36 3 rfl) (by decide) dX12_read_85 ?_
                refine lv_iconst (v := 1) hx hb dX12_read_88 (by decide) ?_
                have bx_202 : (0 : Int) ≤ (im_160 380 1).toInt ∧ (im_160 380 1).toInt ≤ 65535 := hO_162 380 1
                refine h_cald hx hb hK hH (by decide) (rfl : kd 380 = 14) (s_vin (N := 480) (show (1 : Int32).toInt = 1 from rfl) (rfl : ln 380 = 480) (by omega) (by omega)) dX12_read_89 ?_
                refine sj_i (y := (im_160 380 1)) rfl ?_
                refine lv_bipush (v := 49) hx hb dX12_read_90 (by decide) ?_
                refine lv_icmp_ne (tgt := 99) hx hb dX12_read_92 (by decide) (fun c_203 => ?_) (fun c_203 => ?_)
                · skip
                  have h_204 := s_ne (rfl : (im_160 380 1).toInt = _) (show (49 : Int32).toInt = 49 from rfl) c_203
                  refine lv_iconst (v := 0) hx hb dX12_read_99 (by decide) ?_
                  have hO_205 := okp hO_162 (n := 36) (k := 7) (v := 0) (show (0 : Int) ≤ (0 : Int32).toInt ∧ (0 : Int32).toInt ≤ 1 from ⟨by decide, by decide⟩)
                  refine h_puti (ty := .int) (ci := 12) (C := RX12) (F := TX12) (N := 86) hx hb hts in12 tyX12 tyX12_ok nmX12 hown hK hH hS (by decide) (rfl : kd 36 = 12) (by decide) rfl 7 (by decide) wd5 (fun _ h9 => h9) rfl (by decide +kernel) rfl rfl (by decide) rfl dX12_read_100 (fun H locs hH hS => ?_)
                  have hp_206 : ((up2 im_160 36 7 0) 36 7).toInt = (0 : Int32).toInt := congrArg Int32.toInt ((up2_at _ _ _ _))
                  have hl_207 : (0 : Int32).toInt = 0 := rfl
                  exact ct_166  _ _ _ ls (by
                            have h8 : i9 3 1 = (qs f.toInt.toNat).1 3 1 := dl_nl hdl9 (fun q => by
                              rw [← hLL] at q
                              have q9 := (lnL_35 (Int.le_refl 0) (by omega)).mp q
                              have q8 := q9.1
                              have q7 := q9.2.1
                              have q6 := q9.2.2
                              rw [show (0 : Int).toNat = 0 from rfl] at q7
                              rw [show ((0 : Int) + 1).toNat = 1 from rfl] at q6
                              omega)
                            have h7 := congrArg Int32.toInt h8
                            omega) (by rw [show (up2 im_160 36 7 0) 380 = im_160 380 from funext fun b9 => (up2_o _ _ (by omega)), show (up2 im_160 36 7 0) 36 4 = im_160 36 4 from (up2_o _ _ (by omega))]; exact hLL) (MRQ_fr hMt (fun b h1 h2 h3 => (up2_o _ _ (by omega))) (fun a h1 h2 => funext fun b => (up2_o _ _ (by omega)))) hO_205 (fun a b ha => (up2_o _ _ (by omega))) (lv_sub hl [0, 1, 2, 3] rfl) hH hS
                · skip
                  have h_208 := s_eq (rfl : (im_160 380 1).toInt = _) (show (49 : Int32).toInt = 49 from rfl) c_203
                  refine lv_iconst (v := 1) hx hb dX12_read_95 (by decide) ?_
                  refine lv_goto (tgt := 100) hx hb dX12_read_96 (by decide) ?_
                  have hO_209 := okp hO_162 (n := 36) (k := 7) (v := 1) (show (0 : Int) ≤ (1 : Int32).toInt ∧ (1 : Int32).toInt ≤ 1 from ⟨by decide, by decide⟩)
                  refine h_puti (ty := .int) (ci := 12) (C := RX12) (F := TX12) (N := 86) hx hb hts in12 tyX12 tyX12_ok nmX12 hown hK hH hS (by decide) (rfl : kd 36 = 12) (by decide) rfl 7 (by decide) wd5 (fun _ h9 => h9) rfl (by decide +kernel) rfl rfl (by decide) rfl dX12_read_100 (fun H locs hH hS => ?_)
                  have hp_210 : ((up2 im_160 36 7 1) 36 7).toInt = (1 : Int32).toInt := congrArg Int32.toInt ((up2_at _ _ _ _))
                  have hl_211 : (1 : Int32).toInt = 1 := rfl
                  exact ct_166  _ _ _ ls (by
                            have h8 := dl_yes hdl9 (by omega) (by rw [← hLL]; exact (lnL_35 (Int.le_refl 0) (by omega)).mpr ⟨by omega, by rw [show (0 : Int).toNat = 0 from rfl]; omega, by rw [show ((0 : Int) + 1).toNat = 1 from rfl]; omega⟩)
                            omega) (by rw [show (up2 im_160 36 7 1) 380 = im_160 380 from funext fun b9 => (up2_o _ _ (by omega)), show (up2 im_160 36 7 1) 36 4 = im_160 36 4 from (up2_o _ _ (by omega))]; exact hLL) (MRQ_fr hMt (fun b h1 h2 h3 => (up2_o _ _ (by omega))) (fun a h1 h2 => funext fun b => (up2_o _ _ (by omega)))) hO_209 (fun a b ha => (up2_o _ _ (by omega))) (lv_sub hl [0, 1, 2, 3] rfl) hH hS
        · skip
          have h_212 := s_ne (rfl : f.toInt = _) (rfl : (i 36 2).toInt = _) c_156
          have hTf := hTT f.toInt.toNat (by omega)
          refine lv_aload_n hx hb dX12_read_35 rfl (lv_at hl 3 rfl) ?_
          refine h_getr (ci := 12) (C := RX12) (F := TX12) (N := 86) hx hb hts in12 hown hK hH (by decide) (rfl : kd 36 = 12) (by decide) rfl 1 (by decide) wd7 (fun _ h9 => h9) (by decide) rfl (t := 379) (hR 36 1 rfl) (by decide) dX12_read_36 ?_
          refine lv_iload_n hx hb dX12_read_39 rfl (lv_at hl 0 rfl) ?_
          have bx_213 : (0 : Int) ≤ (i 379 (f.toInt).toNat).toInt ∧ (i 379 (f.toInt).toNat).toInt ≤ 65535 := hO 379 (f.toInt).toNat
          refine h_cald hx hb hK hH (by decide) (rfl : kd 379 = 14) (s_vin (N := 480) (rfl : f.toInt = _) (rfl : ln 379 = 480) (by omega) (by omega)) dX12_read_40 ?_
          have ek_214 : f.toNatClampNeg = (f.toInt).toNat := (s_cl (show f.toInt = f.toInt by omega))
          refine sj_i (y := (i 379 (f.toInt).toNat)) (by rw [ek_214]; exact ((hfr_j1 379 (f.toInt).toNat (by omega)).trans ((hfr_11 379 (f.toInt).toNat (by omega)).trans (hfr_4 379 (f.toInt).toNat (by omega))))) ?_
          refine lv_bipush (v := 10) hx hb dX12_read_41 (by decide) ?_
          refine lv_icmp_ne (tgt := 122) hx hb dX12_read_43 (by decide) (fun c_215 => ?_) (fun c_215 => ?_)
          · skip
            have h_216 := s_ne (rfl : (i 379 (f.toInt).toNat).toInt = _) (show (10 : Int32).toInt = 10 from rfl) c_215
            have hln : ¬ (f.toInt.toNat = (i 36 2).toInt.toNat ∨ (T f.toInt.toNat).toInt = 10) := by omega
            have hsame := hst.2.2.2 hln
            have hfn := frF_n hln
            have hfn1 := hfn.1
            have hfn2 := hfn.2
            obtain ⟨z_217, ez_217, hz_217⟩ := s_add (rfl : f.toInt = _) (show (1 : Int32).toInt = 1 from rfl) (by omega) (by omega)
            refine lv_iinc (v := z_217) (lv' := [(3, .int z_217), (2, .int v9), (1, .int u), (0, .ref (g 36))]) hx hb dX12_read_122 hl (k := 0) rfl ez_217 (by decide) rfl (fun ls hl => ?_)
            refine lv_goto (tgt := 19) hx hb dX12_read_125 (by decide) ?_
            have hk9 : (z_217).toInt.toNat = f.toInt.toNat + 1 := by omega
            exact ih_lp_14 u v9 z_217 _ _ _ ls (by omega) (by omega) (by omega) (by omega) (by omega) (by rw [hk9]; omega) (by rw [hk9]; omega) (by rw [hk9, hsame]; exact hi_lp_14_3) (by rw [hk9, hsame]; exact hI4) hO_j1 (fun a b ha => (hfr_j1 a b (by omega))) (lv_sub hl [0, 1, 2, 3] rfl) hH hS
          · skip
            have h_218 := s_eq (rfl : (i 379 (f.toInt).toNat).toInt = _) (show (10 : Int32).toInt = 10 from rfl) c_215
            have hly : f.toInt.toNat = (i 36 2).toInt.toNat ∨ (T f.toInt.toNat).toInt = 10 := Or.inr (by omega)
            have hfy := frF_y hly
            have hfy1 := hfy.1
            have hfy2 := hfy.2
            obtain ⟨a9, b9, hsk9, hdr9, i9, hO9, hdl9, hli9⟩ := hst.2.2.1 hly
            rw [← hI2, ← hfk] at hsk9
            rw [← hfk] at hdr9
            have hsk91 := hsk9.1
            have hsk92 := hsk9.2.1
            refine lv_aload_n hx hb dX12_read_46 rfl (lv_at hl 3 rfl) ?_
            refine lv_iload_n hx hb dX12_read_47 rfl (lv_at hl 1 rfl) ?_
            refine lv_iload_n hx hb dX12_read_48 rfl (lv_at hl 0 rfl) ?_
            refine x_callv (va_runV (As := [.int v9, .int f]) (rest := []) ⟨hx, hb, hml, hown, hts⟩ (m_takeLine l D g ka ad j1 r L d v9 f hO_j1 hR H.size (by first | omega | decide) (by first | omega | decide) (by first | omega | decide)) (cwV 2 hts gX12_read_X12_takeLine rfl rfl rfl (by decide +kernel) ⟨(Nat.le_of_ble_eq_true rfl), (Nat.le_of_ble_eq_true rfl)⟩) (x_preV (q := (RX12, TX12, 86)) hH hK (q_obj (by decide) (rfl : kd 36 = 12) (by decide)) rfl gxb (gxw hE hS (x_F hH hS hA))) rfl rfl hl.1 rfl (lv_room (Nat.le_of_ble_eq_true rfl)) dX12_read_49 ⟨(Nat.le_of_ble_eq_true rfl), (Nat.le_of_ble_eq_true rfl)⟩) hH hS hA rfl rfl (fun im_221 H locs hw_220 hH hS => ?_)
            have hH : sj_H D A (hwc g ka im_221 r L d) H := hH
            obtain ⟨hO_223, hfr_222, hx2_224⟩ := hw_220
            obtain ⟨a8, b8, hs8, hd8, hw8, hl8⟩ := hx2_224
            rw [show j1 379 = i 379 from funext fun b9 => ((hfr_j1 379 b9 (by omega)).trans ((hfr_11 379 b9 (by omega)).trans (hfr_4 379 b9 (by omega))))] at hs8 hd8 hl8
            have ea : a9 = a8 := skp_u (f := T) (h := i 379) (by omega) (fun k h1 h2 => hTT k (by omega)) hsk9 hs8
            subst ea
            have eb : b9 = b8 := drp_u (f := T) (h := i 379) (by omega) (fun k h1 h2 => hTT k (by omega)) hdr9 hd8
            subst eb
            have hdr91 := hdr9.1
            have hdr92 := hdr9.2.1
            have hLL : lnL (im_221 380) 0 (im_221 36 4).toInt = lnL T a9 b9 := by
              rw [hw8, hl8]
              exact lnL_ext (by omega) (by omega) rfl (fun j hj => (hTT _ (by omega)).symm)
            have hMt : MRQ im_221 (qs f.toInt.toNat).1 (qs f.toInt.toNat).2.2 := (MRQ_fr hi_lp_14_3 (fun b h1 h2 h3 => (hfr_222 36 b (by omega))) (fun a h1 h2 => funext fun b => (hfr_222 a b (by omega))))
            refine lv_iload_n hx hb dX12_read_52 rfl (lv_at hl 0 rfl) ?_
            refine lv_iconst (v := 1) hx hb dX12_read_53 (by decide) ?_
            refine lv_iadd hx hb dX12_read_54 ?_
            obtain ⟨z_225, ez_225, hz_225⟩ := s_add (rfl : f.toInt = _) (show (1 : Int32).toInt = 1 from rfl) (by omega) (by omega)
            refine sj_i ez_225 ?_
            refine lv_istore_n (lv' := [(2, .int z_225), (3, .int f), (1, .int u), (0, .ref (g 36))]) hx hb dX12_read_55 rfl hl (by decide) rfl (fun ls hl => ?_)
            obtain ⟨z_226, ez_226, hz_226⟩ := s_add (rfl : u.toInt = _) (show (1 : Int32).toInt = 1 from rfl) (by omega) (by omega)
            refine lv_iinc (v := z_226) (lv' := [(1, .int z_226), (2, .int z_225), (3, .int f), (0, .ref (g 36))]) hx hb dX12_read_56 hl (k := 2) rfl ez_226 (by decide) rfl (fun ls hl => ?_)
            -- cut at 103
            have ct_227 : ∀  (j4 : Nat → Nat → Int32) (H : Heap) (locs : List Loc) (ls : Array Slot), (j4 36 7).toInt = (i9 3 1).toInt → lnL (j4 380) 0 (j4 36 4).toInt = lnL T a9 b9 → MRQ j4 (qs f.toInt.toNat).1 (qs f.toInt.toNat).2.2 → OkI j4 → (∀ a b, ¬ ((a = 36 ∧ (b = 7))) → j4 a b = im_221 a b) → lv_has ls 5 [(1, .int z_226), (2, .int z_225), (3, .int f), (0, .ref (g 36))] → sj_H D A (hwc g ka j4 r L d) H → va_S A s.heap H locs → W p l e (headSpec wsX12_read ({ frames := 4, cells := 0, slots := 0, locals := 97 })).room s m ([.ref (g 36)] : List Value).toArray below meth c H locs 0 0 (MQ below (sj_Qi (S := (Nat → Nat → Int32)) D (fun v u => OkI u ∧ (∀ a b, ¬ ((a = 36 ∧ (b = 0 ∨ b = 2 ∨ b = 4 ∨ b = 6 ∨ b = 7 ∨ b = 8 ∨ b = 9 ∨ b = 10 ∨ b = 11 ∨ b = 13 ∨ b = 17 ∨ b = 18 ∨ b = 23 ∨ b = 26 ∨ b = 27 ∨ b = 33)) ∨ a = 380 ∨ a = 381 ∨ a = 382 ∨ a = 383 ∨ a = 384 ∨ a = 385 ∨ a = 386 ∨ a = 387 ∨ a = 388 ∨ a = 389 ∨ a = 390 ∨ a = 391 ∨ a = 392 ∨ a = 393 ∨ a = 394 ∨ a = 395 ∨ a = 396 ∨ a = 397 ∨ a = 398 ∨ a = 399 ∨ a = 400 ∨ a = 401) → u a b = i a b) ∧ ((0 : Int) ≤ v.toInt ∧ v.toInt ≤ 20) ∧ ((u 36 2).toInt = 0) ∧ (MRQ u c2 (qs ((i 36 2).toInt.toNat + 1)).2.2 ∧ mcP u (if 0 < (c2 3 4).toInt then [] else (csA c2 (c2 3 8).toInt.toNat).take 24)) ∧ (NR u)) (fun u => hwc g ka u r L d) (fun _ => []) A) ([.ref (g 36)] : List Value).toArray s 0 0 A) (F0 m 103 ls []) := by
              intro j4 H locs ls hi_ct_227_0 hi_ct_227_1 hi_ct_227_2 hO_j4 hfr_j4 hl hH hS
              refine lv_aload_n hx hb dX12_read_103 rfl (lv_at hl 3 rfl) ?_
              refine lv_iload_n hx hb dX12_read_104 rfl (lv_at hl 0 rfl) ?_
              rw [show ((lnF T (i 36 2).toInt.toNat f.toInt.toNat : Nat) : Int) = z_226.toInt by omega] at hli9
              refine x_calli (va_runV (As := [.int z_226]) (rest := []) ⟨hx, hb, hml, hown, hts⟩ (m_lineError l D g ka ad j4 r L d z_226 i9 ((qs f.toInt.toNat).2.1) ((qs f.toInt.toNat).2.2) ((qs (f.toInt.toNat + 1)).1) ((qs (f.toInt.toNat + 1)).2.1) ((qs (f.toInt.toNat + 1)).2.2) hO_j4 hR H.size hO9 (hqO (f.toInt.toNat + 1) (by omega)).1 (QI_dl hst.2.1 hdl9) (MRQ_dl hi_ct_227_2 hdl9 hst.2.1.1.2.2.1) hi_ct_227_0 (by rw [hi_ct_227_1]; exact hli9)) (cwV 1 hts gX12_read_X12_lineError rfl rfl rfl (by decide +kernel) ⟨(Nat.le_of_ble_eq_true rfl), (Nat.le_of_ble_eq_true rfl)⟩) (x_preV (q := (RX12, TX12, 86)) hH hK (q_obj (by decide) (rfl : kd 36 = 12) (by decide)) rfl gxb (gxw hE hS (x_F hH hS hA))) rfl rfl hl.1 rfl (lv_room (Nat.le_of_ble_eq_true rfl)) dX12_read_105 ⟨(Nat.le_of_ble_eq_true rfl), (Nat.le_of_ble_eq_true rfl)⟩) hH hS hA rfl rfl (fun r_228 im_230 H locs hw_229 hH hS => ?_)
              have hH : sj_H D A (hwc g ka im_230 r L d) H := hH
              obtain ⟨hO_232, hfr_231, hr_233, hx2_234⟩ := hw_229
              have hr_233 : (0 : Int) ≤ r_228.toInt ∧ r_228.toInt ≤ 5 := hr_233
              have hle := hx2_234
              refine lv_istore (lv' := [(4, .int r_228), (1, .int z_226), (2, .int z_225), (3, .int f), (0, .ref (g 36))]) hx hb dX12_read_108 hl (by decide) rfl (fun ls hl => ?_)
              refine lv_iload hx hb dX12_read_110 (lv_at hl 0 rfl) ?_
              refine lv_if_le (tgt := 122) hx hb dX12_read_112 (by decide) (fun c_235 => ?_) (fun c_235 => ?_)
              · skip
                have h_236 := s_le (rfl : r_228.toInt = _) (show (0 : Int32).toInt = 0 from rfl) c_235
                obtain ⟨z_237, ez_237, hz_237⟩ := s_add (rfl : f.toInt = _) (show (1 : Int32).toInt = 1 from rfl) (by omega) (by omega)
                refine lv_iinc (v := z_237) (lv' := [(3, .int z_237), (4, .int r_228), (1, .int z_226), (2, .int z_225), (0, .ref (g 36))]) hx hb dX12_read_122 hl (k := 3) rfl ez_237 (by decide) rfl (fun ls hl => ?_)
                refine lv_goto (tgt := 19) hx hb dX12_read_125 (by decide) ?_
                have hk9 : (z_237).toInt.toNat = f.toInt.toNat + 1 := by omega
                exact ih_lp_14 z_226 z_225 z_237 _ _ _ ls (by omega) (by omega) (by omega) (by omega) (by omega) (by rw [hk9]; omega) (by rw [hk9]; omega) (by rw [hk9]; exact (hle.resolve_right (fun q => by have := q.1; omega)).2) (by
                          rw [hk9]
                          have h9 : im_230 36 7 = j4 36 7 := (hfr_231 36 7 (by omega))
                          have h8 : (qs (f.toInt.toNat + 1)).1 3 1 = i9 3 1 := li_d hli9
                          exact Or.inr ⟨by omega, by rw [h9, h8]; exact hi_ct_227_0⟩) hO_232 (fun a b ha => ((hfr_231 a b (by omega)).trans ((hfr_j4 a b (by omega)).trans ((hfr_222 a b (by omega)).trans (hfr_j1 a b (by omega)))))) (lv_sub hl [0, 3, 2, 4] rfl) hH hS
              · skip
                have h_238 := s_nle (rfl : r_228.toInt = _) (show (0 : Int32).toInt = 0 from rfl) c_235
                refine lv_aload_n hx hb dX12_read_115 rfl (lv_at hl 4 rfl) ?_
                refine lv_iload_n hx hb dX12_read_116 rfl (lv_at hl 1 rfl) ?_
                refine lv_iload hx hb dX12_read_117 (lv_at hl 0 rfl) ?_
                refine x_callv (va_runV (As := [.int z_226, .int r_228]) (rest := []) ⟨hx, hb, hml, hown, hts⟩ (m_note l D g ka ad im_230 r L d z_226 r_228 hO_232 hR H.size ) (cwV 2 hts gX12_read_X12_note rfl rfl rfl (by decide +kernel) ⟨(Nat.le_of_ble_eq_true rfl), (Nat.le_of_ble_eq_true rfl)⟩) (x_preV (q := (RX12, TX12, 86)) hH hK (q_obj (by decide) (rfl : kd 36 = 12) (by decide)) rfl gxb (gxw hE hS (x_F hH hS hA))) rfl rfl hl.1 rfl (lv_room (Nat.le_of_ble_eq_true rfl)) dX12_read_119 ⟨(Nat.le_of_ble_eq_true rfl), (Nat.le_of_ble_eq_true rfl)⟩) hH hS hA rfl rfl (fun im_241 H locs hw_240 hH hS => ?_)
                have hH : sj_H D A (hwc g ka im_241 r L d) H := hH
                obtain ⟨hO_243, hfr_242, hx2_244⟩ := hw_240
                have hno := hx2_244
                obtain ⟨z_245, ez_245, hz_245⟩ := s_add (rfl : f.toInt = _) (show (1 : Int32).toInt = 1 from rfl) (by omega) (by omega)
                refine lv_iinc (v := z_245) (lv' := [(3, .int z_245), (4, .int r_228), (1, .int z_226), (2, .int z_225), (0, .ref (g 36))]) hx hb dX12_read_122 hl (k := 3) rfl ez_245 (by decide) rfl (fun ls hl => ?_)
                refine lv_goto (tgt := 19) hx hb dX12_read_125 (by decide) ?_
                have hk9 : (z_245).toInt.toNat = f.toInt.toNat + 1 := by omega
                exact ih_lp_14 z_226 z_225 z_245 _ _ _ ls (by omega) (by omega) (by omega) (by omega) (by omega) (by rw [hk9]; omega) (by rw [hk9]; omega) (by rw [hk9]; exact (hle.resolve_left (fun q => by have := q.1; omega)).elim (fun _ q => by rw [q.2.2]; exact MRQ_er q.1 q.2.1 hno (rd_bx hO9).2.2.2.2.2.2.2.1.1 (hst.2.1).1.2.2.1)) (by
                          rw [hk9]
                          have h9 : im_241 36 7 = j4 36 7 := ((hfr_242 36 7 (by omega)).trans (hfr_231 36 7 (by omega)))
                          have h8 : (qs (f.toInt.toNat + 1)).1 3 1 = i9 3 1 := li_d hli9
                          exact Or.inr ⟨by omega, by rw [h9, h8]; exact hi_ct_227_0⟩) hO_243 (fun a b ha => ((hfr_242 a b (by omega)).trans ((hfr_231 a b (by omega)).trans ((hfr_j4 a b (by omega)).trans ((hfr_222 a b (by omega)).trans (hfr_j1 a b (by omega))))))) (lv_sub hl [0, 3, 2, 4] rfl) hH hS
            refine lv_iload_n hx hb dX12_read_59 rfl (lv_at hl 0 rfl) ?_
            refine lv_iconst (v := 1) hx hb dX12_read_60 (by decide) ?_
            refine lv_icmp_ne (tgt := 103) hx hb dX12_read_61 (by decide) (fun c_246 => ?_) (fun c_246 => ?_)
            · skip
              have h_247 := s_ne (rfl : z_226.toInt = _) (show (1 : Int32).toInt = 1 from rfl) c_246
              exact ct_227  _ _ _ ls (by
                        have h9 : (im_221 36 7).toInt = ((j1 36 7) : Int32).toInt := congrArg Int32.toInt ((hfr_222 36 7 (by omega)))
                        have h8 : i9 3 1 = (qs f.toInt.toNat).1 3 1 := dl_no hdl9 (by omega)
                        rw [h9, h8]; omega) (by rw [show im_221 380 = im_221 380 from funext fun b9 => rfl, show im_221 36 4 = im_221 36 4 from rfl]; exact hLL) (MRQ_fr hMt (fun b h1 h2 h3 => rfl) (fun a h1 h2 => funext fun b => rfl)) hO_223 (fun a b ha => rfl) (lv_sub hl [0, 1, 2, 3] rfl) hH hS
            · skip
              have h_248 := s_eq (rfl : z_226.toInt = _) (show (1 : Int32).toInt = 1 from rfl) c_246
              refine lv_aload_n hx hb dX12_read_64 rfl (lv_at hl 3 rfl) ?_
              refine lv_aload_n hx hb dX12_read_65 rfl (lv_at hl 3 rfl) ?_
              have bx_249 : (0 : Int) ≤ (im_221 36 4).toInt ∧ (im_221 36 4).toInt ≤ 480 := hO_223 36 4
              refine h_geti (ci := 12) (C := RX12) (F := TX12) (N := 86) hx hb hts in12 hown hK hH (by decide) (rfl : kd 36 = 12) (by decide) rfl 4 (by decide) wd4 (fun _ h9 => h9) (by decide) rfl dX12_read_66 ?_
              refine lv_iconst (v := 2) hx hb dX12_read_69 (by decide) ?_
              refine lv_icmp_ne (tgt := 99) hx hb dX12_read_70 (by decide) (fun c_250 => ?_) (fun c_250 => ?_)
              · skip
                have h_251 := s_ne (rfl : (im_221 36 4).toInt = _) (show (2 : Int32).toInt = 2 from rfl) c_250
                refine lv_iconst (v := 0) hx hb dX12_read_99 (by decide) ?_
                have hO_252 := okp hO_223 (n := 36) (k := 7) (v := 0) (show (0 : Int) ≤ (0 : Int32).toInt ∧ (0 : Int32).toInt ≤ 1 from ⟨by decide, by decide⟩)
                refine h_puti (ty := .int) (ci := 12) (C := RX12) (F := TX12) (N := 86) hx hb hts in12 tyX12 tyX12_ok nmX12 hown hK hH hS (by decide) (rfl : kd 36 = 12) (by decide) rfl 7 (by decide) wd5 (fun _ h9 => h9) rfl (by decide +kernel) rfl rfl (by decide) rfl dX12_read_100 (fun H locs hH hS => ?_)
                have hp_253 : ((up2 im_221 36 7 0) 36 7).toInt = (0 : Int32).toInt := congrArg Int32.toInt ((up2_at _ _ _ _))
                have hl_254 : (0 : Int32).toInt = 0 := rfl
                exact ct_227  _ _ _ ls (by
                          have h8 : i9 3 1 = (qs f.toInt.toNat).1 3 1 := dl_nl hdl9 (fun q => by
                            rw [← hLL] at q
                            have q9 := (lnL_35 (Int.le_refl 0) (by omega)).mp q
                            have q8 := q9.1
                            have q7 := q9.2.1
                            have q6 := q9.2.2
                            rw [show (0 : Int).toNat = 0 from rfl] at q7
                            rw [show ((0 : Int) + 1).toNat = 1 from rfl] at q6
                            omega)
                          have h7 := congrArg Int32.toInt h8
                          omega) (by rw [show (up2 im_221 36 7 0) 380 = im_221 380 from funext fun b9 => (up2_o _ _ (by omega)), show (up2 im_221 36 7 0) 36 4 = im_221 36 4 from (up2_o _ _ (by omega))]; exact hLL) (MRQ_fr hMt (fun b h1 h2 h3 => (up2_o _ _ (by omega))) (fun a h1 h2 => funext fun b => (up2_o _ _ (by omega)))) hO_252 (fun a b ha => (up2_o _ _ (by omega))) (lv_sub hl [0, 1, 2, 3] rfl) hH hS
              · skip
                have h_255 := s_eq (rfl : (im_221 36 4).toInt = _) (show (2 : Int32).toInt = 2 from rfl) c_250
                refine lv_aload_n hx hb dX12_read_73 rfl (lv_at hl 3 rfl) ?_
                refine h_getr (ci := 12) (C := RX12) (F := TX12) (N := 86) hx hb hts in12 hown hK hH (by decide) (rfl : kd 36 = 12) (by decide) rfl 3 (by decide) wd6 (fun _ h9 => h9) (by decide) rfl (t := 380) (hR 36 3 rfl) (by decide) dX12_read_74 ?_
                refine lv_iconst (v := 0) hx hb dX12_read_77 (by decide) ?_
                have bx_256 : (0 : Int) ≤ (im_221 380 0).toInt ∧ (im_221 380 0).toInt ≤ 65535 := hO_223 380 0
                refine h_cald hx hb hK hH (by decide) (rfl : kd 380 = 14) (s_vin (N := 480) (show (0 : Int32).toInt = 0 from rfl) (rfl : ln 380 = 480) (by omega) (by omega)) dX12_read_78 ?_
                refine sj_i (y := (im_221 380 0)) rfl ?_
                refine lv_bipush (v := 35) hx hb dX12_read_79 (by decide) ?_
                refine lv_icmp_ne (tgt := 99) hx hb dX12_read_81 (by decide) (fun c_257 => ?_) (fun c_257 => ?_)
                · skip
                  have h_258 := s_ne (rfl : (im_221 380 0).toInt = _) (show (35 : Int32).toInt = 35 from rfl) c_257
                  refine lv_iconst (v := 0) hx hb dX12_read_99 (by decide) ?_
                  have hO_259 := okp hO_223 (n := 36) (k := 7) (v := 0) (show (0 : Int) ≤ (0 : Int32).toInt ∧ (0 : Int32).toInt ≤ 1 from ⟨by decide, by decide⟩)
                  refine h_puti (ty := .int) (ci := 12) (C := RX12) (F := TX12) (N := 86) hx hb hts in12 tyX12 tyX12_ok nmX12 hown hK hH hS (by decide) (rfl : kd 36 = 12) (by decide) rfl 7 (by decide) wd5 (fun _ h9 => h9) rfl (by decide +kernel) rfl rfl (by decide) rfl dX12_read_100 (fun H locs hH hS => ?_)
                  have hp_260 : ((up2 im_221 36 7 0) 36 7).toInt = (0 : Int32).toInt := congrArg Int32.toInt ((up2_at _ _ _ _))
                  have hl_261 : (0 : Int32).toInt = 0 := rfl
                  exact ct_227  _ _ _ ls (by
                            have h8 : i9 3 1 = (qs f.toInt.toNat).1 3 1 := dl_nl hdl9 (fun q => by
                              rw [← hLL] at q
                              have q9 := (lnL_35 (Int.le_refl 0) (by omega)).mp q
                              have q8 := q9.1
                              have q7 := q9.2.1
                              have q6 := q9.2.2
                              rw [show (0 : Int).toNat = 0 from rfl] at q7
                              rw [show ((0 : Int) + 1).toNat = 1 from rfl] at q6
                              omega)
                            have h7 := congrArg Int32.toInt h8
                            omega) (by rw [show (up2 im_221 36 7 0) 380 = im_221 380 from funext fun b9 => (up2_o _ _ (by omega)), show (up2 im_221 36 7 0) 36 4 = im_221 36 4 from (up2_o _ _ (by omega))]; exact hLL) (MRQ_fr hMt (fun b h1 h2 h3 => (up2_o _ _ (by omega))) (fun a h1 h2 => funext fun b => (up2_o _ _ (by omega)))) hO_259 (fun a b ha => (up2_o _ _ (by omega))) (lv_sub hl [0, 1, 2, 3] rfl) hH hS
                · skip
                  have h_262 := s_eq (rfl : (im_221 380 0).toInt = _) (show (35 : Int32).toInt = 35 from rfl) c_257
                  refine lv_aload_n hx hb dX12_read_84 rfl (lv_at hl 3 rfl) ?_
                  refine h_getr (ci := 12) (C := RX12) (F := TX12) (N := 86) hx hb hts in12 hown hK hH (by decide) (rfl : kd 36 = 12) (by decide) rfl 3 (by decide) wd6 (fun _ h9 => h9) (by decide) rfl (t := 380) (hR 36 3 rfl) (by decide) dX12_read_85 ?_
                  refine lv_iconst (v := 1) hx hb dX12_read_88 (by decide) ?_
                  have bx_263 : (0 : Int) ≤ (im_221 380 1).toInt ∧ (im_221 380 1).toInt ≤ 65535 := hO_223 380 1
                  refine h_cald hx hb hK hH (by decide) (rfl : kd 380 = 14) (s_vin (N := 480) (show (1 : Int32).toInt = 1 from rfl) (rfl : ln 380 = 480) (by omega) (by omega)) dX12_read_89 ?_
                  refine sj_i (y := (im_221 380 1)) rfl ?_
                  refine lv_bipush (v := 49) hx hb dX12_read_90 (by decide) ?_
                  refine lv_icmp_ne (tgt := 99) hx hb dX12_read_92 (by decide) (fun c_264 => ?_) (fun c_264 => ?_)
                  · skip
                    have h_265 := s_ne (rfl : (im_221 380 1).toInt = _) (show (49 : Int32).toInt = 49 from rfl) c_264
                    refine lv_iconst (v := 0) hx hb dX12_read_99 (by decide) ?_
                    have hO_266 := okp hO_223 (n := 36) (k := 7) (v := 0) (show (0 : Int) ≤ (0 : Int32).toInt ∧ (0 : Int32).toInt ≤ 1 from ⟨by decide, by decide⟩)
                    refine h_puti (ty := .int) (ci := 12) (C := RX12) (F := TX12) (N := 86) hx hb hts in12 tyX12 tyX12_ok nmX12 hown hK hH hS (by decide) (rfl : kd 36 = 12) (by decide) rfl 7 (by decide) wd5 (fun _ h9 => h9) rfl (by decide +kernel) rfl rfl (by decide) rfl dX12_read_100 (fun H locs hH hS => ?_)
                    have hp_267 : ((up2 im_221 36 7 0) 36 7).toInt = (0 : Int32).toInt := congrArg Int32.toInt ((up2_at _ _ _ _))
                    have hl_268 : (0 : Int32).toInt = 0 := rfl
                    exact ct_227  _ _ _ ls (by
                              have h8 : i9 3 1 = (qs f.toInt.toNat).1 3 1 := dl_nl hdl9 (fun q => by
                                rw [← hLL] at q
                                have q9 := (lnL_35 (Int.le_refl 0) (by omega)).mp q
                                have q8 := q9.1
                                have q7 := q9.2.1
                                have q6 := q9.2.2
                                rw [show (0 : Int).toNat = 0 from rfl] at q7
                                rw [show ((0 : Int) + 1).toNat = 1 from rfl] at q6
                                omega)
                              have h7 := congrArg Int32.toInt h8
                              omega) (by rw [show (up2 im_221 36 7 0) 380 = im_221 380 from funext fun b9 => (up2_o _ _ (by omega)), show (up2 im_221 36 7 0) 36 4 = im_221 36 4 from (up2_o _ _ (by omega))]; exact hLL) (MRQ_fr hMt (fun b h1 h2 h3 => (up2_o _ _ (by omega))) (fun a h1 h2 => funext fun b => (up2_o _ _ (by omega)))) hO_266 (fun a b ha => (up2_o _ _ (by omega))) (lv_sub hl [0, 1, 2, 3] rfl) hH hS
                  · skip
                    have h_269 := s_eq (rfl : (im_221 380 1).toInt = _) (show (49 : Int32).toInt = 49 from rfl) c_264
                    refine lv_iconst (v := 1) hx hb dX12_read_95 (by decide) ?_
                    refine lv_goto (tgt := 100) hx hb dX12_read_96 (by decide) ?_
                    have hO_270 := okp hO_223 (n := 36) (k := 7) (v := 1) (show (0 : Int) ≤ (1 : Int32).toInt ∧ (1 : Int32).toInt ≤ 1 from ⟨by decide, by decide⟩)
                    refine h_puti (ty := .int) (ci := 12) (C := RX12) (F := TX12) (N := 86) hx hb hts in12 tyX12 tyX12_ok nmX12 hown hK hH hS (by decide) (rfl : kd 36 = 12) (by decide) rfl 7 (by decide) wd5 (fun _ h9 => h9) rfl (by decide +kernel) rfl rfl (by decide) rfl dX12_read_100 (fun H locs hH hS => ?_)
                    have hp_271 : ((up2 im_221 36 7 1) 36 7).toInt = (1 : Int32).toInt := congrArg Int32.toInt ((up2_at _ _ _ _))
                    have hl_272 : (1 : Int32).toInt = 1 := rfl
                    exact ct_227  _ _ _ ls (by
                              have h8 := dl_yes hdl9 (by omega) (by rw [← hLL]; exact (lnL_35 (Int.le_refl 0) (by omega)).mpr ⟨by omega, by rw [show (0 : Int).toNat = 0 from rfl]; omega, by rw [show ((0 : Int) + 1).toNat = 1 from rfl]; omega⟩)
                              omega) (by rw [show (up2 im_221 36 7 1) 380 = im_221 380 from funext fun b9 => (up2_o _ _ (by omega)), show (up2 im_221 36 7 1) 36 4 = im_221 36 4 from (up2_o _ _ (by omega))]; exact hLL) (MRQ_fr hMt (fun b h1 h2 h3 => (up2_o _ _ (by omega))) (fun a h1 h2 => funext fun b => (up2_o _ _ (by omega)))) hO_270 (fun a b ha => (up2_o _ _ (by omega))) (lv_sub hl [0, 1, 2, 3] rfl) hH hS
  have hl_273 : (0 : Int32).toInt = 0 := rfl
  have hl_274 : (0 : Int32).toInt = 0 := rfl
  have hl_275 : (0 : Int32).toInt = 0 := rfl
  exact lp_14 _ 0 0 0 _ _ _ ls (Nat.lt_succ_self _) (by omega) (by omega) (by omega) (by omega) (by rw [(show (0 : Int32).toInt.toNat = 0 from rfl)]; rfl) (by rw [(show (0 : Int32).toInt.toNat = 0 from rfl)]; rfl) (by rw [(show (0 : Int32).toInt.toNat = 0 from rfl)]; exact MRQ_0 hq0 hx2_13) (by rw [(show (0 : Int32).toInt.toNat = 0 from rfl)]; exact Or.inl ⟨rfl, hq0.1⟩) hO_12 (fun a b ha => rfl) (lv_sub hl [0, 1, 2, 3] rfl) hH hS
