/-- parse, so far -/
def ptR (f : Nat → Int32) (S U gd pl c : Int) : Prop := (gd = 1 ∧ (1 ≤ U - S ∧ U - S ≤ 60) ∧ ∃ u : Nat, U - pl ≤ (u : Int) ∧ prL 60 (lnL f S U) 0 = prL u (lnL f pl U) c) ∨ (gd = 0 ∧ ¬ prOK (lnL f S U))
def mzr (g x : Int) : Int := if g = 0 then 0 else x + 1
theorem mz_lt {g x g' x' : Int} {n : Nat} (h : (mzr g x).toNat < n + 1) (hg : g ≠ 0) (h0 : 0 ≤ x) (h2 : g' = 0 ∨ (0 ≤ x' ∧ x' < x)) : (mzr g' x').toNat < n := by
  unfold mzr at h ⊢
  rw [if_neg hg] at h
  by_cases hz : g' = 0
  · rw [if_pos hz]; omega
  · rw [if_neg hz]; omega
def exG (gd : Int) (i : Nat → Nat → Int32) : Prop := gd = 0 ∨ exI i
section PT
variable {f : Nat → Int32} {S U gd pl c v pl2 c2 : Int}
theorem exI_0 {i : Nat → Nat → Int32} (h : (i 36 45).toInt = 0) (h2 : (i 36 49).toInt = 0) : exI i := ⟨fun p hp => by omega, fun t ht => by omega⟩
theorem pt_0 (h : 1 ≤ U - S ∧ U - S ≤ 60) (hp : pl = S) (hc : c = 0) (hg : gd = 1) : ptR f S U gd pl c := by subst hp; subst hc; exact Or.inl ⟨hg, h, 60, by omega, rfl⟩
theorem pt_no (h0 : S ≤ U) (h : ¬ (1 ≤ U - S ∧ U - S ≤ 60)) (hg : gd = 0) : ptR f S U gd pl c := Or.inr ⟨hg, fun q => h (by
  have h1 := q.1
  have h2 := q.2.1
  have h3 := lnL_len (f := f) h0
  omega)⟩
theorem pt_go {r : Option Int} (hz : 1 ≤ U - S ∧ U - S ≤ 60) (e : prL 60 (lnL f S U) 0 = r) (g : (v = 1 ∧ ∃ w : Nat, U - pl2 ≤ (w : Int) ∧ r = prL w (lnL f pl2 U) c2) ∨ (v = 0 ∧ r = none)) : ptR f S U v pl2 c2 := by
  rcases g with ⟨hv, w, hw, g⟩ | ⟨hv, g⟩
  · exact Or.inl ⟨hv, hz, w, hw, e.trans g⟩
  · refine Or.inr ⟨hv, fun q => ?_⟩
    obtain ⟨_, _, n, hn, _⟩ := q
    rw [e, g] at hn
    exact nomatch hn
theorem pt_pa (h : ptR f S U gd pl c) (hg : gd ≠ 0) (h0 : 0 ≤ pl) (hl : pl < U) (hc : (f pl.toNat).toInt = 123) (g : (v = 1 ∧ paL (lnL f (pl + 1) U) = some (lnL f pl2 U) ∧ pl + 1 ≤ pl2 ∧ c2 = c + 1) ∨ (v = 0 ∧ paL (lnL f (pl + 1) U) = none)) : ptR f S U v pl2 c2 := by
  obtain ⟨_, hz, u, hu, e⟩ := h.resolve_right (fun q => hg q.1)
  obtain ⟨w, rfl⟩ : ∃ w, u = w + 1 := ⟨u - 1, by omega⟩
  refine pt_go hz e ?_
  rw [pr_pa h0 hl hc]
  rcases g with ⟨hv, g, hp, hc2⟩ | ⟨hv, g⟩
  · rw [g, hc2]; exact Or.inl ⟨hv, w, by omega, rfl⟩
  · rw [g]; exact Or.inr ⟨hv, rfl⟩
theorem pt_op (h : ptR f S U gd pl c) (hg : gd ≠ 0) (h0 : 0 ≤ pl) (hl : pl < U) (hc : (f pl.toNat).toInt = 40) (g : (v = 1 ∧ opL (lnL f (pl + 1) U) 0 = some (lnL f pl2 U) ∧ pl + 1 ≤ pl2 ∧ c2 = c) ∨ (v = 0 ∧ opL (lnL f (pl + 1) U) 0 = none)) : ptR f S U v pl2 c2 := by
  obtain ⟨_, hz, u, hu, e⟩ := h.resolve_right (fun q => hg q.1)
  obtain ⟨w, rfl⟩ : ∃ w, u = w + 1 := ⟨u - 1, by omega⟩
  refine pt_go hz e ?_
  rw [pr_op h0 hl hc]
  rcases g with ⟨hv, g, hp, hc2⟩ | ⟨hv, g⟩
  · rw [g, hc2]; exact Or.inl ⟨hv, w, by omega, rfl⟩
  · rw [g]; exact Or.inr ⟨hv, rfl⟩
theorem pt_bl (h : ptR f S U gd pl c) (hg : gd ≠ 0) (h0 : 0 ≤ pl) (hl : pl < U) (hc : (f pl.toNat).toInt = 32) (hv : v = 1) (hp : pl2 = pl + 1) (hc2 : c2 = c) : ptR f S U v pl2 c2 := by
  obtain ⟨_, hz, u, hu, e⟩ := h.resolve_right (fun q => hg q.1)
  obtain ⟨w, rfl⟩ : ∃ w, u = w + 1 := ⟨u - 1, by omega⟩
  refine pt_go hz e ?_
  rw [pr_bl h0 hl hc, hp, hc2]
  exact Or.inl ⟨hv, w, by omega, rfl⟩
theorem pt_wd (h : ptR f S U gd pl c) (hg : gd ≠ 0) (h0 : 0 ≤ pl) (hl : pl < U) (h1 : (f pl.toNat).toInt ≠ 123) (h2 : (f pl.toNat).toInt ≠ 40) (h3 : (f pl.toNat).toInt ≠ 32) (g : (v = 1 ∧ wdL (lnL f pl U) 0 = some (lnL f pl2 U) ∧ pl + 1 ≤ pl2 ∧ c2 = c) ∨ (v = 0 ∧ wdL (lnL f pl U) 0 = none)) : ptR f S U v pl2 c2 := by
  obtain ⟨_, hz, u, hu, e⟩ := h.resolve_right (fun q => hg q.1)
  obtain ⟨w, rfl⟩ : ∃ w, u = w + 1 := ⟨u - 1, by omega⟩
  refine pt_go hz e ?_
  rw [pr_wd h0 hl h1 h2 h3]
  rcases g with ⟨hv, g, hp, hc2⟩ | ⟨hv, g⟩
  · rw [g, hc2]; exact Or.inl ⟨hv, w, by omega, rfl⟩
  · rw [g]; exact Or.inr ⟨hv, rfl⟩
theorem pt_end (h : ptR f S U gd pl c) (h0 : S ≤ U) (hl : gd ≠ 0 → U ≤ pl) : (gd = 1 ∧ (1 ≤ U - S ∧ U - S ≤ 60) ∧ ((c ≤ 6 ∧ prOK (lnL f S U)) ∨ (6 < c ∧ ¬ prOK (lnL f S U)))) ∨ (gd = 0 ∧ ¬ prOK (lnL f S U)) := by
  rcases h with ⟨hg, hz, u, hu, e⟩ | h
  · rw [pr_end u (hl (by omega))] at e
    have h3 := lnL_len (f := f) h0
    refine Or.inl ⟨hg, hz, ?_⟩
    by_cases h6 : c ≤ 6
    · exact Or.inl ⟨h6, by omega, by omega, c, e, h6⟩
    · refine Or.inr ⟨by omega, fun q => ?_⟩
      obtain ⟨_, _, n, hn, hn6⟩ := q
      rw [e] at hn
      injection hn with hn
      omega
  · exact Or.inr h
end PT
theorem dX12_parse_0 : decode cX12_parse 0 = .ok (.aload_n 0, 1) := by decide +kernel
theorem dX12_parse_1 : decode cX12_parse 1 = .ok (.iconst 0, 1) := by decide +kernel
theorem dX12_parse_2 : decode cX12_parse 2 = .ok (.putfield 248, 3) := by decide +kernel
theorem dX12_parse_5 : decode cX12_parse 5 = .ok (.aload_n 0, 1) := by decide +kernel
theorem dX12_parse_6 : decode cX12_parse 6 = .ok (.iconst 0, 1) := by decide +kernel
theorem dX12_parse_7 : decode cX12_parse 7 = .ok (.putfield 260, 3) := by decide +kernel
theorem dX12_parse_10 : decode cX12_parse 10 = .ok (.aload_n 0, 1) := by decide +kernel
theorem dX12_parse_11 : decode cX12_parse 11 = .ok (.iconst 0, 1) := by decide +kernel
theorem dX12_parse_12 : decode cX12_parse 12 = .ok (.putfield 263, 3) := by decide +kernel
theorem dX12_parse_15 : decode cX12_parse 15 = .ok (.aload_n 0, 1) := by decide +kernel
theorem dX12_parse_16 : decode cX12_parse 16 = .ok (.iload_n 2, 1) := by decide +kernel
theorem dX12_parse_17 : decode cX12_parse 17 = .ok (.putfield 269, 3) := by decide +kernel
theorem dX12_parse_20 : decode cX12_parse 20 = .ok (.aload_n 0, 1) := by decide +kernel
theorem dX12_parse_21 : decode cX12_parse 21 = .ok (.iload_n 2, 1) := by decide +kernel
theorem dX12_parse_22 : decode cX12_parse 22 = .ok (.iload_n 3, 1) := by decide +kernel
theorem dX12_parse_23 : decode cX12_parse 23 = .ok (.iadd, 1) := by decide +kernel
theorem dX12_parse_24 : decode cX12_parse 24 = .ok (.putfield 272, 3) := by decide +kernel
theorem dX12_parse_27 : decode cX12_parse 27 = .ok (.iload_n 3, 1) := by decide +kernel
theorem dX12_parse_28 : decode cX12_parse 28 = .ok (.ifCond .le 13, 3) := by decide +kernel
theorem dX12_parse_41 : decode cX12_parse 41 = .ok (.iconst 0, 1) := by decide +kernel
theorem dX12_parse_42 : decode cX12_parse 42 = .ok (.istore 4, 2) := by decide +kernel
theorem dX12_parse_44 : decode cX12_parse 44 = .ok (.iload 4, 2) := by decide +kernel
theorem dX12_parse_46 : decode cX12_parse 46 = .ok (.ifCond .eq 76, 3) := by decide +kernel
theorem dX12_parse_122 : decode cX12_parse 122 = .ok (.iconst 0, 1) := by decide +kernel
theorem dX12_parse_123 : decode cX12_parse 123 = .ok (.istore 5, 2) := by decide +kernel
theorem dX12_parse_125 : decode cX12_parse 125 = .ok (.iconst 0, 1) := by decide +kernel
theorem dX12_parse_126 : decode cX12_parse 126 = .ok (.istore 6, 2) := by decide +kernel
theorem dX12_parse_128 : decode cX12_parse 128 = .ok (.iload 6, 2) := by decide +kernel
theorem dX12_parse_130 : decode cX12_parse 130 = .ok (.aload_n 0, 1) := by decide +kernel
theorem dX12_parse_131 : decode cX12_parse 131 = .ok (.getfield 248, 3) := by decide +kernel
theorem dX12_parse_134 : decode cX12_parse 134 = .ok (.if_icmp .ge 30, 3) := by decide +kernel
theorem dX12_parse_164 : decode cX12_parse 164 = .ok (.iload 4, 2) := by decide +kernel
theorem dX12_parse_166 : decode cX12_parse 166 = .ok (.ifCond .eq 14, 3) := by decide +kernel
theorem dX12_parse_180 : decode cX12_parse 180 = .ok (.iconst 0, 1) := by decide +kernel
theorem dX12_parse_181 : decode cX12_parse 181 = .ok (.ireturn, 1) := by decide +kernel
theorem dX12_parse_137 : decode cX12_parse 137 = .ok (.iload 5, 2) := by decide +kernel
theorem dX12_parse_139 : decode cX12_parse 139 = .ok (.aload_n 0, 1) := by decide +kernel
theorem dX12_parse_140 : decode cX12_parse 140 = .ok (.getfield 245, 3) := by decide +kernel
theorem dX12_parse_143 : decode cX12_parse 143 = .ok (.iload 6, 2) := by decide +kernel
theorem dX12_parse_145 : decode cX12_parse 145 = .ok (.iaload, 1) := by decide +kernel
theorem dX12_parse_146 : decode cX12_parse 146 = .ok (.iconst 4, 1) := by decide +kernel
theorem dX12_parse_147 : decode cX12_parse 147 = .ok (.if_icmp .ne 7, 3) := by decide +kernel
theorem dX12_parse_154 : decode cX12_parse 154 = .ok (.iconst 0, 1) := by decide +kernel
theorem dX12_parse_155 : decode cX12_parse 155 = .ok (.iadd, 1) := by decide +kernel
theorem dX12_parse_156 : decode cX12_parse 156 = .ok (.istore 5, 2) := by decide +kernel
theorem dX12_parse_158 : decode cX12_parse 158 = .ok (.iinc 6 1, 3) := by decide +kernel
theorem dX12_parse_161 : decode cX12_parse 161 = .ok (.goto (-33), 3) := by decide +kernel
theorem dX12_parse_150 : decode cX12_parse 150 = .ok (.iconst 1, 1) := by decide +kernel
theorem dX12_parse_151 : decode cX12_parse 151 = .ok (.goto 4, 3) := by decide +kernel
theorem dX12_parse_49 : decode cX12_parse 49 = .ok (.aload_n 0, 1) := by decide +kernel
theorem dX12_parse_50 : decode cX12_parse 50 = .ok (.getfield 269, 3) := by decide +kernel
theorem dX12_parse_53 : decode cX12_parse 53 = .ok (.aload_n 0, 1) := by decide +kernel
theorem dX12_parse_54 : decode cX12_parse 54 = .ok (.getfield 272, 3) := by decide +kernel
theorem dX12_parse_57 : decode cX12_parse 57 = .ok (.if_icmp .ge 65, 3) := by decide +kernel
theorem dX12_parse_169 : decode cX12_parse 169 = .ok (.iload 5, 2) := by decide +kernel
theorem dX12_parse_171 : decode cX12_parse 171 = .ok (.bipush 6, 2) := by decide +kernel
theorem dX12_parse_173 : decode cX12_parse 173 = .ok (.if_icmp .gt 7, 3) := by decide +kernel
theorem dX12_parse_176 : decode cX12_parse 176 = .ok (.iconst 1, 1) := by decide +kernel
theorem dX12_parse_177 : decode cX12_parse 177 = .ok (.goto 4, 3) := by decide +kernel
theorem dX12_parse_60 : decode cX12_parse 60 = .ok (.aload_n 1, 1) := by decide +kernel
theorem dX12_parse_61 : decode cX12_parse 61 = .ok (.aload_n 0, 1) := by decide +kernel
theorem dX12_parse_62 : decode cX12_parse 62 = .ok (.getfield 269, 3) := by decide +kernel
theorem dX12_parse_65 : decode cX12_parse 65 = .ok (.caload, 1) := by decide +kernel
theorem dX12_parse_66 : decode cX12_parse 66 = .ok (.istore 5, 2) := by decide +kernel
theorem dX12_parse_68 : decode cX12_parse 68 = .ok (.iload 5, 2) := by decide +kernel
theorem dX12_parse_70 : decode cX12_parse 70 = .ok (.bipush 123, 2) := by decide +kernel
theorem dX12_parse_72 : decode cX12_parse 72 = .ok (.if_icmp .ne 11, 3) := by decide +kernel
theorem dX12_parse_83 : decode cX12_parse 83 = .ok (.iload 5, 2) := by decide +kernel
theorem dX12_parse_85 : decode cX12_parse 85 = .ok (.bipush 40, 2) := by decide +kernel
theorem dX12_parse_87 : decode cX12_parse 87 = .ok (.if_icmp .ne 11, 3) := by decide +kernel
theorem dX12_parse_98 : decode cX12_parse 98 = .ok (.iload 5, 2) := by decide +kernel
theorem dX12_parse_100 : decode cX12_parse 100 = .ok (.bipush 32, 2) := by decide +kernel
theorem dX12_parse_102 : decode cX12_parse 102 = .ok (.if_icmp .ne 10, 3) := by decide +kernel
theorem dX12_parse_112 : decode cX12_parse 112 = .ok (.aload_n 0, 1) := by decide +kernel
theorem dX12_parse_113 : decode cX12_parse 113 = .ok (.aload_n 1, 1) := by decide +kernel
theorem dX12_parse_114 : decode cX12_parse 114 = .ok (.invokevirtual 301, 3) := by decide +kernel
theorem dX12_parse_117 : decode cX12_parse 117 = .ok (.istore 4, 2) := by decide +kernel
theorem dX12_parse_119 : decode cX12_parse 119 = .ok (.goto (-75), 3) := by decide +kernel
theorem dX12_parse_105 : decode cX12_parse 105 = .ok (.aload_n 0, 1) := by decide +kernel
theorem dX12_parse_106 : decode cX12_parse 106 = .ok (.invokevirtual 298, 3) := by decide +kernel
theorem dX12_parse_109 : decode cX12_parse 109 = .ok (.goto 8, 3) := by decide +kernel
theorem dX12_parse_90 : decode cX12_parse 90 = .ok (.aload_n 0, 1) := by decide +kernel
theorem dX12_parse_91 : decode cX12_parse 91 = .ok (.aload_n 1, 1) := by decide +kernel
theorem dX12_parse_92 : decode cX12_parse 92 = .ok (.invokevirtual 295, 3) := by decide +kernel
theorem dX12_parse_95 : decode cX12_parse 95 = .ok (.goto 22, 3) := by decide +kernel
theorem dX12_parse_75 : decode cX12_parse 75 = .ok (.aload_n 0, 1) := by decide +kernel
theorem dX12_parse_76 : decode cX12_parse 76 = .ok (.aload_n 1, 1) := by decide +kernel
theorem dX12_parse_77 : decode cX12_parse 77 = .ok (.invokevirtual 292, 3) := by decide +kernel
theorem dX12_parse_80 : decode cX12_parse 80 = .ok (.goto 37, 3) := by decide +kernel
theorem dX12_parse_31 : decode cX12_parse 31 = .ok (.iload_n 3, 1) := by decide +kernel
theorem dX12_parse_32 : decode cX12_parse 32 = .ok (.bipush 60, 2) := by decide +kernel
theorem dX12_parse_34 : decode cX12_parse 34 = .ok (.if_icmp .gt 7, 3) := by decide +kernel
theorem dX12_parse_37 : decode cX12_parse 37 = .ok (.iconst 1, 1) := by decide +kernel
theorem dX12_parse_38 : decode cX12_parse 38 = .ok (.goto 4, 3) := by decide +kernel
theorem gw_X12_word : wsX12_word.all goodWord = true := by decide +kernel
theorem gX12_parse_X12_word : GoodIn wsX12_parse (wsV RX12 301 RX12 yX12_word wsX12_word) := goodIn_app (goodIn_sub (List.forall_mem_cons.mpr ⟨(List.mem_cons_of_mem _ (List.mem_append_left _ (List.mem_append_right _ lm12))), List.forall_mem_cons.mpr ⟨(List.mem_cons_of_mem _ (List.mem_append_left _ (List.mem_append_right _ lm13))), List.forall_mem_cons.mpr ⟨(List.mem_cons_of_mem _ (List.mem_append_left _ (List.mem_append_right _ lm14))), List.forall_mem_cons.mpr ⟨(List.mem_cons_of_mem _ (List.mem_append_left _ (List.mem_append_left _ lm9))), (fun _ h => absurd h List.not_mem_nil)⟩⟩⟩⟩) (by decide +kernel)) (goodIn_sub (by unfold wsX12_word; exact List.forall_mem_cons.mpr ⟨(List.mem_cons_of_mem _ (List.mem_append_left _ (List.mem_append_right _ lm15))), List.forall_mem_append.mpr ⟨List.forall_mem_append.mpr ⟨List.forall_mem_cons.mpr ⟨(List.mem_cons_of_mem _ (List.mem_append_left _ (List.mem_append_left _ lm1))), List.forall_mem_cons.mpr ⟨(List.mem_cons_of_mem _ (List.mem_append_left _ (List.mem_append_left _ lm3))), List.forall_mem_cons.mpr ⟨(List.mem_cons_of_mem _ (List.mem_append_left _ (List.mem_append_left _ lm4))), List.forall_mem_cons.mpr ⟨(List.mem_cons_of_mem _ (List.mem_append_left _ (List.mem_append_left _ lm21))), List.forall_mem_cons.mpr ⟨(List.mem_cons_of_mem _ (List.mem_append_left _ (List.mem_append_right _ lm7))), List.forall_mem_cons.mpr ⟨(List.mem_cons_of_mem _ (List.mem_append_left _ (List.mem_append_right _ lm2))), List.forall_mem_cons.mpr ⟨(List.mem_cons_of_mem _ (List.mem_append_left _ (List.mem_append_left _ lm22))), List.forall_mem_cons.mpr ⟨(List.mem_cons_of_mem _ (List.mem_append_left _ (List.mem_append_left _ lm23))), List.forall_mem_cons.mpr ⟨(List.mem_cons_of_mem _ (List.mem_append_left _ (List.mem_append_right _ lm0))), List.forall_mem_cons.mpr ⟨(List.mem_cons_of_mem _ (List.mem_append_left _ (List.mem_append_left _ lm9))), List.forall_mem_cons.mpr ⟨(List.mem_cons_of_mem _ (List.mem_append_left _ (List.mem_append_right _ lm1))), List.forall_mem_cons.mpr ⟨(List.mem_cons_of_mem _ (List.mem_append_left _ (List.mem_append_left _ lm2))), List.forall_mem_cons.mpr ⟨(List.mem_cons_of_mem _ (List.mem_append_left _ (List.mem_append_right _ lm16))), List.forall_mem_cons.mpr ⟨(List.mem_cons_of_mem _ (List.mem_append_left _ (List.mem_append_right _ lm17))), List.forall_mem_cons.mpr ⟨(List.mem_cons_of_mem _ (List.mem_append_left _ (List.mem_append_right _ lm18))), List.forall_mem_cons.mpr ⟨(List.mem_cons_of_mem _ (List.mem_append_left _ (List.mem_append_right _ lm3))), List.forall_mem_cons.mpr ⟨(List.mem_cons_of_mem _ (List.mem_append_left _ (List.mem_append_right _ lm4))), List.forall_mem_cons.mpr ⟨(List.mem_cons_of_mem _ (List.mem_append_left _ (List.mem_append_right _ lm5))), List.forall_mem_cons.mpr ⟨(List.mem_cons_of_mem _ (List.mem_append_left _ (List.mem_append_right _ lm6))), List.forall_mem_cons.mpr ⟨(List.mem_cons_of_mem _ (List.mem_append_left _ (List.mem_append_left _ lm11))), List.forall_mem_cons.mpr ⟨(List.mem_cons_of_mem _ (List.mem_append_left _ (List.mem_append_left _ lm12))), List.forall_mem_cons.mpr ⟨(List.mem_cons_of_mem _ (List.mem_append_left _ (List.mem_append_left _ lm13))), List.forall_mem_cons.mpr ⟨(List.mem_cons_of_mem _ (List.mem_append_left _ (List.mem_append_left _ lm14))), List.forall_mem_cons.mpr ⟨(List.mem_cons_of_mem _ (List.mem_append_left _ (List.mem_append_left _ lm5))), (fun _ h => absurd h List.not_mem_nil)⟩⟩⟩⟩⟩⟩⟩⟩⟩⟩⟩⟩⟩⟩⟩⟩⟩⟩⟩⟩⟩⟩⟩⟩, List.forall_mem_cons.mpr ⟨(List.mem_cons_of_mem _ (List.mem_append_left _ (List.mem_append_left _ lm0))), List.forall_mem_cons.mpr ⟨(List.mem_cons_of_mem _ (List.mem_append_left _ (List.mem_append_left _ lm15))), List.forall_mem_cons.mpr ⟨(List.mem_cons_of_mem _ (List.mem_append_left _ (List.mem_append_left _ lm16))), (fun _ h => absurd h List.not_mem_nil)⟩⟩⟩⟩, (fun _ h => (List.mem_cons_of_mem _ (List.mem_append_right _ h)))⟩⟩) gw_X12_word)
theorem gw_X12_blank : wsX12_blank.all goodWord = true := by decide +kernel
theorem gX12_parse_X12_blank : GoodIn wsX12_parse (wsV RX12 298 RX12 yX12_blank wsX12_blank) := goodIn_app (goodIn_sub (List.forall_mem_cons.mpr ⟨(List.mem_cons_of_mem _ (List.mem_append_left _ (List.mem_append_right _ lm8))), List.forall_mem_cons.mpr ⟨(List.mem_cons_of_mem _ (List.mem_append_left _ (List.mem_append_right _ lm9))), List.forall_mem_cons.mpr ⟨(List.mem_cons_of_mem _ (List.mem_append_left _ (List.mem_append_right _ lm10))), List.forall_mem_cons.mpr ⟨(List.mem_cons_of_mem _ (List.mem_append_left _ (List.mem_append_left _ lm9))), (fun _ h => absurd h List.not_mem_nil)⟩⟩⟩⟩) (by decide +kernel)) (goodIn_sub (by unfold wsX12_blank; exact List.forall_mem_cons.mpr ⟨(List.mem_cons_of_mem _ (List.mem_append_left _ (List.mem_append_right _ lm11))), List.forall_mem_append.mpr ⟨List.forall_mem_cons.mpr ⟨(List.mem_cons_of_mem _ (List.mem_append_left _ (List.mem_append_left _ lm3))), List.forall_mem_cons.mpr ⟨(List.mem_cons_of_mem _ (List.mem_append_left _ (List.mem_append_left _ lm11))), List.forall_mem_cons.mpr ⟨(List.mem_cons_of_mem _ (List.mem_append_left _ (List.mem_append_left _ lm12))), List.forall_mem_cons.mpr ⟨(List.mem_cons_of_mem _ (List.mem_append_left _ (List.mem_append_left _ lm13))), List.forall_mem_cons.mpr ⟨(List.mem_cons_of_mem _ (List.mem_append_left _ (List.mem_append_left _ lm9))), List.forall_mem_cons.mpr ⟨(List.mem_cons_of_mem _ (List.mem_append_left _ (List.mem_append_left _ lm14))), List.forall_mem_cons.mpr ⟨(List.mem_cons_of_mem _ (List.mem_append_left _ (List.mem_append_left _ lm5))), List.forall_mem_cons.mpr ⟨(List.mem_cons_of_mem _ (List.mem_append_left _ (List.mem_append_left _ lm0))), List.forall_mem_cons.mpr ⟨(List.mem_cons_of_mem _ (List.mem_append_left _ (List.mem_append_left _ lm15))), List.forall_mem_cons.mpr ⟨(List.mem_cons_of_mem _ (List.mem_append_left _ (List.mem_append_left _ lm16))), (fun _ h => absurd h List.not_mem_nil)⟩⟩⟩⟩⟩⟩⟩⟩⟩⟩, (fun _ h => (List.mem_cons_of_mem _ (List.mem_append_right _ h)))⟩⟩) gw_X12_blank)
theorem gw_X12_optional : wsX12_optional.all goodWord = true := by decide +kernel
theorem gX12_parse_X12_optional : GoodIn wsX12_parse (wsV RX12 295 RX12 yX12_optional wsX12_optional) := goodIn_app (goodIn_sub (List.forall_mem_cons.mpr ⟨(List.mem_cons_of_mem _ (List.mem_append_left _ (List.mem_append_left _ lm17))), List.forall_mem_cons.mpr ⟨(List.mem_cons_of_mem _ (List.mem_append_left _ (List.mem_append_left _ lm18))), List.forall_mem_cons.mpr ⟨(List.mem_cons_of_mem _ (List.mem_append_left _ (List.mem_append_left _ lm19))), List.forall_mem_cons.mpr ⟨(List.mem_cons_of_mem _ (List.mem_append_left _ (List.mem_append_left _ lm9))), (fun _ h => absurd h List.not_mem_nil)⟩⟩⟩⟩) (by decide +kernel)) (goodIn_sub (by unfold wsX12_optional; exact List.forall_mem_cons.mpr ⟨(List.mem_cons_of_mem _ (List.mem_append_left _ (List.mem_append_left _ lm20))), List.forall_mem_append.mpr ⟨List.forall_mem_cons.mpr ⟨(List.mem_cons_of_mem _ (List.mem_append_left _ (List.mem_append_left _ lm3))), List.forall_mem_cons.mpr ⟨(List.mem_cons_of_mem _ (List.mem_append_left _ (List.mem_append_left _ lm4))), List.forall_mem_cons.mpr ⟨(List.mem_cons_of_mem _ (List.mem_append_left _ (List.mem_append_left _ lm21))), List.forall_mem_cons.mpr ⟨(List.mem_cons_of_mem _ (List.mem_append_left _ (List.mem_append_left _ lm1))), List.forall_mem_cons.mpr ⟨(List.mem_cons_of_mem _ (List.mem_append_left _ (List.mem_append_left _ lm22))), List.forall_mem_cons.mpr ⟨(List.mem_cons_of_mem _ (List.mem_append_left _ (List.mem_append_left _ lm23))), List.forall_mem_cons.mpr ⟨(List.mem_cons_of_mem _ (List.mem_append_left _ (List.mem_append_right _ lm0))), List.forall_mem_cons.mpr ⟨(List.mem_cons_of_mem _ (List.mem_append_left _ (List.mem_append_left _ lm9))), List.forall_mem_cons.mpr ⟨(List.mem_cons_of_mem _ (List.mem_append_left _ (List.mem_append_right _ lm1))), List.forall_mem_cons.mpr ⟨(List.mem_cons_of_mem _ (List.mem_append_left _ (List.mem_append_right _ lm2))), List.forall_mem_cons.mpr ⟨(List.mem_cons_of_mem _ (List.mem_append_left _ (List.mem_append_left _ lm2))), List.forall_mem_cons.mpr ⟨(List.mem_cons_of_mem _ (List.mem_append_left _ (List.mem_append_right _ lm3))), List.forall_mem_cons.mpr ⟨(List.mem_cons_of_mem _ (List.mem_append_left _ (List.mem_append_right _ lm4))), List.forall_mem_cons.mpr ⟨(List.mem_cons_of_mem _ (List.mem_append_left _ (List.mem_append_right _ lm5))), List.forall_mem_cons.mpr ⟨(List.mem_cons_of_mem _ (List.mem_append_left _ (List.mem_append_right _ lm6))), List.forall_mem_cons.mpr ⟨(List.mem_cons_of_mem _ (List.mem_append_left _ (List.mem_append_right _ lm7))), List.forall_mem_cons.mpr ⟨(List.mem_cons_of_mem _ (List.mem_append_left _ (List.mem_append_left _ lm11))), List.forall_mem_cons.mpr ⟨(List.mem_cons_of_mem _ (List.mem_append_left _ (List.mem_append_left _ lm12))), List.forall_mem_cons.mpr ⟨(List.mem_cons_of_mem _ (List.mem_append_left _ (List.mem_append_left _ lm13))), List.forall_mem_cons.mpr ⟨(List.mem_cons_of_mem _ (List.mem_append_left _ (List.mem_append_left _ lm14))), List.forall_mem_cons.mpr ⟨(List.mem_cons_of_mem _ (List.mem_append_left _ (List.mem_append_left _ lm5))), List.forall_mem_cons.mpr ⟨(List.mem_cons_of_mem _ (List.mem_append_left _ (List.mem_append_left _ lm0))), List.forall_mem_cons.mpr ⟨(List.mem_cons_of_mem _ (List.mem_append_left _ (List.mem_append_left _ lm15))), List.forall_mem_cons.mpr ⟨(List.mem_cons_of_mem _ (List.mem_append_left _ (List.mem_append_left _ lm16))), (fun _ h => absurd h List.not_mem_nil)⟩⟩⟩⟩⟩⟩⟩⟩⟩⟩⟩⟩⟩⟩⟩⟩⟩⟩⟩⟩⟩⟩⟩⟩, (fun _ h => (List.mem_cons_of_mem _ (List.mem_append_right _ h)))⟩⟩) gw_X12_optional)
theorem gw_X12_parameter : wsX12_parameter.all goodWord = true := by decide +kernel
theorem gX12_parse_X12_parameter : GoodIn wsX12_parse (wsV RX12 292 RX12 yX12_parameter wsX12_parameter) := goodIn_app (goodIn_sub (List.forall_mem_cons.mpr ⟨(List.mem_cons_of_mem _ (List.mem_append_left _ (List.mem_append_left _ lm6))), List.forall_mem_cons.mpr ⟨(List.mem_cons_of_mem _ (List.mem_append_left _ (List.mem_append_left _ lm7))), List.forall_mem_cons.mpr ⟨(List.mem_cons_of_mem _ (List.mem_append_left _ (List.mem_append_left _ lm8))), List.forall_mem_cons.mpr ⟨(List.mem_cons_of_mem _ (List.mem_append_left _ (List.mem_append_left _ lm9))), (fun _ h => absurd h List.not_mem_nil)⟩⟩⟩⟩) (by decide +kernel)) (goodIn_sub (by unfold wsX12_parameter; exact List.forall_mem_cons.mpr ⟨(List.mem_cons_of_mem _ (List.mem_append_left _ (List.mem_append_left _ lm10))), List.forall_mem_append.mpr ⟨List.forall_mem_cons.mpr ⟨(List.mem_cons_of_mem _ (List.mem_append_left _ (List.mem_append_left _ lm3))), List.forall_mem_cons.mpr ⟨(List.mem_cons_of_mem _ (List.mem_append_left _ (List.mem_append_left _ lm4))), List.forall_mem_cons.mpr ⟨(List.mem_cons_of_mem _ (List.mem_append_left _ (List.mem_append_left _ lm11))), List.forall_mem_cons.mpr ⟨(List.mem_cons_of_mem _ (List.mem_append_left _ (List.mem_append_left _ lm12))), List.forall_mem_cons.mpr ⟨(List.mem_cons_of_mem _ (List.mem_append_left _ (List.mem_append_left _ lm13))), List.forall_mem_cons.mpr ⟨(List.mem_cons_of_mem _ (List.mem_append_left _ (List.mem_append_left _ lm9))), List.forall_mem_cons.mpr ⟨(List.mem_cons_of_mem _ (List.mem_append_left _ (List.mem_append_left _ lm14))), List.forall_mem_cons.mpr ⟨(List.mem_cons_of_mem _ (List.mem_append_left _ (List.mem_append_left _ lm5))), List.forall_mem_cons.mpr ⟨(List.mem_cons_of_mem _ (List.mem_append_left _ (List.mem_append_left _ lm0))), List.forall_mem_cons.mpr ⟨(List.mem_cons_of_mem _ (List.mem_append_left _ (List.mem_append_left _ lm15))), List.forall_mem_cons.mpr ⟨(List.mem_cons_of_mem _ (List.mem_append_left _ (List.mem_append_left _ lm16))), (fun _ h => absurd h List.not_mem_nil)⟩⟩⟩⟩⟩⟩⟩⟩⟩⟩⟩, (fun _ h => (List.mem_cons_of_mem _ (List.mem_append_right _ h)))⟩⟩) gw_X12_parameter)
set_option maxHeartbeats 2000000 in
set_option maxRecDepth 100000 in
theorem m_parse_T (l : Launch) (D : va_G) (g : Nat → Nat) (ka : Nat → ClassId) (ad : Nat → Nat) (i : Nat → Nat → Int32) (r : Nat → Nat → Nat) (L : Nat → Nat → Int64) (d : Nat → Nat → UInt64) (y : Int32) (z : Int32) (hO : OkI i) (hR : RS r) (sz : Nat) (hy0 : 0 ≤ y.toInt) (hz0 : 0 ≤ z.toInt) (hyz : y.toInt + z.toInt ≤ 480) : Met l yX12_parse wsX12_parse ({ frames := 2, cells := 0, slots := 0, locals := 46 }) (va_Pc [.ref (g 36), .ref (g 379), .int y, .int z] (sj_B D (hwc g ka i r L d) (hT ka) sz (gx ad (va_A (hwc g ka i r L d) sz)))) (sj_Qi (S := (Nat → Nat → Int32)) D (fun v u => OkI u ∧ (∀ a b, ¬ ((a = 36 ∧ (b = 45 ∨ b = 49 ∨ b = 52 ∨ b = 54 ∨ b = 55)) ∨ a = 406 ∨ a = 407 ∨ a = 408 ∨ a = 409 ∨ a = 410 ∨ a = 411) → u a b = i a b) ∧ ((0 : Int) ≤ v.toInt ∧ v.toInt ≤ 1) ∧ ((v.toInt = 1 ∧ prOK (lnL (i 379) y.toInt (y.toInt + z.toInt)) ∧ c4 u ≤ 6 ∧ exI u ∧ (u 36 45).toInt ≤ 60) ∨ (v.toInt = 0 ∧ ¬ prOK (lnL (i 379) y.toInt (y.toInt + z.toInt))))) (fun u => hwc g ka u r L d) (fun _ => []) (va_A (hwc g ka i r L d) sz)) 0 0 (va_A (hwc g ka i r L d) sz) := by
  refine x_met (Ex := gx ad) (cc := cX12_parse) (maxL := 7) (ret := (some .boolean)) (by decide) rfl (Nat.le_of_ble_eq_true rfl) ?_
  intro p e s m below meth c A ls hx hb hr hml hts hown hlocks hA hS hH hK hE hl
  have hown : s.vm.findClass RX12 = some m.cls := hown
  have in12 : ∀ w ∈ wsX120, w ∈ wsX12_parse := (fun _ h => (List.mem_cons_of_mem _ (List.mem_append_right _ h)))
  have wd0 := hts (.fieldLink RX12 248 "StoryDeskModel" "parts" "I") (List.mem_cons_of_mem _ (List.mem_append_left _ (List.mem_append_left _ lm0)))
  have wd1 := hts (.fieldLink RX12 260 "StoryDeskModel" "texts" "I") (List.mem_cons_of_mem _ (List.mem_append_left _ (List.mem_append_left _ lm1)))
  have wd2 := hts (.fieldLink RX12 263 "StoryDeskModel" "pooled" "I") (List.mem_cons_of_mem _ (List.mem_append_left _ (List.mem_append_left _ lm2)))
  have wd3 := hts (.fieldLink RX12 269 "StoryDeskModel" "place" "I") (List.mem_cons_of_mem _ (List.mem_append_left _ (List.mem_append_left _ lm3)))
  have wd4 := hts (.fieldLink RX12 272 "StoryDeskModel" "until" "I") (List.mem_cons_of_mem _ (List.mem_append_left _ (List.mem_append_left _ lm4)))
  have wd5 := hts (.fieldLink RX12 245 "StoryDeskModel" "partKind" "[I") (List.mem_cons_of_mem _ (List.mem_append_left _ (List.mem_append_left _ lm5)))
  have hl : lv_has ls 7 [(0, .ref (g 36)), (1, .ref (g 379)), (2, .int y), (3, .int z)] := hl
  have hK : va_K D vwCl (hT ka) s := hK
  have hx45 : (0 : Int) ≤ (i 36 45).toInt ∧ (i 36 45).toInt ≤ 64 := hO 36 45
  have hx49 : (0 : Int) ≤ (i 36 49).toInt ∧ (i 36 49).toInt ≤ 64 := hO 36 49
  have hx52 : (0 : Int) ≤ (i 36 52).toInt ∧ (i 36 52).toInt ≤ 64 := hO 36 52
  have hx54 : (0 : Int) ≤ (i 36 54).toInt ∧ (i 36 54).toInt ≤ 720 := hO 36 54
  have hx55 : (0 : Int) ≤ (i 36 55).toInt ∧ (i 36 55).toInt ≤ 720 := hO 36 55
  refine lv_aload_n hx hb dX12_parse_0 rfl (lv_at hl 0 rfl) ?_
  refine lv_iconst (v := 0) hx hb dX12_parse_1 (by decide) ?_
  have hO_1 := okp hO (n := 36) (k := 45) (v := 0) (show (0 : Int) ≤ (0 : Int32).toInt ∧ (0 : Int32).toInt ≤ 64 from ⟨by decide, by decide⟩)
  refine h_puti (ty := .int) (ci := 12) (C := RX12) (F := TX12) (N := 86) hx hb hts in12 tyX12 tyX12_ok nmX12 hown hK hH hS (by decide) (rfl : kd 36 = 12) (by decide) rfl 45 (by decide) wd0 (fun _ h9 => h9) rfl (by decide +kernel) rfl rfl (by decide) rfl dX12_parse_2 (fun H locs hH hS => ?_)
  refine lv_aload_n hx hb dX12_parse_5 rfl (lv_at hl 0 rfl) ?_
  refine lv_iconst (v := 0) hx hb dX12_parse_6 (by decide) ?_
  have hO_2 := okp hO_1 (n := 36) (k := 49) (v := 0) (show (0 : Int) ≤ (0 : Int32).toInt ∧ (0 : Int32).toInt ≤ 64 from ⟨by decide, by decide⟩)
  refine h_puti (ty := .int) (ci := 12) (C := RX12) (F := TX12) (N := 86) hx hb hts in12 tyX12 tyX12_ok nmX12 hown hK hH hS (by decide) (rfl : kd 36 = 12) (by decide) rfl 49 (by decide) wd1 (fun _ h9 => h9) rfl (by decide +kernel) rfl rfl (by decide) rfl dX12_parse_7 (fun H locs hH hS => ?_)
  refine lv_aload_n hx hb dX12_parse_10 rfl (lv_at hl 0 rfl) ?_
  refine lv_iconst (v := 0) hx hb dX12_parse_11 (by decide) ?_
  have hO_3 := okp hO_2 (n := 36) (k := 52) (v := 0) (show (0 : Int) ≤ (0 : Int32).toInt ∧ (0 : Int32).toInt ≤ 64 from ⟨by decide, by decide⟩)
  refine h_puti (ty := .int) (ci := 12) (C := RX12) (F := TX12) (N := 86) hx hb hts in12 tyX12 tyX12_ok nmX12 hown hK hH hS (by decide) (rfl : kd 36 = 12) (by decide) rfl 52 (by decide) wd2 (fun _ h9 => h9) rfl (by decide +kernel) rfl rfl (by decide) rfl dX12_parse_12 (fun H locs hH hS => ?_)
  refine lv_aload_n hx hb dX12_parse_15 rfl (lv_at hl 0 rfl) ?_
  refine lv_iload_n hx hb dX12_parse_16 rfl (lv_at hl 2 rfl) ?_
  have hO_4 := okp hO_3 (n := 36) (k := 54) (v := y) (show (0 : Int) ≤ (y : Int32).toInt ∧ (y : Int32).toInt ≤ 720 from ⟨by omega, by omega⟩)
  refine h_puti (ty := .int) (ci := 12) (C := RX12) (F := TX12) (N := 86) hx hb hts in12 tyX12 tyX12_ok nmX12 hown hK hH hS (by decide) (rfl : kd 36 = 12) (by decide) rfl 54 (by decide) wd3 (fun _ h9 => h9) rfl (by decide +kernel) rfl rfl (by decide) rfl dX12_parse_17 (fun H locs hH hS => ?_)
  refine lv_aload_n hx hb dX12_parse_20 rfl (lv_at hl 0 rfl) ?_
  refine lv_iload_n hx hb dX12_parse_21 rfl (lv_at hl 2 rfl) ?_
  refine lv_iload_n hx hb dX12_parse_22 rfl (lv_at hl 3 rfl) ?_
  refine lv_iadd hx hb dX12_parse_23 ?_
  obtain ⟨z_5, ez_5, hz_5⟩ := s_add (rfl : y.toInt = _) (rfl : z.toInt = _) (by omega) (by omega)
  refine sj_i ez_5 ?_
  have hO_6 := okp hO_4 (n := 36) (k := 55) (v := z_5) (show (0 : Int) ≤ (z_5 : Int32).toInt ∧ (z_5 : Int32).toInt ≤ 720 from ⟨by omega, by omega⟩)
  refine h_puti (ty := .int) (ci := 12) (C := RX12) (F := TX12) (N := 86) hx hb hts in12 tyX12 tyX12_ok nmX12 hown hK hH hS (by decide) (rfl : kd 36 = 12) (by decide) rfl 55 (by decide) wd4 (fun _ h9 => h9) rfl (by decide +kernel) rfl rfl (by decide) rfl dX12_parse_24 (fun H locs hH hS => ?_)
  refine lv_iload_n hx hb dX12_parse_27 rfl (lv_at hl 3 rfl) ?_
  refine lv_if_le (tgt := 41) hx hb dX12_parse_28 (by decide) (fun c_7 => ?_) (fun c_7 => ?_)
  · skip
    have h_8 := s_le (rfl : z.toInt = _) (show (0 : Int32).toInt = 0 from rfl) c_7
    refine lv_iconst (v := 0) hx hb dX12_parse_41 (by decide) ?_
    refine lv_istore (lv' := [(4, .int 0), (0, .ref (g 36)), (1, .ref (g 379)), (2, .int y), (3, .int z)]) hx hb dX12_parse_42 hl (by decide) rfl (fun ls hl => ?_)
    -- loop at 44
    have lp_9 : ∀ (fuel_lp_9 : Nat) (gd : Int32) (j1 : Nat → Nat → Int32) (H : Heap) (locs : List Loc) (ls : Array Slot), (mzr gd.toInt ((y.toInt + z.toInt) - (j1 36 54).toInt)).toNat < fuel_lp_9 → (0 : Int) ≤ gd.toInt ∧ gd.toInt ≤ 1 → gd.toInt = 0 ∨ ((y.toInt ≤ (j1 36 54).toInt ∧ (j1 36 54).toInt ≤ (y.toInt + z.toInt)) ∧ (j1 36 45).toInt ≤ (j1 36 54).toInt - y.toInt ∧ (j1 36 49).toInt ≤ (j1 36 54).toInt - y.toInt ∧ (j1 36 52).toInt ≤ (j1 36 54).toInt - y.toInt) → exG gd.toInt j1 → ptR (i 379) y.toInt (y.toInt + z.toInt) gd.toInt (j1 36 54).toInt (c4 j1) → OkI j1 → (∀ a b, ¬ ((a = 36 ∧ (b = 45 ∨ b = 49 ∨ b = 52 ∨ b = 54)) ∨ a = 406 ∨ a = 407 ∨ a = 408 ∨ a = 409 ∨ a = 410 ∨ a = 411) → j1 a b = (up2 (up2 (up2 (up2 (up2 i 36 45 0) 36 49 0) 36 52 0) 36 54 y) 36 55 z_5) a b) → lv_has ls 7 [(4, .int gd), (0, .ref (g 36)), (1, .ref (g 379)), (2, .int y), (3, .int z)] → sj_H D A (hwc g ka j1 r L d) H → va_S A s.heap H locs → W p l e (headSpec wsX12_parse ({ frames := 2, cells := 0, slots := 0, locals := 46 })).room s m ([.ref (g 36), .ref (g 379), .int y, .int z] : List Value).toArray below meth c H locs 0 0 (MQ below (sj_Qi (S := (Nat → Nat → Int32)) D (fun v u => OkI u ∧ (∀ a b, ¬ ((a = 36 ∧ (b = 45 ∨ b = 49 ∨ b = 52 ∨ b = 54 ∨ b = 55)) ∨ a = 406 ∨ a = 407 ∨ a = 408 ∨ a = 409 ∨ a = 410 ∨ a = 411) → u a b = i a b) ∧ ((0 : Int) ≤ v.toInt ∧ v.toInt ≤ 1) ∧ ((v.toInt = 1 ∧ prOK (lnL (i 379) y.toInt (y.toInt + z.toInt)) ∧ c4 u ≤ 6 ∧ exI u ∧ (u 36 45).toInt ≤ 60) ∨ (v.toInt = 0 ∧ ¬ prOK (lnL (i 379) y.toInt (y.toInt + z.toInt))))) (fun u => hwc g ka u r L d) (fun _ => []) A) ([.ref (g 36), .ref (g 379), .int y, .int z] : List Value).toArray s 0 0 A) (F0 m 44 ls []) := by
      intro fuel_lp_9
      induction fuel_lp_9 with
      | zero => intros; omega
      | succ fuel_lp_9 ih_lp_9 =>
        intro gd j1 H locs ls hm hr_gd hi_lp_9_0 hi_lp_9_1 hi_lp_9_2 hO_j1 hfr_j1 hl hH hS
        have hx45j : (0 : Int) ≤ (j1 36 45).toInt ∧ (j1 36 45).toInt ≤ 64 := hO_j1 36 45
        refine lv_iload hx hb dX12_parse_44 (lv_at hl 0 rfl) ?_
        refine lv_if_eq (tgt := 122) hx hb dX12_parse_46 (by decide) (fun c_10 => ?_) (fun c_10 => ?_)
        · skip
          have h_11 := s_eq (rfl : gd.toInt = _) (show (0 : Int32).toInt = 0 from rfl) c_10
          refine lv_iconst (v := 0) hx hb dX12_parse_122 (by decide) ?_
          refine lv_istore (lv' := [(5, .int 0), (4, .int gd), (0, .ref (g 36)), (1, .ref (g 379)), (2, .int y), (3, .int z)]) hx hb dX12_parse_123 hl (by decide) rfl (fun ls hl => ?_)
          refine lv_iconst (v := 0) hx hb dX12_parse_125 (by decide) ?_
          refine lv_istore (lv' := [(6, .int 0), (5, .int 0), (4, .int gd), (0, .ref (g 36)), (1, .ref (g 379)), (2, .int y), (3, .int z)]) hx hb dX12_parse_126 hl (by decide) rfl (fun ls hl => ?_)
          -- loop at 128
          have lp_12 : ∀ (fuel_lp_12 : Nat) (t : Int32) (f : Int32) (H : Heap) (locs : List Loc) (ls : Array Slot), (64 - f.toInt).toNat < fuel_lp_12 → (0 : Int) ≤ t.toInt ∧ t.toInt ≤ 64 → (0 : Int) ≤ f.toInt ∧ f.toInt ≤ 64 → t.toInt ≤ f.toInt ∧ f.toInt ≤ (j1 36 45).toInt → t.toInt = (cnt (j1 406) 4 f.toInt.toNat : Int) → lv_has ls 7 [(6, .int f), (5, .int t), (4, .int gd), (0, .ref (g 36)), (1, .ref (g 379)), (2, .int y), (3, .int z)] → sj_H D A (hwc g ka j1 r L d) H → va_S A s.heap H locs → W p l e (headSpec wsX12_parse ({ frames := 2, cells := 0, slots := 0, locals := 46 })).room s m ([.ref (g 36), .ref (g 379), .int y, .int z] : List Value).toArray below meth c H locs 0 0 (MQ below (sj_Qi (S := (Nat → Nat → Int32)) D (fun v u => OkI u ∧ (∀ a b, ¬ ((a = 36 ∧ (b = 45 ∨ b = 49 ∨ b = 52 ∨ b = 54 ∨ b = 55)) ∨ a = 406 ∨ a = 407 ∨ a = 408 ∨ a = 409 ∨ a = 410 ∨ a = 411) → u a b = i a b) ∧ ((0 : Int) ≤ v.toInt ∧ v.toInt ≤ 1) ∧ ((v.toInt = 1 ∧ prOK (lnL (i 379) y.toInt (y.toInt + z.toInt)) ∧ c4 u ≤ 6 ∧ exI u ∧ (u 36 45).toInt ≤ 60) ∨ (v.toInt = 0 ∧ ¬ prOK (lnL (i 379) y.toInt (y.toInt + z.toInt))))) (fun u => hwc g ka u r L d) (fun _ => []) A) ([.ref (g 36), .ref (g 379), .int y, .int z] : List Value).toArray s 0 0 A) (F0 m 128 ls []) := by
            intro fuel_lp_12
            induction fuel_lp_12 with
            | zero => intros; omega
            | succ fuel_lp_12 ih_lp_12 =>
              intro t f H locs ls hm hr_t hr_f hi_lp_12_0 hi_lp_12_1 hl hH hS
              refine lv_iload hx hb dX12_parse_128 (lv_at hl 0 rfl) ?_
              refine lv_aload_n hx hb dX12_parse_130 rfl (lv_at hl 3 rfl) ?_
              have bx_13 : (0 : Int) ≤ (j1 36 45).toInt ∧ (j1 36 45).toInt ≤ 64 := hO_j1 36 45
              refine h_geti (ci := 12) (C := RX12) (F := TX12) (N := 86) hx hb hts in12 hown hK hH (by decide) (rfl : kd 36 = 12) (by decide) rfl 45 (by decide) wd0 (fun _ h9 => h9) (by decide) rfl dX12_parse_131 ?_
              refine lv_icmp_ge (tgt := 164) hx hb dX12_parse_134 (by decide) (fun c_14 => ?_) (fun c_14 => ?_)
              · skip
                have h_15 := s_le (rfl : (j1 36 45).toInt = _) (rfl : f.toInt = _) c_14
                refine lv_iload hx hb dX12_parse_164 (lv_at hl 2 rfl) ?_
                refine lv_if_eq (tgt := 180) hx hb dX12_parse_166 (by decide) (fun _ => ?_) (fun h => absurd (p_eq (rfl : gd.toInt = _) (show (0 : Int32).toInt = 0 from rfl) (by omega)) h)
                refine lv_iconst (v := 0) hx hb dX12_parse_180 (by decide) ?_
                have hlv_16 : (0 : Int32).toInt = 0 := rfl
                have hpe := pt_end hi_lp_9_2 (by omega) (fun _ => by omega)
                have hct : t.toInt = c4 j1 := by unfold c4; rw [show (j1 36 45).toInt.toNat = f.toInt.toNat by omega]; omega
                have hV_17 : ((0 : Int32).toInt = 1 ∧ prOK (lnL (i 379) y.toInt (y.toInt + z.toInt)) ∧ c4 j1 ≤ 6 ∧ exI j1 ∧ (j1 36 45).toInt ≤ 60) ∨ ((0 : Int32).toInt = 0 ∧ ¬ prOK (lnL (i 379) y.toInt (y.toInt + z.toInt))) := (Or.inr ⟨by omega, hpe.elim (fun q => (q.2.2.resolve_left (fun q8 => by have q7 := q8.1; have q6 := q.1; omega)).2) (fun q => q.2)⟩)
                exact sj_zret hx hb hr hlocks (by decide +kernel) hS j1 ⟨hO_j1, (fun a b ha => ((hfr_j1 a b (by omega)).trans ((up2_o _ _ (by omega)).trans ((up2_o _ _ (by omega)).trans ((up2_o _ _ (by omega)).trans ((up2_o _ _ (by omega)).trans (up2_o _ _ (by omega)))))))), ⟨by decide, by decide⟩, hV_17⟩ hH (sj_Knil hK) (Nat.le_of_ble_eq_true rfl) (Nat.le_of_ble_eq_true rfl) dX12_parse_181
              · skip
                have h_18 := s_nle (rfl : (j1 36 45).toInt = _) (rfl : f.toInt = _) c_14
                refine lv_iload hx hb dX12_parse_137 (lv_at hl 1 rfl) ?_
                refine lv_aload_n hx hb dX12_parse_139 rfl (lv_at hl 3 rfl) ?_
                refine h_getr (ci := 12) (C := RX12) (F := TX12) (N := 86) hx hb hts in12 hown hK hH (by decide) (rfl : kd 36 = 12) (by decide) rfl 46 (by decide) wd5 (fun _ h9 => h9) (by decide) rfl (t := 406) (hR 36 46 rfl) (by decide) dX12_parse_140 ?_
                refine lv_iload hx hb dX12_parse_143 (lv_at hl 0 rfl) ?_
                have hc_19 := cnt_or (j1 406) 4 f.toInt.toNat
                refine h_iald hx hb hK hH (by decide) (rfl : kd 406 = 13) (s_vin (N := 64) (rfl : f.toInt = _) (rfl : ln 406 = 64) (by omega) (by omega)) dX12_parse_145 ?_
                have ek_20 : f.toNatClampNeg = (f.toInt).toNat := (s_cl (show f.toInt = f.toInt by omega))
                refine sj_i (y := (j1 406 (f.toInt).toNat)) (by rw [ek_20]) ?_
                refine lv_iconst (v := 4) hx hb dX12_parse_146 (by decide) ?_
                refine lv_icmp_ne (tgt := 154) hx hb dX12_parse_147 (by decide) (fun c_21 => ?_) (fun c_21 => ?_)
                · skip
                  have h_22 := s_ne (rfl : (j1 406 (f.toInt).toNat).toInt = _) (show (4 : Int32).toInt = 4 from rfl) c_21
                  refine lv_iconst (v := 0) hx hb dX12_parse_154 (by decide) ?_
                  refine lv_iadd hx hb dX12_parse_155 ?_
                  obtain ⟨z_23, ez_23, hz_23⟩ := s_add (rfl : t.toInt = _) (show (0 : Int32).toInt = 0 from rfl) (by omega) (by omega)
                  refine sj_i ez_23 ?_
                  refine lv_istore (lv' := [(5, .int z_23), (6, .int f), (4, .int gd), (0, .ref (g 36)), (1, .ref (g 379)), (2, .int y), (3, .int z)]) hx hb dX12_parse_156 hl (by decide) rfl (fun ls hl => ?_)
                  obtain ⟨z_24, ez_24, hz_24⟩ := s_add (rfl : f.toInt = _) (show (1 : Int32).toInt = 1 from rfl) (by omega) (by omega)
                  refine lv_iinc (v := z_24) (lv' := [(6, .int z_24), (5, .int z_23), (4, .int gd), (0, .ref (g 36)), (1, .ref (g 379)), (2, .int y), (3, .int z)]) hx hb dX12_parse_158 hl (k := 1) rfl ez_24 (by decide) rfl (fun ls hl => ?_)
                  refine lv_goto (tgt := 128) hx hb dX12_parse_161 (by decide) ?_
                  exact ih_lp_12 z_23 z_24 _ _ ls (by omega) (by omega) (by omega) (by omega) (by rw [show (z_24).toInt.toNat = f.toInt.toNat + 1 by omega]; omega) (lv_sub hl [0, 1, 2, 3, 4, 5, 6] rfl) hH hS
                · skip
                  have h_25 := s_eq (rfl : (j1 406 (f.toInt).toNat).toInt = _) (show (4 : Int32).toInt = 4 from rfl) c_21
                  refine lv_iconst (v := 1) hx hb dX12_parse_150 (by decide) ?_
                  refine lv_goto (tgt := 155) hx hb dX12_parse_151 (by decide) ?_
                  refine lv_iadd hx hb dX12_parse_155 ?_
                  obtain ⟨z_26, ez_26, hz_26⟩ := s_add (rfl : t.toInt = _) (show (1 : Int32).toInt = 1 from rfl) (by omega) (by omega)
                  refine sj_i ez_26 ?_
                  refine lv_istore (lv' := [(5, .int z_26), (6, .int f), (4, .int gd), (0, .ref (g 36)), (1, .ref (g 379)), (2, .int y), (3, .int z)]) hx hb dX12_parse_156 hl (by decide) rfl (fun ls hl => ?_)
                  obtain ⟨z_27, ez_27, hz_27⟩ := s_add (rfl : f.toInt = _) (show (1 : Int32).toInt = 1 from rfl) (by omega) (by omega)
                  refine lv_iinc (v := z_27) (lv' := [(6, .int z_27), (5, .int z_26), (4, .int gd), (0, .ref (g 36)), (1, .ref (g 379)), (2, .int y), (3, .int z)]) hx hb dX12_parse_158 hl (k := 1) rfl ez_27 (by decide) rfl (fun ls hl => ?_)
                  refine lv_goto (tgt := 128) hx hb dX12_parse_161 (by decide) ?_
                  exact ih_lp_12 z_26 z_27 _ _ ls (by omega) (by omega) (by omega) (by omega) (by rw [show (z_27).toInt.toNat = f.toInt.toNat + 1 by omega]; omega) (lv_sub hl [0, 1, 2, 3, 4, 5, 6] rfl) hH hS
          have hl_28 : (0 : Int32).toInt = 0 := rfl
          have hl_29 : (0 : Int32).toInt = 0 := rfl
          exact lp_12 _ 0 0 _ _ ls (Nat.lt_succ_self _) (by omega) (by omega) (by omega) (by rfl) (lv_sub hl [0, 1, 2, 3, 4, 5, 6] rfl) hH hS
        · skip
          have h_30 := s_ne (rfl : gd.toInt = _) (show (0 : Int32).toInt = 0 from rfl) c_10
          have hexj := hi_lp_9_1.resolve_left (fun q => by omega)
          have hbj := hi_lp_9_0.resolve_left (fun q => by omega)
          have hpt := hi_lp_9_2.resolve_right (fun q => by have := q.1; omega)
          have hpz := hpt.2.1
          refine lv_aload_n hx hb dX12_parse_49 rfl (lv_at hl 1 rfl) ?_
          have bx_31 : (0 : Int) ≤ (j1 36 54).toInt ∧ (j1 36 54).toInt ≤ 720 := hO_j1 36 54
          refine h_geti (ci := 12) (C := RX12) (F := TX12) (N := 86) hx hb hts in12 hown hK hH (by decide) (rfl : kd 36 = 12) (by decide) rfl 54 (by decide) wd3 (fun _ h9 => h9) (by decide) rfl dX12_parse_50 ?_
          refine lv_aload_n hx hb dX12_parse_53 rfl (lv_at hl 1 rfl) ?_
          refine h_geti (ci := 12) (C := RX12) (F := TX12) (N := 86) hx hb hts in12 hown hK hH (by decide) (rfl : kd 36 = 12) (by decide) rfl 55 (by decide) wd4 (fun _ h9 => h9) (by decide) rfl dX12_parse_54 ?_
          refine sj_i (y := z_5) ((hfr_j1 36 55 (by omega)).trans (up2_at _ _ _ _)) ?_
          refine lv_icmp_ge (tgt := 122) hx hb dX12_parse_57 (by decide) (fun c_32 => ?_) (fun c_32 => ?_)
          · skip
            have h_33 := s_le (rfl : z_5.toInt = _) (rfl : (j1 36 54).toInt = _) c_32
            refine lv_iconst (v := 0) hx hb dX12_parse_122 (by decide) ?_
            refine lv_istore (lv' := [(5, .int 0), (4, .int gd), (0, .ref (g 36)), (1, .ref (g 379)), (2, .int y), (3, .int z)]) hx hb dX12_parse_123 hl (by decide) rfl (fun ls hl => ?_)
            refine lv_iconst (v := 0) hx hb dX12_parse_125 (by decide) ?_
            refine lv_istore (lv' := [(6, .int 0), (5, .int 0), (4, .int gd), (0, .ref (g 36)), (1, .ref (g 379)), (2, .int y), (3, .int z)]) hx hb dX12_parse_126 hl (by decide) rfl (fun ls hl => ?_)
            -- loop at 128
            have lp_34 : ∀ (fuel_lp_34 : Nat) (t : Int32) (f : Int32) (H : Heap) (locs : List Loc) (ls : Array Slot), (64 - f.toInt).toNat < fuel_lp_34 → (0 : Int) ≤ t.toInt ∧ t.toInt ≤ 64 → (0 : Int) ≤ f.toInt ∧ f.toInt ≤ 64 → t.toInt ≤ f.toInt ∧ f.toInt ≤ (j1 36 45).toInt → t.toInt = (cnt (j1 406) 4 f.toInt.toNat : Int) → lv_has ls 7 [(6, .int f), (5, .int t), (4, .int gd), (0, .ref (g 36)), (1, .ref (g 379)), (2, .int y), (3, .int z)] → sj_H D A (hwc g ka j1 r L d) H → va_S A s.heap H locs → W p l e (headSpec wsX12_parse ({ frames := 2, cells := 0, slots := 0, locals := 46 })).room s m ([.ref (g 36), .ref (g 379), .int y, .int z] : List Value).toArray below meth c H locs 0 0 (MQ below (sj_Qi (S := (Nat → Nat → Int32)) D (fun v u => OkI u ∧ (∀ a b, ¬ ((a = 36 ∧ (b = 45 ∨ b = 49 ∨ b = 52 ∨ b = 54 ∨ b = 55)) ∨ a = 406 ∨ a = 407 ∨ a = 408 ∨ a = 409 ∨ a = 410 ∨ a = 411) → u a b = i a b) ∧ ((0 : Int) ≤ v.toInt ∧ v.toInt ≤ 1) ∧ ((v.toInt = 1 ∧ prOK (lnL (i 379) y.toInt (y.toInt + z.toInt)) ∧ c4 u ≤ 6 ∧ exI u ∧ (u 36 45).toInt ≤ 60) ∨ (v.toInt = 0 ∧ ¬ prOK (lnL (i 379) y.toInt (y.toInt + z.toInt))))) (fun u => hwc g ka u r L d) (fun _ => []) A) ([.ref (g 36), .ref (g 379), .int y, .int z] : List Value).toArray s 0 0 A) (F0 m 128 ls []) := by
              intro fuel_lp_34
              induction fuel_lp_34 with
              | zero => intros; omega
              | succ fuel_lp_34 ih_lp_34 =>
                intro t f H locs ls hm hr_t hr_f hi_lp_34_0 hi_lp_34_1 hl hH hS
                refine lv_iload hx hb dX12_parse_128 (lv_at hl 0 rfl) ?_
                refine lv_aload_n hx hb dX12_parse_130 rfl (lv_at hl 3 rfl) ?_
                have bx_35 : (0 : Int) ≤ (j1 36 45).toInt ∧ (j1 36 45).toInt ≤ 64 := hO_j1 36 45
                refine h_geti (ci := 12) (C := RX12) (F := TX12) (N := 86) hx hb hts in12 hown hK hH (by decide) (rfl : kd 36 = 12) (by decide) rfl 45 (by decide) wd0 (fun _ h9 => h9) (by decide) rfl dX12_parse_131 ?_
                refine lv_icmp_ge (tgt := 164) hx hb dX12_parse_134 (by decide) (fun c_36 => ?_) (fun c_36 => ?_)
                · skip
                  have h_37 := s_le (rfl : (j1 36 45).toInt = _) (rfl : f.toInt = _) c_36
                  refine lv_iload hx hb dX12_parse_164 (lv_at hl 2 rfl) ?_
                  refine lv_if_eq (tgt := 180) hx hb dX12_parse_166 (by decide) (fun h => absurd h (p_ne (rfl : gd.toInt = _) (show (0 : Int32).toInt = 0 from rfl) (by omega))) (fun _ => ?_)
                  refine lv_iload hx hb dX12_parse_169 (lv_at hl 1 rfl) ?_
                  refine lv_bipush (v := 6) hx hb dX12_parse_171 (by decide) ?_
                  refine lv_icmp_gt (tgt := 180) hx hb dX12_parse_173 (by decide) (fun c_38 => ?_) (fun c_38 => ?_)
                  · skip
                    have h_39 := s_lt (show (6 : Int32).toInt = 6 from rfl) (rfl : t.toInt = _) c_38
                    refine lv_iconst (v := 0) hx hb dX12_parse_180 (by decide) ?_
                    have hlv_40 : (0 : Int32).toInt = 0 := rfl
                    have hpe := pt_end hi_lp_9_2 (by omega) (fun _ => by omega)
                    have hct : t.toInt = c4 j1 := by unfold c4; rw [show (j1 36 45).toInt.toNat = f.toInt.toNat by omega]; omega
                    have hV_41 : ((0 : Int32).toInt = 1 ∧ prOK (lnL (i 379) y.toInt (y.toInt + z.toInt)) ∧ c4 j1 ≤ 6 ∧ exI j1 ∧ (j1 36 45).toInt ≤ 60) ∨ ((0 : Int32).toInt = 0 ∧ ¬ prOK (lnL (i 379) y.toInt (y.toInt + z.toInt))) := (Or.inr ⟨by omega, hpe.elim (fun q => (q.2.2.resolve_left (fun q8 => by have q7 := q8.1; have q6 := q.1; omega)).2) (fun q => q.2)⟩)
                    exact sj_zret hx hb hr hlocks (by decide +kernel) hS j1 ⟨hO_j1, (fun a b ha => ((hfr_j1 a b (by omega)).trans ((up2_o _ _ (by omega)).trans ((up2_o _ _ (by omega)).trans ((up2_o _ _ (by omega)).trans ((up2_o _ _ (by omega)).trans (up2_o _ _ (by omega)))))))), ⟨by decide, by decide⟩, hV_41⟩ hH (sj_Knil hK) (Nat.le_of_ble_eq_true rfl) (Nat.le_of_ble_eq_true rfl) dX12_parse_181
                  · skip
                    have h_42 := s_nlt (show (6 : Int32).toInt = 6 from rfl) (rfl : t.toInt = _) c_38
                    refine lv_iconst (v := 1) hx hb dX12_parse_176 (by decide) ?_
                    refine lv_goto (tgt := 181) hx hb dX12_parse_177 (by decide) ?_
                    have hlv_43 : (1 : Int32).toInt = 1 := rfl
                    have hpe := pt_end hi_lp_9_2 (by omega) (fun _ => by omega)
                    have hct : t.toInt = c4 j1 := by unfold c4; rw [show (j1 36 45).toInt.toNat = f.toInt.toNat by omega]; omega
                    have hV_44 : ((1 : Int32).toInt = 1 ∧ prOK (lnL (i 379) y.toInt (y.toInt + z.toInt)) ∧ c4 j1 ≤ 6 ∧ exI j1 ∧ (j1 36 45).toInt ≤ 60) ∨ ((1 : Int32).toInt = 0 ∧ ¬ prOK (lnL (i 379) y.toInt (y.toInt + z.toInt))) := (Or.inl ⟨by omega, ((hpe.resolve_right (fun q => by have := q.1; omega)).2.2.resolve_right (fun q => by have := q.1; omega)).2, by omega, hi_lp_9_1.resolve_left (fun q => by omega), by have := hi_lp_9_0.resolve_left (fun q => by omega); have := (hpe.resolve_right (fun q => by have := q.1; omega)).2.1; omega⟩)
                    exact sj_zret hx hb hr hlocks (by decide +kernel) hS j1 ⟨hO_j1, (fun a b ha => ((hfr_j1 a b (by omega)).trans ((up2_o _ _ (by omega)).trans ((up2_o _ _ (by omega)).trans ((up2_o _ _ (by omega)).trans ((up2_o _ _ (by omega)).trans (up2_o _ _ (by omega)))))))), ⟨by decide, by decide⟩, hV_44⟩ hH (sj_Knil hK) (Nat.le_of_ble_eq_true rfl) (Nat.le_of_ble_eq_true rfl) dX12_parse_181
                · skip
                  have h_45 := s_nle (rfl : (j1 36 45).toInt = _) (rfl : f.toInt = _) c_36
                  refine lv_iload hx hb dX12_parse_137 (lv_at hl 1 rfl) ?_
                  refine lv_aload_n hx hb dX12_parse_139 rfl (lv_at hl 3 rfl) ?_
                  refine h_getr (ci := 12) (C := RX12) (F := TX12) (N := 86) hx hb hts in12 hown hK hH (by decide) (rfl : kd 36 = 12) (by decide) rfl 46 (by decide) wd5 (fun _ h9 => h9) (by decide) rfl (t := 406) (hR 36 46 rfl) (by decide) dX12_parse_140 ?_
                  refine lv_iload hx hb dX12_parse_143 (lv_at hl 0 rfl) ?_
                  have hc_46 := cnt_or (j1 406) 4 f.toInt.toNat
                  refine h_iald hx hb hK hH (by decide) (rfl : kd 406 = 13) (s_vin (N := 64) (rfl : f.toInt = _) (rfl : ln 406 = 64) (by omega) (by omega)) dX12_parse_145 ?_
                  have ek_47 : f.toNatClampNeg = (f.toInt).toNat := (s_cl (show f.toInt = f.toInt by omega))
                  refine sj_i (y := (j1 406 (f.toInt).toNat)) (by rw [ek_47]) ?_
                  refine lv_iconst (v := 4) hx hb dX12_parse_146 (by decide) ?_
                  refine lv_icmp_ne (tgt := 154) hx hb dX12_parse_147 (by decide) (fun c_48 => ?_) (fun c_48 => ?_)
                  · skip
                    have h_49 := s_ne (rfl : (j1 406 (f.toInt).toNat).toInt = _) (show (4 : Int32).toInt = 4 from rfl) c_48
                    refine lv_iconst (v := 0) hx hb dX12_parse_154 (by decide) ?_
                    refine lv_iadd hx hb dX12_parse_155 ?_
                    obtain ⟨z_50, ez_50, hz_50⟩ := s_add (rfl : t.toInt = _) (show (0 : Int32).toInt = 0 from rfl) (by omega) (by omega)
                    refine sj_i ez_50 ?_
                    refine lv_istore (lv' := [(5, .int z_50), (6, .int f), (4, .int gd), (0, .ref (g 36)), (1, .ref (g 379)), (2, .int y), (3, .int z)]) hx hb dX12_parse_156 hl (by decide) rfl (fun ls hl => ?_)
                    obtain ⟨z_51, ez_51, hz_51⟩ := s_add (rfl : f.toInt = _) (show (1 : Int32).toInt = 1 from rfl) (by omega) (by omega)
                    refine lv_iinc (v := z_51) (lv' := [(6, .int z_51), (5, .int z_50), (4, .int gd), (0, .ref (g 36)), (1, .ref (g 379)), (2, .int y), (3, .int z)]) hx hb dX12_parse_158 hl (k := 1) rfl ez_51 (by decide) rfl (fun ls hl => ?_)
                    refine lv_goto (tgt := 128) hx hb dX12_parse_161 (by decide) ?_
                    exact ih_lp_34 z_50 z_51 _ _ ls (by omega) (by omega) (by omega) (by omega) (by rw [show (z_51).toInt.toNat = f.toInt.toNat + 1 by omega]; omega) (lv_sub hl [0, 1, 2, 3, 4, 5, 6] rfl) hH hS
                  · skip
                    have h_52 := s_eq (rfl : (j1 406 (f.toInt).toNat).toInt = _) (show (4 : Int32).toInt = 4 from rfl) c_48
                    refine lv_iconst (v := 1) hx hb dX12_parse_150 (by decide) ?_
                    refine lv_goto (tgt := 155) hx hb dX12_parse_151 (by decide) ?_
                    refine lv_iadd hx hb dX12_parse_155 ?_
                    obtain ⟨z_53, ez_53, hz_53⟩ := s_add (rfl : t.toInt = _) (show (1 : Int32).toInt = 1 from rfl) (by omega) (by omega)
                    refine sj_i ez_53 ?_
                    refine lv_istore (lv' := [(5, .int z_53), (6, .int f), (4, .int gd), (0, .ref (g 36)), (1, .ref (g 379)), (2, .int y), (3, .int z)]) hx hb dX12_parse_156 hl (by decide) rfl (fun ls hl => ?_)
                    obtain ⟨z_54, ez_54, hz_54⟩ := s_add (rfl : f.toInt = _) (show (1 : Int32).toInt = 1 from rfl) (by omega) (by omega)
                    refine lv_iinc (v := z_54) (lv' := [(6, .int z_54), (5, .int z_53), (4, .int gd), (0, .ref (g 36)), (1, .ref (g 379)), (2, .int y), (3, .int z)]) hx hb dX12_parse_158 hl (k := 1) rfl ez_54 (by decide) rfl (fun ls hl => ?_)
                    refine lv_goto (tgt := 128) hx hb dX12_parse_161 (by decide) ?_
                    exact ih_lp_34 z_53 z_54 _ _ ls (by omega) (by omega) (by omega) (by omega) (by rw [show (z_54).toInt.toNat = f.toInt.toNat + 1 by omega]; omega) (lv_sub hl [0, 1, 2, 3, 4, 5, 6] rfl) hH hS
            have hl_55 : (0 : Int32).toInt = 0 := rfl
            have hl_56 : (0 : Int32).toInt = 0 := rfl
            exact lp_34 _ 0 0 _ _ ls (Nat.lt_succ_self _) (by omega) (by omega) (by omega) (by rfl) (lv_sub hl [0, 1, 2, 3, 4, 5, 6] rfl) hH hS
          · skip
            have h_57 := s_nle (rfl : z_5.toInt = _) (rfl : (j1 36 54).toInt = _) c_32
            refine lv_aload_n hx hb dX12_parse_60 rfl (lv_at hl 2 rfl) ?_
            refine lv_aload_n hx hb dX12_parse_61 rfl (lv_at hl 1 rfl) ?_
            refine h_geti (ci := 12) (C := RX12) (F := TX12) (N := 86) hx hb hts in12 hown hK hH (by decide) (rfl : kd 36 = 12) (by decide) rfl 54 (by decide) wd3 (fun _ h9 => h9) (by decide) rfl dX12_parse_62 ?_
            have bx_58 : (0 : Int) ≤ (i 379 ((j1 36 54).toInt).toNat).toInt ∧ (i 379 ((j1 36 54).toInt).toNat).toInt ≤ 65535 := hO 379 ((j1 36 54).toInt).toNat
            refine h_cald hx hb hK hH (by decide) (rfl : kd 379 = 14) (s_vin (N := 480) (rfl : (j1 36 54).toInt = _) (rfl : ln 379 = 480) (by omega) (by omega)) dX12_parse_65 ?_
            have ek_59 : (j1 36 54).toNatClampNeg = ((j1 36 54).toInt).toNat := (s_cl (show (j1 36 54).toInt = (j1 36 54).toInt by omega))
            refine sj_i (y := (i 379 ((j1 36 54).toInt).toNat)) (by rw [ek_59]; exact ((hfr_j1 379 ((j1 36 54).toInt).toNat (by omega)).trans ((congrFun (up2_n _ _ (by decide)) _).trans ((congrFun (up2_n _ _ (by decide)) _).trans ((congrFun (up2_n _ _ (by decide)) _).trans ((congrFun (up2_n _ _ (by decide)) _).trans (congrFun (up2_n _ _ (by decide)) _))))))) ?_
            refine lv_istore (lv' := [(5, .int (i 379 ((j1 36 54).toInt).toNat)), (4, .int gd), (0, .ref (g 36)), (1, .ref (g 379)), (2, .int y), (3, .int z)]) hx hb dX12_parse_66 hl (by decide) rfl (fun ls hl => ?_)
            refine lv_iload hx hb dX12_parse_68 (lv_at hl 0 rfl) ?_
            refine lv_bipush (v := 123) hx hb dX12_parse_70 (by decide) ?_
            refine lv_icmp_ne (tgt := 83) hx hb dX12_parse_72 (by decide) (fun c_60 => ?_) (fun c_60 => ?_)
            · skip
              have h_61 := s_ne (rfl : (i 379 ((j1 36 54).toInt).toNat).toInt = _) (show (123 : Int32).toInt = 123 from rfl) c_60
              refine lv_iload hx hb dX12_parse_83 (lv_at hl 0 rfl) ?_
              refine lv_bipush (v := 40) hx hb dX12_parse_85 (by decide) ?_
              refine lv_icmp_ne (tgt := 98) hx hb dX12_parse_87 (by decide) (fun c_62 => ?_) (fun c_62 => ?_)
              · skip
                have h_63 := s_ne (rfl : (i 379 ((j1 36 54).toInt).toNat).toInt = _) (show (40 : Int32).toInt = 40 from rfl) c_62
                refine lv_iload hx hb dX12_parse_98 (lv_at hl 0 rfl) ?_
                refine lv_bipush (v := 32) hx hb dX12_parse_100 (by decide) ?_
                refine lv_icmp_ne (tgt := 112) hx hb dX12_parse_102 (by decide) (fun c_64 => ?_) (fun c_64 => ?_)
                · skip
                  have h_65 := s_ne (rfl : (i 379 ((j1 36 54).toInt).toNat).toInt = _) (show (32 : Int32).toInt = 32 from rfl) c_64
                  refine lv_aload_n hx hb dX12_parse_112 rfl (lv_at hl 2 rfl) ?_
                  refine lv_aload_n hx hb dX12_parse_113 rfl (lv_at hl 3 rfl) ?_
                  have hwt_66 : (j1 36 55).toInt = (z_5 : Int32).toInt := congrArg Int32.toInt ((hfr_j1 36 55 (by omega)).trans (up2_at _ _ _ _))
                  refine x_calli (va_runV (As := [.ref (g 379)]) (rest := []) ⟨hx, hb, hml, hown, hts⟩ (m_word_T l D g ka ad j1 r L d  hO_j1 hR H.size (by first | omega | decide) (by first | omega | decide) (by first | omega | decide) (by first | omega | decide) (by first | omega | decide) hexj) (cwV 1 hts gX12_parse_X12_word rfl rfl rfl (by decide +kernel) ⟨(Nat.le_of_ble_eq_true rfl), (Nat.le_of_ble_eq_true rfl)⟩) (x_preV (q := (RX12, TX12, 86)) hH hK (q_obj (by decide) (rfl : kd 36 = 12) (by decide)) rfl gxb (gxw hE hS (x_F hH hS hA))) rfl rfl hl.1 rfl (lv_room (Nat.le_of_ble_eq_true rfl)) dX12_parse_114 ⟨(Nat.le_of_ble_eq_true rfl), (Nat.le_of_ble_eq_true rfl)⟩) hH hS hA rfl rfl (fun r_67 im_69 H locs hw_68 hH hS => ?_)
                  have hH : sj_H D A (hwc g ka im_69 r L d) H := hH
                  obtain ⟨hO_71, hfr_70, hr_72, hx2_73⟩ := hw_68
                  have hr_72 : (0 : Int) ≤ r_67.toInt ∧ r_67.toInt ≤ 1 := hr_72
                  have hu55 : (j1 36 55).toInt = y.toInt + z.toInt := by have h9 := (congrArg Int32.toInt (((hfr_j1 36 55 (by omega)).trans (up2_at _ _ _ _))) : (j1 36 55).toInt = (z_5 : Int32).toInt); omega
                  rw [show j1 379 = i 379 from funext fun b9 => ((hfr_j1 379 b9 (by omega)).trans ((up2_o _ _ (by omega)).trans ((up2_o _ _ (by omega)).trans ((up2_o _ _ (by omega)).trans ((up2_o _ _ (by omega)).trans (up2_o _ _ (by omega))))))), show (j1 36 55).toInt = (y.toInt + z.toInt) from hu55] at hx2_73
                  have hbd : r_67.toInt = 0 ∨ ((j1 36 54).toInt + 1 ≤ (im_69 36 54).toInt ∧ (im_69 36 54).toInt ≤ (y.toInt + z.toInt) ∧ (im_69 36 45).toInt - (j1 36 45).toInt ≤ (im_69 36 54).toInt - (j1 36 54).toInt ∧ (im_69 36 49).toInt - (j1 36 49).toInt ≤ (im_69 36 54).toInt - (j1 36 54).toInt ∧ (im_69 36 52).toInt - (j1 36 52).toInt ≤ (im_69 36 54).toInt - (j1 36 54).toInt) := hx2_73.elim (fun q => Or.inr ⟨q.2.2.1, q.2.2.2.1, q.2.2.2.2.1, q.2.2.2.2.2.1, q.2.2.2.2.2.2.1⟩) (fun q => Or.inl q.1)
                  have hexn : exG r_67.toInt im_69 := hx2_73.elim (fun q => Or.inr q.2.2.2.2.2.2.2.2) (fun q => Or.inl q.1)
                  refine lv_istore (lv' := [(4, .int r_67), (5, .int (i 379 ((j1 36 54).toInt).toNat)), (0, .ref (g 36)), (1, .ref (g 379)), (2, .int y), (3, .int z)]) hx hb dX12_parse_117 hl (by decide) rfl (fun ls hl => ?_)
                  refine lv_goto (tgt := 44) hx hb dX12_parse_119 (by decide) ?_
                  have hp_74 : (im_69 36 45).toInt = ((im_69 36 45) : Int32).toInt := rfl
                  have hp_75 : (im_69 36 49).toInt = ((im_69 36 49) : Int32).toInt := rfl
                  have hp_76 : (im_69 36 52).toInt = ((im_69 36 52) : Int32).toInt := rfl
                  have hp_77 : (im_69 36 54).toInt = ((im_69 36 54) : Int32).toInt := rfl
                  exact ih_lp_9 r_67 _ _ _ ls (mz_lt hm (by omega) (by omega) (by omega)) (by omega) (by omega) hexn (pt_wd hi_lp_9_2 (by omega) (by omega) (by omega) (by omega) (by omega) (by omega) (hx2_73.elim (fun q => Or.inl ⟨q.1, q.2.1, q.2.2.1, q.2.2.2.2.2.2.2.1⟩) Or.inr)) hO_71 (fun a b ha => ((hfr_70 a b (by omega)).trans (hfr_j1 a b (by omega)))) (lv_sub hl [0, 2, 3, 4, 5] rfl) hH hS
                · skip
                  have h_78 := s_eq (rfl : (i 379 ((j1 36 54).toInt).toNat).toInt = _) (show (32 : Int32).toInt = 32 from rfl) c_64
                  refine lv_aload_n hx hb dX12_parse_105 rfl (lv_at hl 2 rfl) ?_
                  have hwt_79 : (j1 36 55).toInt = (z_5 : Int32).toInt := congrArg Int32.toInt ((hfr_j1 36 55 (by omega)).trans (up2_at _ _ _ _))
                  refine x_calli (va_runV (As := []) (rest := []) ⟨hx, hb, hml, hown, hts⟩ (m_blank l D g ka ad j1 r L d  hO_j1 hR H.size (by first | omega | decide) (by first | omega | decide) hexj) (cwV 0 hts gX12_parse_X12_blank rfl rfl rfl (by decide +kernel) ⟨(Nat.le_of_ble_eq_true rfl), (Nat.le_of_ble_eq_true rfl)⟩) (x_preV (q := (RX12, TX12, 86)) hH hK (q_obj (by decide) (rfl : kd 36 = 12) (by decide)) rfl gxb (gxw hE hS (x_F hH hS hA))) rfl rfl hl.1 rfl (lv_room (Nat.le_of_ble_eq_true rfl)) dX12_parse_106 ⟨(Nat.le_of_ble_eq_true rfl), (Nat.le_of_ble_eq_true rfl)⟩) hH hS hA rfl rfl (fun r_80 im_82 H locs hw_81 hH hS => ?_)
                  have hH : sj_H D A (hwc g ka im_82 r L d) H := hH
                  obtain ⟨hO_84, hfr_83, hr_85, hx2_86⟩ := hw_81
                  have hr_85 : (1 : Int) ≤ r_80.toInt ∧ r_80.toInt ≤ 1 := hr_85
                  have hu55 : (j1 36 55).toInt = y.toInt + z.toInt := by have h9 := (congrArg Int32.toInt (((hfr_j1 36 55 (by omega)).trans (up2_at _ _ _ _))) : (j1 36 55).toInt = (z_5 : Int32).toInt); omega
                  refine lv_goto (tgt := 117) hx hb dX12_parse_109 (by decide) ?_
                  refine lv_istore (lv' := [(4, .int r_80), (5, .int (i 379 ((j1 36 54).toInt).toNat)), (0, .ref (g 36)), (1, .ref (g 379)), (2, .int y), (3, .int z)]) hx hb dX12_parse_117 hl (by decide) rfl (fun ls hl => ?_)
                  refine lv_goto (tgt := 44) hx hb dX12_parse_119 (by decide) ?_
                  have hp_87 : (im_82 36 45).toInt = ((im_82 36 45) : Int32).toInt := rfl
                  have hp_88 : (im_82 36 49).toInt = ((j1 36 49) : Int32).toInt := congrArg Int32.toInt ((hfr_83 36 49 (by omega)))
                  have hp_89 : (im_82 36 52).toInt = ((j1 36 52) : Int32).toInt := congrArg Int32.toInt ((hfr_83 36 52 (by omega)))
                  have hp_90 : (im_82 36 54).toInt = ((im_82 36 54) : Int32).toInt := rfl
                  have hbl1 := hx2_86.1
                  have hbl2 := hx2_86.2.1
                  exact ih_lp_9 r_80 _ _ _ ls (mz_lt hm (by omega) (by omega) (by omega)) (by omega) (by omega) (Or.inr hx2_86.2.2.2) (pt_bl hi_lp_9_2 (by omega) (by omega) (by omega) (by omega) (by omega) (by omega) hx2_86.2.2.1) hO_84 (fun a b ha => ((hfr_83 a b (by omega)).trans (hfr_j1 a b (by omega)))) (lv_sub hl [0, 2, 3, 4, 5] rfl) hH hS
              · skip
                have h_91 := s_eq (rfl : (i 379 ((j1 36 54).toInt).toNat).toInt = _) (show (40 : Int32).toInt = 40 from rfl) c_62
                refine lv_aload_n hx hb dX12_parse_90 rfl (lv_at hl 2 rfl) ?_
                refine lv_aload_n hx hb dX12_parse_91 rfl (lv_at hl 3 rfl) ?_
                have hwt_92 : (j1 36 55).toInt = (z_5 : Int32).toInt := congrArg Int32.toInt ((hfr_j1 36 55 (by omega)).trans (up2_at _ _ _ _))
                refine x_calli (va_runV (As := [.ref (g 379)]) (rest := []) ⟨hx, hb, hml, hown, hts⟩ (m_optional_T l D g ka ad j1 r L d  hO_j1 hR H.size (by first | omega | decide) (by first | omega | decide) (by first | omega | decide) (by first | omega | decide) (by first | omega | decide) hexj) (cwV 1 hts gX12_parse_X12_optional rfl rfl rfl (by decide +kernel) ⟨(Nat.le_of_ble_eq_true rfl), (Nat.le_of_ble_eq_true rfl)⟩) (x_preV (q := (RX12, TX12, 86)) hH hK (q_obj (by decide) (rfl : kd 36 = 12) (by decide)) rfl gxb (gxw hE hS (x_F hH hS hA))) rfl rfl hl.1 rfl (lv_room (Nat.le_of_ble_eq_true rfl)) dX12_parse_92 ⟨(Nat.le_of_ble_eq_true rfl), (Nat.le_of_ble_eq_true rfl)⟩) hH hS hA rfl rfl (fun r_93 im_95 H locs hw_94 hH hS => ?_)
                have hH : sj_H D A (hwc g ka im_95 r L d) H := hH
                obtain ⟨hO_97, hfr_96, hr_98, hx2_99⟩ := hw_94
                have hr_98 : (0 : Int) ≤ r_93.toInt ∧ r_93.toInt ≤ 1 := hr_98
                have hu55 : (j1 36 55).toInt = y.toInt + z.toInt := by have h9 := (congrArg Int32.toInt (((hfr_j1 36 55 (by omega)).trans (up2_at _ _ _ _))) : (j1 36 55).toInt = (z_5 : Int32).toInt); omega
                rw [show j1 379 = i 379 from funext fun b9 => ((hfr_j1 379 b9 (by omega)).trans ((up2_o _ _ (by omega)).trans ((up2_o _ _ (by omega)).trans ((up2_o _ _ (by omega)).trans ((up2_o _ _ (by omega)).trans (up2_o _ _ (by omega))))))), show (j1 36 55).toInt = (y.toInt + z.toInt) from hu55] at hx2_99
                have hbd : r_93.toInt = 0 ∨ ((j1 36 54).toInt + 2 ≤ (im_95 36 54).toInt ∧ (im_95 36 54).toInt ≤ (y.toInt + z.toInt) ∧ (im_95 36 45).toInt = (j1 36 45).toInt + 1 ∧ (im_95 36 49).toInt = (j1 36 49).toInt + 1 ∧ (im_95 36 52).toInt - (j1 36 52).toInt ≤ (im_95 36 54).toInt - (j1 36 54).toInt) := hx2_99.elim (fun q => Or.inr ⟨q.2.2.1, q.2.2.2.1, q.2.2.2.2.1, q.2.2.2.2.2.1, q.2.2.2.2.2.2.1⟩) (fun q => Or.inl q.1)
                have hexn : exG r_93.toInt im_95 := hx2_99.elim (fun q => Or.inr q.2.2.2.2.2.2.2.2) (fun q => Or.inl q.1)
                refine lv_goto (tgt := 117) hx hb dX12_parse_95 (by decide) ?_
                refine lv_istore (lv' := [(4, .int r_93), (5, .int (i 379 ((j1 36 54).toInt).toNat)), (0, .ref (g 36)), (1, .ref (g 379)), (2, .int y), (3, .int z)]) hx hb dX12_parse_117 hl (by decide) rfl (fun ls hl => ?_)
                refine lv_goto (tgt := 44) hx hb dX12_parse_119 (by decide) ?_
                have hp_100 : (im_95 36 45).toInt = ((im_95 36 45) : Int32).toInt := rfl
                have hp_101 : (im_95 36 49).toInt = ((im_95 36 49) : Int32).toInt := rfl
                have hp_102 : (im_95 36 52).toInt = ((im_95 36 52) : Int32).toInt := rfl
                have hp_103 : (im_95 36 54).toInt = ((im_95 36 54) : Int32).toInt := rfl
                exact ih_lp_9 r_93 _ _ _ ls (mz_lt hm (by omega) (by omega) (by omega)) (by omega) (by omega) hexn (pt_op hi_lp_9_2 (by omega) (by omega) (by omega) (by omega) (hx2_99.elim (fun q => Or.inl ⟨q.1, q.2.1, by have := q.2.2.1; omega, q.2.2.2.2.2.2.2.1⟩) Or.inr)) hO_97 (fun a b ha => ((hfr_96 a b (by omega)).trans (hfr_j1 a b (by omega)))) (lv_sub hl [0, 2, 3, 4, 5] rfl) hH hS
            · skip
              have h_104 := s_eq (rfl : (i 379 ((j1 36 54).toInt).toNat).toInt = _) (show (123 : Int32).toInt = 123 from rfl) c_60
              refine lv_aload_n hx hb dX12_parse_75 rfl (lv_at hl 2 rfl) ?_
              refine lv_aload_n hx hb dX12_parse_76 rfl (lv_at hl 3 rfl) ?_
              have hwt_105 : (j1 36 55).toInt = (z_5 : Int32).toInt := congrArg Int32.toInt ((hfr_j1 36 55 (by omega)).trans (up2_at _ _ _ _))
              refine x_calli (va_runV (As := [.ref (g 379)]) (rest := []) ⟨hx, hb, hml, hown, hts⟩ (m_parameter_T l D g ka ad j1 r L d  hO_j1 hR H.size (by first | omega | decide) (by first | omega | decide) (by first | omega | decide) hexj) (cwV 1 hts gX12_parse_X12_parameter rfl rfl rfl (by decide +kernel) ⟨(Nat.le_of_ble_eq_true rfl), (Nat.le_of_ble_eq_true rfl)⟩) (x_preV (q := (RX12, TX12, 86)) hH hK (q_obj (by decide) (rfl : kd 36 = 12) (by decide)) rfl gxb (gxw hE hS (x_F hH hS hA))) rfl rfl hl.1 rfl (lv_room (Nat.le_of_ble_eq_true rfl)) dX12_parse_77 ⟨(Nat.le_of_ble_eq_true rfl), (Nat.le_of_ble_eq_true rfl)⟩) hH hS hA rfl rfl (fun r_106 im_108 H locs hw_107 hH hS => ?_)
              have hH : sj_H D A (hwc g ka im_108 r L d) H := hH
              obtain ⟨hO_110, hfr_109, hr_111, hx2_112⟩ := hw_107
              have hr_111 : (0 : Int) ≤ r_106.toInt ∧ r_106.toInt ≤ 1 := hr_111
              have hu55 : (j1 36 55).toInt = y.toInt + z.toInt := by have h9 := (congrArg Int32.toInt (((hfr_j1 36 55 (by omega)).trans (up2_at _ _ _ _))) : (j1 36 55).toInt = (z_5 : Int32).toInt); omega
              rw [show j1 379 = i 379 from funext fun b9 => ((hfr_j1 379 b9 (by omega)).trans ((up2_o _ _ (by omega)).trans ((up2_o _ _ (by omega)).trans ((up2_o _ _ (by omega)).trans ((up2_o _ _ (by omega)).trans (up2_o _ _ (by omega))))))), show (j1 36 55).toInt = (y.toInt + z.toInt) from hu55] at hx2_112
              have hbd : r_106.toInt = 0 ∨ ((im_108 36 54).toInt = (j1 36 54).toInt + 3 ∧ (im_108 36 54).toInt ≤ (y.toInt + z.toInt) ∧ (im_108 36 45).toInt = (j1 36 45).toInt + 1) := hx2_112.elim (fun q => Or.inr ⟨q.2.2.1, q.2.2.2.1, q.2.2.2.2.1⟩) (fun q => Or.inl q.1)
              have hexn : exG r_106.toInt im_108 := hx2_112.elim (fun q => Or.inr q.2.2.2.2.2.2) (fun q => Or.inl q.1)
              refine lv_goto (tgt := 117) hx hb dX12_parse_80 (by decide) ?_
              refine lv_istore (lv' := [(4, .int r_106), (5, .int (i 379 ((j1 36 54).toInt).toNat)), (0, .ref (g 36)), (1, .ref (g 379)), (2, .int y), (3, .int z)]) hx hb dX12_parse_117 hl (by decide) rfl (fun ls hl => ?_)
              refine lv_goto (tgt := 44) hx hb dX12_parse_119 (by decide) ?_
              have hp_113 : (im_108 36 45).toInt = ((im_108 36 45) : Int32).toInt := rfl
              have hp_114 : (im_108 36 49).toInt = ((j1 36 49) : Int32).toInt := congrArg Int32.toInt ((hfr_109 36 49 (by omega)))
              have hp_115 : (im_108 36 52).toInt = ((j1 36 52) : Int32).toInt := congrArg Int32.toInt ((hfr_109 36 52 (by omega)))
              have hp_116 : (im_108 36 54).toInt = ((im_108 36 54) : Int32).toInt := rfl
              exact ih_lp_9 r_106 _ _ _ ls (mz_lt hm (by omega) (by omega) (by omega)) (by omega) (by omega) hexn (pt_pa hi_lp_9_2 (by omega) (by omega) (by omega) (by omega) (hx2_112.elim (fun q => Or.inl ⟨q.1, q.2.1, by have := q.2.2.1; omega, q.2.2.2.2.2.1⟩) Or.inr)) hO_110 (fun a b ha => ((hfr_109 a b (by omega)).trans (hfr_j1 a b (by omega)))) (lv_sub hl [0, 2, 3, 4, 5] rfl) hH hS
    have hl_117 : (0 : Int32).toInt = 0 := rfl
    have hp_118 : ((up2 (up2 (up2 (up2 (up2 i 36 45 0) 36 49 0) 36 52 0) 36 54 y) 36 55 z_5) 36 45).toInt = (0 : Int32).toInt := congrArg Int32.toInt (((up2_k _ _ (by decide)).trans ((up2_k _ _ (by decide)).trans ((up2_k _ _ (by decide)).trans ((up2_k _ _ (by decide)).trans (up2_at _ _ _ _))))))
    have hl_119 : (0 : Int32).toInt = 0 := rfl
    have hp_120 : ((up2 (up2 (up2 (up2 (up2 i 36 45 0) 36 49 0) 36 52 0) 36 54 y) 36 55 z_5) 36 49).toInt = (0 : Int32).toInt := congrArg Int32.toInt (((up2_k _ _ (by decide)).trans ((up2_k _ _ (by decide)).trans ((up2_k _ _ (by decide)).trans (up2_at _ _ _ _)))))
    have hl_121 : (0 : Int32).toInt = 0 := rfl
    have hp_122 : ((up2 (up2 (up2 (up2 (up2 i 36 45 0) 36 49 0) 36 52 0) 36 54 y) 36 55 z_5) 36 52).toInt = (0 : Int32).toInt := congrArg Int32.toInt (((up2_k _ _ (by decide)).trans ((up2_k _ _ (by decide)).trans (up2_at _ _ _ _))))
    have hl_123 : (0 : Int32).toInt = 0 := rfl
    have hp_124 : ((up2 (up2 (up2 (up2 (up2 i 36 45 0) 36 49 0) 36 52 0) 36 54 y) 36 55 z_5) 36 54).toInt = (y : Int32).toInt := congrArg Int32.toInt (((up2_k _ _ (by decide)).trans (up2_at _ _ _ _)))
    have hp_125 : ((up2 (up2 (up2 (up2 (up2 i 36 45 0) 36 49 0) 36 52 0) 36 54 y) 36 55 z_5) 36 45).toInt = (0 : Int32).toInt := congrArg Int32.toInt (((up2_k _ _ (by decide)).trans ((up2_k _ _ (by decide)).trans ((up2_k _ _ (by decide)).trans ((up2_k _ _ (by decide)).trans (up2_at _ _ _ _))))))
    have hl_126 : (0 : Int32).toInt = 0 := rfl
    have hp_127 : ((up2 (up2 (up2 (up2 (up2 i 36 45 0) 36 49 0) 36 52 0) 36 54 y) 36 55 z_5) 36 49).toInt = (0 : Int32).toInt := congrArg Int32.toInt (((up2_k _ _ (by decide)).trans ((up2_k _ _ (by decide)).trans ((up2_k _ _ (by decide)).trans (up2_at _ _ _ _)))))
    have hl_128 : (0 : Int32).toInt = 0 := rfl
    have hp_129 : ((up2 (up2 (up2 (up2 (up2 i 36 45 0) 36 49 0) 36 52 0) 36 54 y) 36 55 z_5) 36 45).toInt = (0 : Int32).toInt := congrArg Int32.toInt (((up2_k _ _ (by decide)).trans ((up2_k _ _ (by decide)).trans ((up2_k _ _ (by decide)).trans ((up2_k _ _ (by decide)).trans (up2_at _ _ _ _))))))
    have hl_130 : (0 : Int32).toInt = 0 := rfl
    have hp_131 : ((up2 (up2 (up2 (up2 (up2 i 36 45 0) 36 49 0) 36 52 0) 36 54 y) 36 55 z_5) 36 54).toInt = (y : Int32).toInt := congrArg Int32.toInt (((up2_k _ _ (by decide)).trans (up2_at _ _ _ _)))
    have hc40 : c4 (up2 (up2 (up2 (up2 (up2 i 36 45 0) 36 49 0) 36 52 0) 36 54 y) 36 55 z_5) = 0 := by unfold c4; rw [show ((up2 (up2 (up2 (up2 (up2 i 36 45 0) 36 49 0) 36 52 0) 36 54 y) 36 55 z_5) 36 45).toInt.toNat = 0 by omega]; rfl
    exact lp_9 _ 0 _ _ _ ls (Nat.lt_succ_self _) (by omega) (by omega) (Or.inr (exI_0 (by omega) (by omega))) (pt_no (by omega) (by omega) (by omega)) hO_6 (fun a b ha => rfl) (lv_sub hl [0, 1, 2, 3, 4] rfl) hH hS
  · skip
    have h_132 := s_nle (rfl : z.toInt = _) (show (0 : Int32).toInt = 0 from rfl) c_7
    refine lv_iload_n hx hb dX12_parse_31 rfl (lv_at hl 3 rfl) ?_
    refine lv_bipush (v := 60) hx hb dX12_parse_32 (by decide) ?_
    refine lv_icmp_gt (tgt := 41) hx hb dX12_parse_34 (by decide) (fun c_133 => ?_) (fun c_133 => ?_)
    · skip
      have h_134 := s_lt (show (60 : Int32).toInt = 60 from rfl) (rfl : z.toInt = _) c_133
      refine lv_iconst (v := 0) hx hb dX12_parse_41 (by decide) ?_
      refine lv_istore (lv' := [(4, .int 0), (0, .ref (g 36)), (1, .ref (g 379)), (2, .int y), (3, .int z)]) hx hb dX12_parse_42 hl (by decide) rfl (fun ls hl => ?_)
      -- loop at 44
      have lp_135 : ∀ (fuel_lp_135 : Nat) (gd : Int32) (j1 : Nat → Nat → Int32) (H : Heap) (locs : List Loc) (ls : Array Slot), (mzr gd.toInt ((y.toInt + z.toInt) - (j1 36 54).toInt)).toNat < fuel_lp_135 → (0 : Int) ≤ gd.toInt ∧ gd.toInt ≤ 1 → gd.toInt = 0 ∨ ((y.toInt ≤ (j1 36 54).toInt ∧ (j1 36 54).toInt ≤ (y.toInt + z.toInt)) ∧ (j1 36 45).toInt ≤ (j1 36 54).toInt - y.toInt ∧ (j1 36 49).toInt ≤ (j1 36 54).toInt - y.toInt ∧ (j1 36 52).toInt ≤ (j1 36 54).toInt - y.toInt) → exG gd.toInt j1 → ptR (i 379) y.toInt (y.toInt + z.toInt) gd.toInt (j1 36 54).toInt (c4 j1) → OkI j1 → (∀ a b, ¬ ((a = 36 ∧ (b = 45 ∨ b = 49 ∨ b = 52 ∨ b = 54)) ∨ a = 406 ∨ a = 407 ∨ a = 408 ∨ a = 409 ∨ a = 410 ∨ a = 411) → j1 a b = (up2 (up2 (up2 (up2 (up2 i 36 45 0) 36 49 0) 36 52 0) 36 54 y) 36 55 z_5) a b) → lv_has ls 7 [(4, .int gd), (0, .ref (g 36)), (1, .ref (g 379)), (2, .int y), (3, .int z)] → sj_H D A (hwc g ka j1 r L d) H → va_S A s.heap H locs → W p l e (headSpec wsX12_parse ({ frames := 2, cells := 0, slots := 0, locals := 46 })).room s m ([.ref (g 36), .ref (g 379), .int y, .int z] : List Value).toArray below meth c H locs 0 0 (MQ below (sj_Qi (S := (Nat → Nat → Int32)) D (fun v u => OkI u ∧ (∀ a b, ¬ ((a = 36 ∧ (b = 45 ∨ b = 49 ∨ b = 52 ∨ b = 54 ∨ b = 55)) ∨ a = 406 ∨ a = 407 ∨ a = 408 ∨ a = 409 ∨ a = 410 ∨ a = 411) → u a b = i a b) ∧ ((0 : Int) ≤ v.toInt ∧ v.toInt ≤ 1) ∧ ((v.toInt = 1 ∧ prOK (lnL (i 379) y.toInt (y.toInt + z.toInt)) ∧ c4 u ≤ 6 ∧ exI u ∧ (u 36 45).toInt ≤ 60) ∨ (v.toInt = 0 ∧ ¬ prOK (lnL (i 379) y.toInt (y.toInt + z.toInt))))) (fun u => hwc g ka u r L d) (fun _ => []) A) ([.ref (g 36), .ref (g 379), .int y, .int z] : List Value).toArray s 0 0 A) (F0 m 44 ls []) := by
        intro fuel_lp_135
        induction fuel_lp_135 with
        | zero => intros; omega
        | succ fuel_lp_135 ih_lp_135 =>
          intro gd j1 H locs ls hm hr_gd hi_lp_135_0 hi_lp_135_1 hi_lp_135_2 hO_j1 hfr_j1 hl hH hS
          have hx45j : (0 : Int) ≤ (j1 36 45).toInt ∧ (j1 36 45).toInt ≤ 64 := hO_j1 36 45
          refine lv_iload hx hb dX12_parse_44 (lv_at hl 0 rfl) ?_
          refine lv_if_eq (tgt := 122) hx hb dX12_parse_46 (by decide) (fun c_136 => ?_) (fun c_136 => ?_)
          · skip
            have h_137 := s_eq (rfl : gd.toInt = _) (show (0 : Int32).toInt = 0 from rfl) c_136
            refine lv_iconst (v := 0) hx hb dX12_parse_122 (by decide) ?_
            refine lv_istore (lv' := [(5, .int 0), (4, .int gd), (0, .ref (g 36)), (1, .ref (g 379)), (2, .int y), (3, .int z)]) hx hb dX12_parse_123 hl (by decide) rfl (fun ls hl => ?_)
            refine lv_iconst (v := 0) hx hb dX12_parse_125 (by decide) ?_
            refine lv_istore (lv' := [(6, .int 0), (5, .int 0), (4, .int gd), (0, .ref (g 36)), (1, .ref (g 379)), (2, .int y), (3, .int z)]) hx hb dX12_parse_126 hl (by decide) rfl (fun ls hl => ?_)
            -- loop at 128
            have lp_138 : ∀ (fuel_lp_138 : Nat) (t : Int32) (f : Int32) (H : Heap) (locs : List Loc) (ls : Array Slot), (64 - f.toInt).toNat < fuel_lp_138 → (0 : Int) ≤ t.toInt ∧ t.toInt ≤ 64 → (0 : Int) ≤ f.toInt ∧ f.toInt ≤ 64 → t.toInt ≤ f.toInt ∧ f.toInt ≤ (j1 36 45).toInt → t.toInt = (cnt (j1 406) 4 f.toInt.toNat : Int) → lv_has ls 7 [(6, .int f), (5, .int t), (4, .int gd), (0, .ref (g 36)), (1, .ref (g 379)), (2, .int y), (3, .int z)] → sj_H D A (hwc g ka j1 r L d) H → va_S A s.heap H locs → W p l e (headSpec wsX12_parse ({ frames := 2, cells := 0, slots := 0, locals := 46 })).room s m ([.ref (g 36), .ref (g 379), .int y, .int z] : List Value).toArray below meth c H locs 0 0 (MQ below (sj_Qi (S := (Nat → Nat → Int32)) D (fun v u => OkI u ∧ (∀ a b, ¬ ((a = 36 ∧ (b = 45 ∨ b = 49 ∨ b = 52 ∨ b = 54 ∨ b = 55)) ∨ a = 406 ∨ a = 407 ∨ a = 408 ∨ a = 409 ∨ a = 410 ∨ a = 411) → u a b = i a b) ∧ ((0 : Int) ≤ v.toInt ∧ v.toInt ≤ 1) ∧ ((v.toInt = 1 ∧ prOK (lnL (i 379) y.toInt (y.toInt + z.toInt)) ∧ c4 u ≤ 6 ∧ exI u ∧ (u 36 45).toInt ≤ 60) ∨ (v.toInt = 0 ∧ ¬ prOK (lnL (i 379) y.toInt (y.toInt + z.toInt))))) (fun u => hwc g ka u r L d) (fun _ => []) A) ([.ref (g 36), .ref (g 379), .int y, .int z] : List Value).toArray s 0 0 A) (F0 m 128 ls []) := by
              intro fuel_lp_138
              induction fuel_lp_138 with
              | zero => intros; omega
              | succ fuel_lp_138 ih_lp_138 =>
                intro t f H locs ls hm hr_t hr_f hi_lp_138_0 hi_lp_138_1 hl hH hS
                refine lv_iload hx hb dX12_parse_128 (lv_at hl 0 rfl) ?_
                refine lv_aload_n hx hb dX12_parse_130 rfl (lv_at hl 3 rfl) ?_
                have bx_139 : (0 : Int) ≤ (j1 36 45).toInt ∧ (j1 36 45).toInt ≤ 64 := hO_j1 36 45
                refine h_geti (ci := 12) (C := RX12) (F := TX12) (N := 86) hx hb hts in12 hown hK hH (by decide) (rfl : kd 36 = 12) (by decide) rfl 45 (by decide) wd0 (fun _ h9 => h9) (by decide) rfl dX12_parse_131 ?_
                refine lv_icmp_ge (tgt := 164) hx hb dX12_parse_134 (by decide) (fun c_140 => ?_) (fun c_140 => ?_)
                · skip
                  have h_141 := s_le (rfl : (j1 36 45).toInt = _) (rfl : f.toInt = _) c_140
                  refine lv_iload hx hb dX12_parse_164 (lv_at hl 2 rfl) ?_
                  refine lv_if_eq (tgt := 180) hx hb dX12_parse_166 (by decide) (fun _ => ?_) (fun h => absurd (p_eq (rfl : gd.toInt = _) (show (0 : Int32).toInt = 0 from rfl) (by omega)) h)
                  refine lv_iconst (v := 0) hx hb dX12_parse_180 (by decide) ?_
                  have hlv_142 : (0 : Int32).toInt = 0 := rfl
                  have hpe := pt_end hi_lp_135_2 (by omega) (fun _ => by omega)
                  have hct : t.toInt = c4 j1 := by unfold c4; rw [show (j1 36 45).toInt.toNat = f.toInt.toNat by omega]; omega
                  have hV_143 : ((0 : Int32).toInt = 1 ∧ prOK (lnL (i 379) y.toInt (y.toInt + z.toInt)) ∧ c4 j1 ≤ 6 ∧ exI j1 ∧ (j1 36 45).toInt ≤ 60) ∨ ((0 : Int32).toInt = 0 ∧ ¬ prOK (lnL (i 379) y.toInt (y.toInt + z.toInt))) := (Or.inr ⟨by omega, hpe.elim (fun q => (q.2.2.resolve_left (fun q8 => by have q7 := q8.1; have q6 := q.1; omega)).2) (fun q => q.2)⟩)
                  exact sj_zret hx hb hr hlocks (by decide +kernel) hS j1 ⟨hO_j1, (fun a b ha => ((hfr_j1 a b (by omega)).trans ((up2_o _ _ (by omega)).trans ((up2_o _ _ (by omega)).trans ((up2_o _ _ (by omega)).trans ((up2_o _ _ (by omega)).trans (up2_o _ _ (by omega)))))))), ⟨by decide, by decide⟩, hV_143⟩ hH (sj_Knil hK) (Nat.le_of_ble_eq_true rfl) (Nat.le_of_ble_eq_true rfl) dX12_parse_181
                · skip
                  have h_144 := s_nle (rfl : (j1 36 45).toInt = _) (rfl : f.toInt = _) c_140
                  refine lv_iload hx hb dX12_parse_137 (lv_at hl 1 rfl) ?_
                  refine lv_aload_n hx hb dX12_parse_139 rfl (lv_at hl 3 rfl) ?_
                  refine h_getr (ci := 12) (C := RX12) (F := TX12) (N := 86) hx hb hts in12 hown hK hH (by decide) (rfl : kd 36 = 12) (by decide) rfl 46 (by decide) wd5 (fun _ h9 => h9) (by decide) rfl (t := 406) (hR 36 46 rfl) (by decide) dX12_parse_140 ?_
                  refine lv_iload hx hb dX12_parse_143 (lv_at hl 0 rfl) ?_
                  have hc_145 := cnt_or (j1 406) 4 f.toInt.toNat
                  refine h_iald hx hb hK hH (by decide) (rfl : kd 406 = 13) (s_vin (N := 64) (rfl : f.toInt = _) (rfl : ln 406 = 64) (by omega) (by omega)) dX12_parse_145 ?_
                  have ek_146 : f.toNatClampNeg = (f.toInt).toNat := (s_cl (show f.toInt = f.toInt by omega))
                  refine sj_i (y := (j1 406 (f.toInt).toNat)) (by rw [ek_146]) ?_
                  refine lv_iconst (v := 4) hx hb dX12_parse_146 (by decide) ?_
                  refine lv_icmp_ne (tgt := 154) hx hb dX12_parse_147 (by decide) (fun c_147 => ?_) (fun c_147 => ?_)
                  · skip
                    have h_148 := s_ne (rfl : (j1 406 (f.toInt).toNat).toInt = _) (show (4 : Int32).toInt = 4 from rfl) c_147
                    refine lv_iconst (v := 0) hx hb dX12_parse_154 (by decide) ?_
                    refine lv_iadd hx hb dX12_parse_155 ?_
                    obtain ⟨z_149, ez_149, hz_149⟩ := s_add (rfl : t.toInt = _) (show (0 : Int32).toInt = 0 from rfl) (by omega) (by omega)
                    refine sj_i ez_149 ?_
                    refine lv_istore (lv' := [(5, .int z_149), (6, .int f), (4, .int gd), (0, .ref (g 36)), (1, .ref (g 379)), (2, .int y), (3, .int z)]) hx hb dX12_parse_156 hl (by decide) rfl (fun ls hl => ?_)
                    obtain ⟨z_150, ez_150, hz_150⟩ := s_add (rfl : f.toInt = _) (show (1 : Int32).toInt = 1 from rfl) (by omega) (by omega)
                    refine lv_iinc (v := z_150) (lv' := [(6, .int z_150), (5, .int z_149), (4, .int gd), (0, .ref (g 36)), (1, .ref (g 379)), (2, .int y), (3, .int z)]) hx hb dX12_parse_158 hl (k := 1) rfl ez_150 (by decide) rfl (fun ls hl => ?_)
                    refine lv_goto (tgt := 128) hx hb dX12_parse_161 (by decide) ?_
                    exact ih_lp_138 z_149 z_150 _ _ ls (by omega) (by omega) (by omega) (by omega) (by rw [show (z_150).toInt.toNat = f.toInt.toNat + 1 by omega]; omega) (lv_sub hl [0, 1, 2, 3, 4, 5, 6] rfl) hH hS
                  · skip
                    have h_151 := s_eq (rfl : (j1 406 (f.toInt).toNat).toInt = _) (show (4 : Int32).toInt = 4 from rfl) c_147
                    refine lv_iconst (v := 1) hx hb dX12_parse_150 (by decide) ?_
                    refine lv_goto (tgt := 155) hx hb dX12_parse_151 (by decide) ?_
                    refine lv_iadd hx hb dX12_parse_155 ?_
                    obtain ⟨z_152, ez_152, hz_152⟩ := s_add (rfl : t.toInt = _) (show (1 : Int32).toInt = 1 from rfl) (by omega) (by omega)
                    refine sj_i ez_152 ?_
                    refine lv_istore (lv' := [(5, .int z_152), (6, .int f), (4, .int gd), (0, .ref (g 36)), (1, .ref (g 379)), (2, .int y), (3, .int z)]) hx hb dX12_parse_156 hl (by decide) rfl (fun ls hl => ?_)
                    obtain ⟨z_153, ez_153, hz_153⟩ := s_add (rfl : f.toInt = _) (show (1 : Int32).toInt = 1 from rfl) (by omega) (by omega)
                    refine lv_iinc (v := z_153) (lv' := [(6, .int z_153), (5, .int z_152), (4, .int gd), (0, .ref (g 36)), (1, .ref (g 379)), (2, .int y), (3, .int z)]) hx hb dX12_parse_158 hl (k := 1) rfl ez_153 (by decide) rfl (fun ls hl => ?_)
                    refine lv_goto (tgt := 128) hx hb dX12_parse_161 (by decide) ?_
                    exact ih_lp_138 z_152 z_153 _ _ ls (by omega) (by omega) (by omega) (by omega) (by rw [show (z_153).toInt.toNat = f.toInt.toNat + 1 by omega]; omega) (lv_sub hl [0, 1, 2, 3, 4, 5, 6] rfl) hH hS
            have hl_154 : (0 : Int32).toInt = 0 := rfl
            have hl_155 : (0 : Int32).toInt = 0 := rfl
            exact lp_138 _ 0 0 _ _ ls (Nat.lt_succ_self _) (by omega) (by omega) (by omega) (by rfl) (lv_sub hl [0, 1, 2, 3, 4, 5, 6] rfl) hH hS
          · skip
            have h_156 := s_ne (rfl : gd.toInt = _) (show (0 : Int32).toInt = 0 from rfl) c_136
            have hexj := hi_lp_135_1.resolve_left (fun q => by omega)
            have hbj := hi_lp_135_0.resolve_left (fun q => by omega)
            have hpt := hi_lp_135_2.resolve_right (fun q => by have := q.1; omega)
            have hpz := hpt.2.1
            refine lv_aload_n hx hb dX12_parse_49 rfl (lv_at hl 1 rfl) ?_
            have bx_157 : (0 : Int) ≤ (j1 36 54).toInt ∧ (j1 36 54).toInt ≤ 720 := hO_j1 36 54
            refine h_geti (ci := 12) (C := RX12) (F := TX12) (N := 86) hx hb hts in12 hown hK hH (by decide) (rfl : kd 36 = 12) (by decide) rfl 54 (by decide) wd3 (fun _ h9 => h9) (by decide) rfl dX12_parse_50 ?_
            refine lv_aload_n hx hb dX12_parse_53 rfl (lv_at hl 1 rfl) ?_
            refine h_geti (ci := 12) (C := RX12) (F := TX12) (N := 86) hx hb hts in12 hown hK hH (by decide) (rfl : kd 36 = 12) (by decide) rfl 55 (by decide) wd4 (fun _ h9 => h9) (by decide) rfl dX12_parse_54 ?_
            refine sj_i (y := z_5) ((hfr_j1 36 55 (by omega)).trans (up2_at _ _ _ _)) ?_
            refine lv_icmp_ge (tgt := 122) hx hb dX12_parse_57 (by decide) (fun c_158 => ?_) (fun c_158 => ?_)
            · skip
              have h_159 := s_le (rfl : z_5.toInt = _) (rfl : (j1 36 54).toInt = _) c_158
              refine lv_iconst (v := 0) hx hb dX12_parse_122 (by decide) ?_
              refine lv_istore (lv' := [(5, .int 0), (4, .int gd), (0, .ref (g 36)), (1, .ref (g 379)), (2, .int y), (3, .int z)]) hx hb dX12_parse_123 hl (by decide) rfl (fun ls hl => ?_)
              refine lv_iconst (v := 0) hx hb dX12_parse_125 (by decide) ?_
              refine lv_istore (lv' := [(6, .int 0), (5, .int 0), (4, .int gd), (0, .ref (g 36)), (1, .ref (g 379)), (2, .int y), (3, .int z)]) hx hb dX12_parse_126 hl (by decide) rfl (fun ls hl => ?_)
              -- loop at 128
              have lp_160 : ∀ (fuel_lp_160 : Nat) (t : Int32) (f : Int32) (H : Heap) (locs : List Loc) (ls : Array Slot), (64 - f.toInt).toNat < fuel_lp_160 → (0 : Int) ≤ t.toInt ∧ t.toInt ≤ 64 → (0 : Int) ≤ f.toInt ∧ f.toInt ≤ 64 → t.toInt ≤ f.toInt ∧ f.toInt ≤ (j1 36 45).toInt → t.toInt = (cnt (j1 406) 4 f.toInt.toNat : Int) → lv_has ls 7 [(6, .int f), (5, .int t), (4, .int gd), (0, .ref (g 36)), (1, .ref (g 379)), (2, .int y), (3, .int z)] → sj_H D A (hwc g ka j1 r L d) H → va_S A s.heap H locs → W p l e (headSpec wsX12_parse ({ frames := 2, cells := 0, slots := 0, locals := 46 })).room s m ([.ref (g 36), .ref (g 379), .int y, .int z] : List Value).toArray below meth c H locs 0 0 (MQ below (sj_Qi (S := (Nat → Nat → Int32)) D (fun v u => OkI u ∧ (∀ a b, ¬ ((a = 36 ∧ (b = 45 ∨ b = 49 ∨ b = 52 ∨ b = 54 ∨ b = 55)) ∨ a = 406 ∨ a = 407 ∨ a = 408 ∨ a = 409 ∨ a = 410 ∨ a = 411) → u a b = i a b) ∧ ((0 : Int) ≤ v.toInt ∧ v.toInt ≤ 1) ∧ ((v.toInt = 1 ∧ prOK (lnL (i 379) y.toInt (y.toInt + z.toInt)) ∧ c4 u ≤ 6 ∧ exI u ∧ (u 36 45).toInt ≤ 60) ∨ (v.toInt = 0 ∧ ¬ prOK (lnL (i 379) y.toInt (y.toInt + z.toInt))))) (fun u => hwc g ka u r L d) (fun _ => []) A) ([.ref (g 36), .ref (g 379), .int y, .int z] : List Value).toArray s 0 0 A) (F0 m 128 ls []) := by
                intro fuel_lp_160
                induction fuel_lp_160 with
                | zero => intros; omega
                | succ fuel_lp_160 ih_lp_160 =>
                  intro t f H locs ls hm hr_t hr_f hi_lp_160_0 hi_lp_160_1 hl hH hS
                  refine lv_iload hx hb dX12_parse_128 (lv_at hl 0 rfl) ?_
                  refine lv_aload_n hx hb dX12_parse_130 rfl (lv_at hl 3 rfl) ?_
                  have bx_161 : (0 : Int) ≤ (j1 36 45).toInt ∧ (j1 36 45).toInt ≤ 64 := hO_j1 36 45
                  refine h_geti (ci := 12) (C := RX12) (F := TX12) (N := 86) hx hb hts in12 hown hK hH (by decide) (rfl : kd 36 = 12) (by decide) rfl 45 (by decide) wd0 (fun _ h9 => h9) (by decide) rfl dX12_parse_131 ?_
                  refine lv_icmp_ge (tgt := 164) hx hb dX12_parse_134 (by decide) (fun c_162 => ?_) (fun c_162 => ?_)
                  · skip
                    have h_163 := s_le (rfl : (j1 36 45).toInt = _) (rfl : f.toInt = _) c_162
                    refine lv_iload hx hb dX12_parse_164 (lv_at hl 2 rfl) ?_
                    refine lv_if_eq (tgt := 180) hx hb dX12_parse_166 (by decide) (fun h => absurd h (p_ne (rfl : gd.toInt = _) (show (0 : Int32).toInt = 0 from rfl) (by omega))) (fun _ => ?_)
                    refine lv_iload hx hb dX12_parse_169 (lv_at hl 1 rfl) ?_
                    refine lv_bipush (v := 6) hx hb dX12_parse_171 (by decide) ?_
                    refine lv_icmp_gt (tgt := 180) hx hb dX12_parse_173 (by decide) (fun c_164 => ?_) (fun c_164 => ?_)
                    · skip
                      have h_165 := s_lt (show (6 : Int32).toInt = 6 from rfl) (rfl : t.toInt = _) c_164
                      refine lv_iconst (v := 0) hx hb dX12_parse_180 (by decide) ?_
                      have hlv_166 : (0 : Int32).toInt = 0 := rfl
                      have hpe := pt_end hi_lp_135_2 (by omega) (fun _ => by omega)
                      have hct : t.toInt = c4 j1 := by unfold c4; rw [show (j1 36 45).toInt.toNat = f.toInt.toNat by omega]; omega
                      have hV_167 : ((0 : Int32).toInt = 1 ∧ prOK (lnL (i 379) y.toInt (y.toInt + z.toInt)) ∧ c4 j1 ≤ 6 ∧ exI j1 ∧ (j1 36 45).toInt ≤ 60) ∨ ((0 : Int32).toInt = 0 ∧ ¬ prOK (lnL (i 379) y.toInt (y.toInt + z.toInt))) := (Or.inr ⟨by omega, hpe.elim (fun q => (q.2.2.resolve_left (fun q8 => by have q7 := q8.1; have q6 := q.1; omega)).2) (fun q => q.2)⟩)
                      exact sj_zret hx hb hr hlocks (by decide +kernel) hS j1 ⟨hO_j1, (fun a b ha => ((hfr_j1 a b (by omega)).trans ((up2_o _ _ (by omega)).trans ((up2_o _ _ (by omega)).trans ((up2_o _ _ (by omega)).trans ((up2_o _ _ (by omega)).trans (up2_o _ _ (by omega)))))))), ⟨by decide, by decide⟩, hV_167⟩ hH (sj_Knil hK) (Nat.le_of_ble_eq_true rfl) (Nat.le_of_ble_eq_true rfl) dX12_parse_181
                    · skip
                      have h_168 := s_nlt (show (6 : Int32).toInt = 6 from rfl) (rfl : t.toInt = _) c_164
                      refine lv_iconst (v := 1) hx hb dX12_parse_176 (by decide) ?_
                      refine lv_goto (tgt := 181) hx hb dX12_parse_177 (by decide) ?_
                      have hlv_169 : (1 : Int32).toInt = 1 := rfl
                      have hpe := pt_end hi_lp_135_2 (by omega) (fun _ => by omega)
                      have hct : t.toInt = c4 j1 := by unfold c4; rw [show (j1 36 45).toInt.toNat = f.toInt.toNat by omega]; omega
                      have hV_170 : ((1 : Int32).toInt = 1 ∧ prOK (lnL (i 379) y.toInt (y.toInt + z.toInt)) ∧ c4 j1 ≤ 6 ∧ exI j1 ∧ (j1 36 45).toInt ≤ 60) ∨ ((1 : Int32).toInt = 0 ∧ ¬ prOK (lnL (i 379) y.toInt (y.toInt + z.toInt))) := (Or.inl ⟨by omega, ((hpe.resolve_right (fun q => by have := q.1; omega)).2.2.resolve_right (fun q => by have := q.1; omega)).2, by omega, hi_lp_135_1.resolve_left (fun q => by omega), by have := hi_lp_135_0.resolve_left (fun q => by omega); have := (hpe.resolve_right (fun q => by have := q.1; omega)).2.1; omega⟩)
                      exact sj_zret hx hb hr hlocks (by decide +kernel) hS j1 ⟨hO_j1, (fun a b ha => ((hfr_j1 a b (by omega)).trans ((up2_o _ _ (by omega)).trans ((up2_o _ _ (by omega)).trans ((up2_o _ _ (by omega)).trans ((up2_o _ _ (by omega)).trans (up2_o _ _ (by omega)))))))), ⟨by decide, by decide⟩, hV_170⟩ hH (sj_Knil hK) (Nat.le_of_ble_eq_true rfl) (Nat.le_of_ble_eq_true rfl) dX12_parse_181
                  · skip
                    have h_171 := s_nle (rfl : (j1 36 45).toInt = _) (rfl : f.toInt = _) c_162
                    refine lv_iload hx hb dX12_parse_137 (lv_at hl 1 rfl) ?_
                    refine lv_aload_n hx hb dX12_parse_139 rfl (lv_at hl 3 rfl) ?_
                    refine h_getr (ci := 12) (C := RX12) (F := TX12) (N := 86) hx hb hts in12 hown hK hH (by decide) (rfl : kd 36 = 12) (by decide) rfl 46 (by decide) wd5 (fun _ h9 => h9) (by decide) rfl (t := 406) (hR 36 46 rfl) (by decide) dX12_parse_140 ?_
                    refine lv_iload hx hb dX12_parse_143 (lv_at hl 0 rfl) ?_
                    have hc_172 := cnt_or (j1 406) 4 f.toInt.toNat
                    refine h_iald hx hb hK hH (by decide) (rfl : kd 406 = 13) (s_vin (N := 64) (rfl : f.toInt = _) (rfl : ln 406 = 64) (by omega) (by omega)) dX12_parse_145 ?_
                    have ek_173 : f.toNatClampNeg = (f.toInt).toNat := (s_cl (show f.toInt = f.toInt by omega))
                    refine sj_i (y := (j1 406 (f.toInt).toNat)) (by rw [ek_173]) ?_
                    refine lv_iconst (v := 4) hx hb dX12_parse_146 (by decide) ?_
                    refine lv_icmp_ne (tgt := 154) hx hb dX12_parse_147 (by decide) (fun c_174 => ?_) (fun c_174 => ?_)
                    · skip
                      have h_175 := s_ne (rfl : (j1 406 (f.toInt).toNat).toInt = _) (show (4 : Int32).toInt = 4 from rfl) c_174
                      refine lv_iconst (v := 0) hx hb dX12_parse_154 (by decide) ?_
                      refine lv_iadd hx hb dX12_parse_155 ?_
                      obtain ⟨z_176, ez_176, hz_176⟩ := s_add (rfl : t.toInt = _) (show (0 : Int32).toInt = 0 from rfl) (by omega) (by omega)
                      refine sj_i ez_176 ?_
                      refine lv_istore (lv' := [(5, .int z_176), (6, .int f), (4, .int gd), (0, .ref (g 36)), (1, .ref (g 379)), (2, .int y), (3, .int z)]) hx hb dX12_parse_156 hl (by decide) rfl (fun ls hl => ?_)
                      obtain ⟨z_177, ez_177, hz_177⟩ := s_add (rfl : f.toInt = _) (show (1 : Int32).toInt = 1 from rfl) (by omega) (by omega)
                      refine lv_iinc (v := z_177) (lv' := [(6, .int z_177), (5, .int z_176), (4, .int gd), (0, .ref (g 36)), (1, .ref (g 379)), (2, .int y), (3, .int z)]) hx hb dX12_parse_158 hl (k := 1) rfl ez_177 (by decide) rfl (fun ls hl => ?_)
                      refine lv_goto (tgt := 128) hx hb dX12_parse_161 (by decide) ?_
                      exact ih_lp_160 z_176 z_177 _ _ ls (by omega) (by omega) (by omega) (by omega) (by rw [show (z_177).toInt.toNat = f.toInt.toNat + 1 by omega]; omega) (lv_sub hl [0, 1, 2, 3, 4, 5, 6] rfl) hH hS
                    · skip
                      have h_178 := s_eq (rfl : (j1 406 (f.toInt).toNat).toInt = _) (show (4 : Int32).toInt = 4 from rfl) c_174
                      refine lv_iconst (v := 1) hx hb dX12_parse_150 (by decide) ?_
                      refine lv_goto (tgt := 155) hx hb dX12_parse_151 (by decide) ?_
                      refine lv_iadd hx hb dX12_parse_155 ?_
                      obtain ⟨z_179, ez_179, hz_179⟩ := s_add (rfl : t.toInt = _) (show (1 : Int32).toInt = 1 from rfl) (by omega) (by omega)
                      refine sj_i ez_179 ?_
                      refine lv_istore (lv' := [(5, .int z_179), (6, .int f), (4, .int gd), (0, .ref (g 36)), (1, .ref (g 379)), (2, .int y), (3, .int z)]) hx hb dX12_parse_156 hl (by decide) rfl (fun ls hl => ?_)
                      obtain ⟨z_180, ez_180, hz_180⟩ := s_add (rfl : f.toInt = _) (show (1 : Int32).toInt = 1 from rfl) (by omega) (by omega)
                      refine lv_iinc (v := z_180) (lv' := [(6, .int z_180), (5, .int z_179), (4, .int gd), (0, .ref (g 36)), (1, .ref (g 379)), (2, .int y), (3, .int z)]) hx hb dX12_parse_158 hl (k := 1) rfl ez_180 (by decide) rfl (fun ls hl => ?_)
                      refine lv_goto (tgt := 128) hx hb dX12_parse_161 (by decide) ?_
                      exact ih_lp_160 z_179 z_180 _ _ ls (by omega) (by omega) (by omega) (by omega) (by rw [show (z_180).toInt.toNat = f.toInt.toNat + 1 by omega]; omega) (lv_sub hl [0, 1, 2, 3, 4, 5, 6] rfl) hH hS
              have hl_181 : (0 : Int32).toInt = 0 := rfl
              have hl_182 : (0 : Int32).toInt = 0 := rfl
              exact lp_160 _ 0 0 _ _ ls (Nat.lt_succ_self _) (by omega) (by omega) (by omega) (by rfl) (lv_sub hl [0, 1, 2, 3, 4, 5, 6] rfl) hH hS
            · skip
              have h_183 := s_nle (rfl : z_5.toInt = _) (rfl : (j1 36 54).toInt = _) c_158
              refine lv_aload_n hx hb dX12_parse_60 rfl (lv_at hl 2 rfl) ?_
              refine lv_aload_n hx hb dX12_parse_61 rfl (lv_at hl 1 rfl) ?_
              refine h_geti (ci := 12) (C := RX12) (F := TX12) (N := 86) hx hb hts in12 hown hK hH (by decide) (rfl : kd 36 = 12) (by decide) rfl 54 (by decide) wd3 (fun _ h9 => h9) (by decide) rfl dX12_parse_62 ?_
              have bx_184 : (0 : Int) ≤ (i 379 ((j1 36 54).toInt).toNat).toInt ∧ (i 379 ((j1 36 54).toInt).toNat).toInt ≤ 65535 := hO 379 ((j1 36 54).toInt).toNat
              refine h_cald hx hb hK hH (by decide) (rfl : kd 379 = 14) (s_vin (N := 480) (rfl : (j1 36 54).toInt = _) (rfl : ln 379 = 480) (by omega) (by omega)) dX12_parse_65 ?_
              have ek_185 : (j1 36 54).toNatClampNeg = ((j1 36 54).toInt).toNat := (s_cl (show (j1 36 54).toInt = (j1 36 54).toInt by omega))
              refine sj_i (y := (i 379 ((j1 36 54).toInt).toNat)) (by rw [ek_185]; exact ((hfr_j1 379 ((j1 36 54).toInt).toNat (by omega)).trans ((congrFun (up2_n _ _ (by decide)) _).trans ((congrFun (up2_n _ _ (by decide)) _).trans ((congrFun (up2_n _ _ (by decide)) _).trans ((congrFun (up2_n _ _ (by decide)) _).trans (congrFun (up2_n _ _ (by decide)) _))))))) ?_
              refine lv_istore (lv' := [(5, .int (i 379 ((j1 36 54).toInt).toNat)), (4, .int gd), (0, .ref (g 36)), (1, .ref (g 379)), (2, .int y), (3, .int z)]) hx hb dX12_parse_66 hl (by decide) rfl (fun ls hl => ?_)
              refine lv_iload hx hb dX12_parse_68 (lv_at hl 0 rfl) ?_
              refine lv_bipush (v := 123) hx hb dX12_parse_70 (by decide) ?_
              refine lv_icmp_ne (tgt := 83) hx hb dX12_parse_72 (by decide) (fun c_186 => ?_) (fun c_186 => ?_)
              · skip
                have h_187 := s_ne (rfl : (i 379 ((j1 36 54).toInt).toNat).toInt = _) (show (123 : Int32).toInt = 123 from rfl) c_186
                refine lv_iload hx hb dX12_parse_83 (lv_at hl 0 rfl) ?_
                refine lv_bipush (v := 40) hx hb dX12_parse_85 (by decide) ?_
                refine lv_icmp_ne (tgt := 98) hx hb dX12_parse_87 (by decide) (fun c_188 => ?_) (fun c_188 => ?_)
                · skip
                  have h_189 := s_ne (rfl : (i 379 ((j1 36 54).toInt).toNat).toInt = _) (show (40 : Int32).toInt = 40 from rfl) c_188
                  refine lv_iload hx hb dX12_parse_98 (lv_at hl 0 rfl) ?_
                  refine lv_bipush (v := 32) hx hb dX12_parse_100 (by decide) ?_
                  refine lv_icmp_ne (tgt := 112) hx hb dX12_parse_102 (by decide) (fun c_190 => ?_) (fun c_190 => ?_)
                  · skip
                    have h_191 := s_ne (rfl : (i 379 ((j1 36 54).toInt).toNat).toInt = _) (show (32 : Int32).toInt = 32 from rfl) c_190
                    refine lv_aload_n hx hb dX12_parse_112 rfl (lv_at hl 2 rfl) ?_
                    refine lv_aload_n hx hb dX12_parse_113 rfl (lv_at hl 3 rfl) ?_
                    have hwt_192 : (j1 36 55).toInt = (z_5 : Int32).toInt := congrArg Int32.toInt ((hfr_j1 36 55 (by omega)).trans (up2_at _ _ _ _))
                    refine x_calli (va_runV (As := [.ref (g 379)]) (rest := []) ⟨hx, hb, hml, hown, hts⟩ (m_word_T l D g ka ad j1 r L d  hO_j1 hR H.size (by first | omega | decide) (by first | omega | decide) (by first | omega | decide) (by first | omega | decide) (by first | omega | decide) hexj) (cwV 1 hts gX12_parse_X12_word rfl rfl rfl (by decide +kernel) ⟨(Nat.le_of_ble_eq_true rfl), (Nat.le_of_ble_eq_true rfl)⟩) (x_preV (q := (RX12, TX12, 86)) hH hK (q_obj (by decide) (rfl : kd 36 = 12) (by decide)) rfl gxb (gxw hE hS (x_F hH hS hA))) rfl rfl hl.1 rfl (lv_room (Nat.le_of_ble_eq_true rfl)) dX12_parse_114 ⟨(Nat.le_of_ble_eq_true rfl), (Nat.le_of_ble_eq_true rfl)⟩) hH hS hA rfl rfl (fun r_193 im_195 H locs hw_194 hH hS => ?_)
                    have hH : sj_H D A (hwc g ka im_195 r L d) H := hH
                    obtain ⟨hO_197, hfr_196, hr_198, hx2_199⟩ := hw_194
                    have hr_198 : (0 : Int) ≤ r_193.toInt ∧ r_193.toInt ≤ 1 := hr_198
                    have hu55 : (j1 36 55).toInt = y.toInt + z.toInt := by have h9 := (congrArg Int32.toInt (((hfr_j1 36 55 (by omega)).trans (up2_at _ _ _ _))) : (j1 36 55).toInt = (z_5 : Int32).toInt); omega
                    rw [show j1 379 = i 379 from funext fun b9 => ((hfr_j1 379 b9 (by omega)).trans ((up2_o _ _ (by omega)).trans ((up2_o _ _ (by omega)).trans ((up2_o _ _ (by omega)).trans ((up2_o _ _ (by omega)).trans (up2_o _ _ (by omega))))))), show (j1 36 55).toInt = (y.toInt + z.toInt) from hu55] at hx2_199
                    have hbd : r_193.toInt = 0 ∨ ((j1 36 54).toInt + 1 ≤ (im_195 36 54).toInt ∧ (im_195 36 54).toInt ≤ (y.toInt + z.toInt) ∧ (im_195 36 45).toInt - (j1 36 45).toInt ≤ (im_195 36 54).toInt - (j1 36 54).toInt ∧ (im_195 36 49).toInt - (j1 36 49).toInt ≤ (im_195 36 54).toInt - (j1 36 54).toInt ∧ (im_195 36 52).toInt - (j1 36 52).toInt ≤ (im_195 36 54).toInt - (j1 36 54).toInt) := hx2_199.elim (fun q => Or.inr ⟨q.2.2.1, q.2.2.2.1, q.2.2.2.2.1, q.2.2.2.2.2.1, q.2.2.2.2.2.2.1⟩) (fun q => Or.inl q.1)
                    have hexn : exG r_193.toInt im_195 := hx2_199.elim (fun q => Or.inr q.2.2.2.2.2.2.2.2) (fun q => Or.inl q.1)
                    refine lv_istore (lv' := [(4, .int r_193), (5, .int (i 379 ((j1 36 54).toInt).toNat)), (0, .ref (g 36)), (1, .ref (g 379)), (2, .int y), (3, .int z)]) hx hb dX12_parse_117 hl (by decide) rfl (fun ls hl => ?_)
                    refine lv_goto (tgt := 44) hx hb dX12_parse_119 (by decide) ?_
                    have hp_200 : (im_195 36 45).toInt = ((im_195 36 45) : Int32).toInt := rfl
                    have hp_201 : (im_195 36 49).toInt = ((im_195 36 49) : Int32).toInt := rfl
                    have hp_202 : (im_195 36 52).toInt = ((im_195 36 52) : Int32).toInt := rfl
                    have hp_203 : (im_195 36 54).toInt = ((im_195 36 54) : Int32).toInt := rfl
                    exact ih_lp_135 r_193 _ _ _ ls (mz_lt hm (by omega) (by omega) (by omega)) (by omega) (by omega) hexn (pt_wd hi_lp_135_2 (by omega) (by omega) (by omega) (by omega) (by omega) (by omega) (hx2_199.elim (fun q => Or.inl ⟨q.1, q.2.1, q.2.2.1, q.2.2.2.2.2.2.2.1⟩) Or.inr)) hO_197 (fun a b ha => ((hfr_196 a b (by omega)).trans (hfr_j1 a b (by omega)))) (lv_sub hl [0, 2, 3, 4, 5] rfl) hH hS
                  · skip
                    have h_204 := s_eq (rfl : (i 379 ((j1 36 54).toInt).toNat).toInt = _) (show (32 : Int32).toInt = 32 from rfl) c_190
                    refine lv_aload_n hx hb dX12_parse_105 rfl (lv_at hl 2 rfl) ?_
                    have hwt_205 : (j1 36 55).toInt = (z_5 : Int32).toInt := congrArg Int32.toInt ((hfr_j1 36 55 (by omega)).trans (up2_at _ _ _ _))
                    refine x_calli (va_runV (As := []) (rest := []) ⟨hx, hb, hml, hown, hts⟩ (m_blank l D g ka ad j1 r L d  hO_j1 hR H.size (by first | omega | decide) (by first | omega | decide) hexj) (cwV 0 hts gX12_parse_X12_blank rfl rfl rfl (by decide +kernel) ⟨(Nat.le_of_ble_eq_true rfl), (Nat.le_of_ble_eq_true rfl)⟩) (x_preV (q := (RX12, TX12, 86)) hH hK (q_obj (by decide) (rfl : kd 36 = 12) (by decide)) rfl gxb (gxw hE hS (x_F hH hS hA))) rfl rfl hl.1 rfl (lv_room (Nat.le_of_ble_eq_true rfl)) dX12_parse_106 ⟨(Nat.le_of_ble_eq_true rfl), (Nat.le_of_ble_eq_true rfl)⟩) hH hS hA rfl rfl (fun r_206 im_208 H locs hw_207 hH hS => ?_)
                    have hH : sj_H D A (hwc g ka im_208 r L d) H := hH
                    obtain ⟨hO_210, hfr_209, hr_211, hx2_212⟩ := hw_207
                    have hr_211 : (1 : Int) ≤ r_206.toInt ∧ r_206.toInt ≤ 1 := hr_211
                    have hu55 : (j1 36 55).toInt = y.toInt + z.toInt := by have h9 := (congrArg Int32.toInt (((hfr_j1 36 55 (by omega)).trans (up2_at _ _ _ _))) : (j1 36 55).toInt = (z_5 : Int32).toInt); omega
                    refine lv_goto (tgt := 117) hx hb dX12_parse_109 (by decide) ?_
                    refine lv_istore (lv' := [(4, .int r_206), (5, .int (i 379 ((j1 36 54).toInt).toNat)), (0, .ref (g 36)), (1, .ref (g 379)), (2, .int y), (3, .int z)]) hx hb dX12_parse_117 hl (by decide) rfl (fun ls hl => ?_)
                    refine lv_goto (tgt := 44) hx hb dX12_parse_119 (by decide) ?_
                    have hp_213 : (im_208 36 45).toInt = ((im_208 36 45) : Int32).toInt := rfl
                    have hp_214 : (im_208 36 49).toInt = ((j1 36 49) : Int32).toInt := congrArg Int32.toInt ((hfr_209 36 49 (by omega)))
                    have hp_215 : (im_208 36 52).toInt = ((j1 36 52) : Int32).toInt := congrArg Int32.toInt ((hfr_209 36 52 (by omega)))
                    have hp_216 : (im_208 36 54).toInt = ((im_208 36 54) : Int32).toInt := rfl
                    have hbl1 := hx2_212.1
                    have hbl2 := hx2_212.2.1
                    exact ih_lp_135 r_206 _ _ _ ls (mz_lt hm (by omega) (by omega) (by omega)) (by omega) (by omega) (Or.inr hx2_212.2.2.2) (pt_bl hi_lp_135_2 (by omega) (by omega) (by omega) (by omega) (by omega) (by omega) hx2_212.2.2.1) hO_210 (fun a b ha => ((hfr_209 a b (by omega)).trans (hfr_j1 a b (by omega)))) (lv_sub hl [0, 2, 3, 4, 5] rfl) hH hS
                · skip
                  have h_217 := s_eq (rfl : (i 379 ((j1 36 54).toInt).toNat).toInt = _) (show (40 : Int32).toInt = 40 from rfl) c_188
                  refine lv_aload_n hx hb dX12_parse_90 rfl (lv_at hl 2 rfl) ?_
                  refine lv_aload_n hx hb dX12_parse_91 rfl (lv_at hl 3 rfl) ?_
                  have hwt_218 : (j1 36 55).toInt = (z_5 : Int32).toInt := congrArg Int32.toInt ((hfr_j1 36 55 (by omega)).trans (up2_at _ _ _ _))
                  refine x_calli (va_runV (As := [.ref (g 379)]) (rest := []) ⟨hx, hb, hml, hown, hts⟩ (m_optional_T l D g ka ad j1 r L d  hO_j1 hR H.size (by first | omega | decide) (by first | omega | decide) (by first | omega | decide) (by first | omega | decide) (by first | omega | decide) hexj) (cwV 1 hts gX12_parse_X12_optional rfl rfl rfl (by decide +kernel) ⟨(Nat.le_of_ble_eq_true rfl), (Nat.le_of_ble_eq_true rfl)⟩) (x_preV (q := (RX12, TX12, 86)) hH hK (q_obj (by decide) (rfl : kd 36 = 12) (by decide)) rfl gxb (gxw hE hS (x_F hH hS hA))) rfl rfl hl.1 rfl (lv_room (Nat.le_of_ble_eq_true rfl)) dX12_parse_92 ⟨(Nat.le_of_ble_eq_true rfl), (Nat.le_of_ble_eq_true rfl)⟩) hH hS hA rfl rfl (fun r_219 im_221 H locs hw_220 hH hS => ?_)
                  have hH : sj_H D A (hwc g ka im_221 r L d) H := hH
                  obtain ⟨hO_223, hfr_222, hr_224, hx2_225⟩ := hw_220
                  have hr_224 : (0 : Int) ≤ r_219.toInt ∧ r_219.toInt ≤ 1 := hr_224
                  have hu55 : (j1 36 55).toInt = y.toInt + z.toInt := by have h9 := (congrArg Int32.toInt (((hfr_j1 36 55 (by omega)).trans (up2_at _ _ _ _))) : (j1 36 55).toInt = (z_5 : Int32).toInt); omega
                  rw [show j1 379 = i 379 from funext fun b9 => ((hfr_j1 379 b9 (by omega)).trans ((up2_o _ _ (by omega)).trans ((up2_o _ _ (by omega)).trans ((up2_o _ _ (by omega)).trans ((up2_o _ _ (by omega)).trans (up2_o _ _ (by omega))))))), show (j1 36 55).toInt = (y.toInt + z.toInt) from hu55] at hx2_225
                  have hbd : r_219.toInt = 0 ∨ ((j1 36 54).toInt + 2 ≤ (im_221 36 54).toInt ∧ (im_221 36 54).toInt ≤ (y.toInt + z.toInt) ∧ (im_221 36 45).toInt = (j1 36 45).toInt + 1 ∧ (im_221 36 49).toInt = (j1 36 49).toInt + 1 ∧ (im_221 36 52).toInt - (j1 36 52).toInt ≤ (im_221 36 54).toInt - (j1 36 54).toInt) := hx2_225.elim (fun q => Or.inr ⟨q.2.2.1, q.2.2.2.1, q.2.2.2.2.1, q.2.2.2.2.2.1, q.2.2.2.2.2.2.1⟩) (fun q => Or.inl q.1)
                  have hexn : exG r_219.toInt im_221 := hx2_225.elim (fun q => Or.inr q.2.2.2.2.2.2.2.2) (fun q => Or.inl q.1)
                  refine lv_goto (tgt := 117) hx hb dX12_parse_95 (by decide) ?_
                  refine lv_istore (lv' := [(4, .int r_219), (5, .int (i 379 ((j1 36 54).toInt).toNat)), (0, .ref (g 36)), (1, .ref (g 379)), (2, .int y), (3, .int z)]) hx hb dX12_parse_117 hl (by decide) rfl (fun ls hl => ?_)
                  refine lv_goto (tgt := 44) hx hb dX12_parse_119 (by decide) ?_
                  have hp_226 : (im_221 36 45).toInt = ((im_221 36 45) : Int32).toInt := rfl
                  have hp_227 : (im_221 36 49).toInt = ((im_221 36 49) : Int32).toInt := rfl
                  have hp_228 : (im_221 36 52).toInt = ((im_221 36 52) : Int32).toInt := rfl
                  have hp_229 : (im_221 36 54).toInt = ((im_221 36 54) : Int32).toInt := rfl
                  exact ih_lp_135 r_219 _ _ _ ls (mz_lt hm (by omega) (by omega) (by omega)) (by omega) (by omega) hexn (pt_op hi_lp_135_2 (by omega) (by omega) (by omega) (by omega) (hx2_225.elim (fun q => Or.inl ⟨q.1, q.2.1, by have := q.2.2.1; omega, q.2.2.2.2.2.2.2.1⟩) Or.inr)) hO_223 (fun a b ha => ((hfr_222 a b (by omega)).trans (hfr_j1 a b (by omega)))) (lv_sub hl [0, 2, 3, 4, 5] rfl) hH hS
              · skip
                have h_230 := s_eq (rfl : (i 379 ((j1 36 54).toInt).toNat).toInt = _) (show (123 : Int32).toInt = 123 from rfl) c_186
                refine lv_aload_n hx hb dX12_parse_75 rfl (lv_at hl 2 rfl) ?_
                refine lv_aload_n hx hb dX12_parse_76 rfl (lv_at hl 3 rfl) ?_
                have hwt_231 : (j1 36 55).toInt = (z_5 : Int32).toInt := congrArg Int32.toInt ((hfr_j1 36 55 (by omega)).trans (up2_at _ _ _ _))
                refine x_calli (va_runV (As := [.ref (g 379)]) (rest := []) ⟨hx, hb, hml, hown, hts⟩ (m_parameter_T l D g ka ad j1 r L d  hO_j1 hR H.size (by first | omega | decide) (by first | omega | decide) (by first | omega | decide) hexj) (cwV 1 hts gX12_parse_X12_parameter rfl rfl rfl (by decide +kernel) ⟨(Nat.le_of_ble_eq_true rfl), (Nat.le_of_ble_eq_true rfl)⟩) (x_preV (q := (RX12, TX12, 86)) hH hK (q_obj (by decide) (rfl : kd 36 = 12) (by decide)) rfl gxb (gxw hE hS (x_F hH hS hA))) rfl rfl hl.1 rfl (lv_room (Nat.le_of_ble_eq_true rfl)) dX12_parse_77 ⟨(Nat.le_of_ble_eq_true rfl), (Nat.le_of_ble_eq_true rfl)⟩) hH hS hA rfl rfl (fun r_232 im_234 H locs hw_233 hH hS => ?_)
                have hH : sj_H D A (hwc g ka im_234 r L d) H := hH
                obtain ⟨hO_236, hfr_235, hr_237, hx2_238⟩ := hw_233
                have hr_237 : (0 : Int) ≤ r_232.toInt ∧ r_232.toInt ≤ 1 := hr_237
                have hu55 : (j1 36 55).toInt = y.toInt + z.toInt := by have h9 := (congrArg Int32.toInt (((hfr_j1 36 55 (by omega)).trans (up2_at _ _ _ _))) : (j1 36 55).toInt = (z_5 : Int32).toInt); omega
                rw [show j1 379 = i 379 from funext fun b9 => ((hfr_j1 379 b9 (by omega)).trans ((up2_o _ _ (by omega)).trans ((up2_o _ _ (by omega)).trans ((up2_o _ _ (by omega)).trans ((up2_o _ _ (by omega)).trans (up2_o _ _ (by omega))))))), show (j1 36 55).toInt = (y.toInt + z.toInt) from hu55] at hx2_238
                have hbd : r_232.toInt = 0 ∨ ((im_234 36 54).toInt = (j1 36 54).toInt + 3 ∧ (im_234 36 54).toInt ≤ (y.toInt + z.toInt) ∧ (im_234 36 45).toInt = (j1 36 45).toInt + 1) := hx2_238.elim (fun q => Or.inr ⟨q.2.2.1, q.2.2.2.1, q.2.2.2.2.1⟩) (fun q => Or.inl q.1)
                have hexn : exG r_232.toInt im_234 := hx2_238.elim (fun q => Or.inr q.2.2.2.2.2.2) (fun q => Or.inl q.1)
                refine lv_goto (tgt := 117) hx hb dX12_parse_80 (by decide) ?_
                refine lv_istore (lv' := [(4, .int r_232), (5, .int (i 379 ((j1 36 54).toInt).toNat)), (0, .ref (g 36)), (1, .ref (g 379)), (2, .int y), (3, .int z)]) hx hb dX12_parse_117 hl (by decide) rfl (fun ls hl => ?_)
                refine lv_goto (tgt := 44) hx hb dX12_parse_119 (by decide) ?_
                have hp_239 : (im_234 36 45).toInt = ((im_234 36 45) : Int32).toInt := rfl
                have hp_240 : (im_234 36 49).toInt = ((j1 36 49) : Int32).toInt := congrArg Int32.toInt ((hfr_235 36 49 (by omega)))
                have hp_241 : (im_234 36 52).toInt = ((j1 36 52) : Int32).toInt := congrArg Int32.toInt ((hfr_235 36 52 (by omega)))
                have hp_242 : (im_234 36 54).toInt = ((im_234 36 54) : Int32).toInt := rfl
                exact ih_lp_135 r_232 _ _ _ ls (mz_lt hm (by omega) (by omega) (by omega)) (by omega) (by omega) hexn (pt_pa hi_lp_135_2 (by omega) (by omega) (by omega) (by omega) (hx2_238.elim (fun q => Or.inl ⟨q.1, q.2.1, by have := q.2.2.1; omega, q.2.2.2.2.2.1⟩) Or.inr)) hO_236 (fun a b ha => ((hfr_235 a b (by omega)).trans (hfr_j1 a b (by omega)))) (lv_sub hl [0, 2, 3, 4, 5] rfl) hH hS
      have hl_243 : (0 : Int32).toInt = 0 := rfl
      have hp_244 : ((up2 (up2 (up2 (up2 (up2 i 36 45 0) 36 49 0) 36 52 0) 36 54 y) 36 55 z_5) 36 45).toInt = (0 : Int32).toInt := congrArg Int32.toInt (((up2_k _ _ (by decide)).trans ((up2_k _ _ (by decide)).trans ((up2_k _ _ (by decide)).trans ((up2_k _ _ (by decide)).trans (up2_at _ _ _ _))))))
      have hl_245 : (0 : Int32).toInt = 0 := rfl
      have hp_246 : ((up2 (up2 (up2 (up2 (up2 i 36 45 0) 36 49 0) 36 52 0) 36 54 y) 36 55 z_5) 36 49).toInt = (0 : Int32).toInt := congrArg Int32.toInt (((up2_k _ _ (by decide)).trans ((up2_k _ _ (by decide)).trans ((up2_k _ _ (by decide)).trans (up2_at _ _ _ _)))))
      have hl_247 : (0 : Int32).toInt = 0 := rfl
      have hp_248 : ((up2 (up2 (up2 (up2 (up2 i 36 45 0) 36 49 0) 36 52 0) 36 54 y) 36 55 z_5) 36 52).toInt = (0 : Int32).toInt := congrArg Int32.toInt (((up2_k _ _ (by decide)).trans ((up2_k _ _ (by decide)).trans (up2_at _ _ _ _))))
      have hl_249 : (0 : Int32).toInt = 0 := rfl
      have hp_250 : ((up2 (up2 (up2 (up2 (up2 i 36 45 0) 36 49 0) 36 52 0) 36 54 y) 36 55 z_5) 36 54).toInt = (y : Int32).toInt := congrArg Int32.toInt (((up2_k _ _ (by decide)).trans (up2_at _ _ _ _)))
      have hp_251 : ((up2 (up2 (up2 (up2 (up2 i 36 45 0) 36 49 0) 36 52 0) 36 54 y) 36 55 z_5) 36 45).toInt = (0 : Int32).toInt := congrArg Int32.toInt (((up2_k _ _ (by decide)).trans ((up2_k _ _ (by decide)).trans ((up2_k _ _ (by decide)).trans ((up2_k _ _ (by decide)).trans (up2_at _ _ _ _))))))
      have hl_252 : (0 : Int32).toInt = 0 := rfl
      have hp_253 : ((up2 (up2 (up2 (up2 (up2 i 36 45 0) 36 49 0) 36 52 0) 36 54 y) 36 55 z_5) 36 49).toInt = (0 : Int32).toInt := congrArg Int32.toInt (((up2_k _ _ (by decide)).trans ((up2_k _ _ (by decide)).trans ((up2_k _ _ (by decide)).trans (up2_at _ _ _ _)))))
      have hl_254 : (0 : Int32).toInt = 0 := rfl
      have hp_255 : ((up2 (up2 (up2 (up2 (up2 i 36 45 0) 36 49 0) 36 52 0) 36 54 y) 36 55 z_5) 36 45).toInt = (0 : Int32).toInt := congrArg Int32.toInt (((up2_k _ _ (by decide)).trans ((up2_k _ _ (by decide)).trans ((up2_k _ _ (by decide)).trans ((up2_k _ _ (by decide)).trans (up2_at _ _ _ _))))))
      have hl_256 : (0 : Int32).toInt = 0 := rfl
      have hp_257 : ((up2 (up2 (up2 (up2 (up2 i 36 45 0) 36 49 0) 36 52 0) 36 54 y) 36 55 z_5) 36 54).toInt = (y : Int32).toInt := congrArg Int32.toInt (((up2_k _ _ (by decide)).trans (up2_at _ _ _ _)))
      have hc40 : c4 (up2 (up2 (up2 (up2 (up2 i 36 45 0) 36 49 0) 36 52 0) 36 54 y) 36 55 z_5) = 0 := by unfold c4; rw [show ((up2 (up2 (up2 (up2 (up2 i 36 45 0) 36 49 0) 36 52 0) 36 54 y) 36 55 z_5) 36 45).toInt.toNat = 0 by omega]; rfl
      exact lp_135 _ 0 _ _ _ ls (Nat.lt_succ_self _) (by omega) (by omega) (Or.inr (exI_0 (by omega) (by omega))) (pt_no (by omega) (by omega) (by omega)) hO_6 (fun a b ha => rfl) (lv_sub hl [0, 1, 2, 3, 4] rfl) hH hS
    · skip
      have h_258 := s_nlt (show (60 : Int32).toInt = 60 from rfl) (rfl : z.toInt = _) c_133
      refine lv_iconst (v := 1) hx hb dX12_parse_37 (by decide) ?_
      refine lv_goto (tgt := 42) hx hb dX12_parse_38 (by decide) ?_
      refine lv_istore (lv' := [(4, .int 1), (0, .ref (g 36)), (1, .ref (g 379)), (2, .int y), (3, .int z)]) hx hb dX12_parse_42 hl (by decide) rfl (fun ls hl => ?_)
      -- loop at 44
      have lp_259 : ∀ (fuel_lp_259 : Nat) (gd : Int32) (j1 : Nat → Nat → Int32) (H : Heap) (locs : List Loc) (ls : Array Slot), (mzr gd.toInt ((y.toInt + z.toInt) - (j1 36 54).toInt)).toNat < fuel_lp_259 → (0 : Int) ≤ gd.toInt ∧ gd.toInt ≤ 1 → gd.toInt = 0 ∨ ((y.toInt ≤ (j1 36 54).toInt ∧ (j1 36 54).toInt ≤ (y.toInt + z.toInt)) ∧ (j1 36 45).toInt ≤ (j1 36 54).toInt - y.toInt ∧ (j1 36 49).toInt ≤ (j1 36 54).toInt - y.toInt ∧ (j1 36 52).toInt ≤ (j1 36 54).toInt - y.toInt) → exG gd.toInt j1 → ptR (i 379) y.toInt (y.toInt + z.toInt) gd.toInt (j1 36 54).toInt (c4 j1) → OkI j1 → (∀ a b, ¬ ((a = 36 ∧ (b = 45 ∨ b = 49 ∨ b = 52 ∨ b = 54)) ∨ a = 406 ∨ a = 407 ∨ a = 408 ∨ a = 409 ∨ a = 410 ∨ a = 411) → j1 a b = (up2 (up2 (up2 (up2 (up2 i 36 45 0) 36 49 0) 36 52 0) 36 54 y) 36 55 z_5) a b) → lv_has ls 7 [(4, .int gd), (0, .ref (g 36)), (1, .ref (g 379)), (2, .int y), (3, .int z)] → sj_H D A (hwc g ka j1 r L d) H → va_S A s.heap H locs → W p l e (headSpec wsX12_parse ({ frames := 2, cells := 0, slots := 0, locals := 46 })).room s m ([.ref (g 36), .ref (g 379), .int y, .int z] : List Value).toArray below meth c H locs 0 0 (MQ below (sj_Qi (S := (Nat → Nat → Int32)) D (fun v u => OkI u ∧ (∀ a b, ¬ ((a = 36 ∧ (b = 45 ∨ b = 49 ∨ b = 52 ∨ b = 54 ∨ b = 55)) ∨ a = 406 ∨ a = 407 ∨ a = 408 ∨ a = 409 ∨ a = 410 ∨ a = 411) → u a b = i a b) ∧ ((0 : Int) ≤ v.toInt ∧ v.toInt ≤ 1) ∧ ((v.toInt = 1 ∧ prOK (lnL (i 379) y.toInt (y.toInt + z.toInt)) ∧ c4 u ≤ 6 ∧ exI u ∧ (u 36 45).toInt ≤ 60) ∨ (v.toInt = 0 ∧ ¬ prOK (lnL (i 379) y.toInt (y.toInt + z.toInt))))) (fun u => hwc g ka u r L d) (fun _ => []) A) ([.ref (g 36), .ref (g 379), .int y, .int z] : List Value).toArray s 0 0 A) (F0 m 44 ls []) := by
        intro fuel_lp_259
        induction fuel_lp_259 with
        | zero => intros; omega
        | succ fuel_lp_259 ih_lp_259 =>
          intro gd j1 H locs ls hm hr_gd hi_lp_259_0 hi_lp_259_1 hi_lp_259_2 hO_j1 hfr_j1 hl hH hS
          have hx45j : (0 : Int) ≤ (j1 36 45).toInt ∧ (j1 36 45).toInt ≤ 64 := hO_j1 36 45
          refine lv_iload hx hb dX12_parse_44 (lv_at hl 0 rfl) ?_
          refine lv_if_eq (tgt := 122) hx hb dX12_parse_46 (by decide) (fun c_260 => ?_) (fun c_260 => ?_)
          · skip
            have h_261 := s_eq (rfl : gd.toInt = _) (show (0 : Int32).toInt = 0 from rfl) c_260
            refine lv_iconst (v := 0) hx hb dX12_parse_122 (by decide) ?_
            refine lv_istore (lv' := [(5, .int 0), (4, .int gd), (0, .ref (g 36)), (1, .ref (g 379)), (2, .int y), (3, .int z)]) hx hb dX12_parse_123 hl (by decide) rfl (fun ls hl => ?_)
            refine lv_iconst (v := 0) hx hb dX12_parse_125 (by decide) ?_
            refine lv_istore (lv' := [(6, .int 0), (5, .int 0), (4, .int gd), (0, .ref (g 36)), (1, .ref (g 379)), (2, .int y), (3, .int z)]) hx hb dX12_parse_126 hl (by decide) rfl (fun ls hl => ?_)
            -- loop at 128
            have lp_262 : ∀ (fuel_lp_262 : Nat) (t : Int32) (f : Int32) (H : Heap) (locs : List Loc) (ls : Array Slot), (64 - f.toInt).toNat < fuel_lp_262 → (0 : Int) ≤ t.toInt ∧ t.toInt ≤ 64 → (0 : Int) ≤ f.toInt ∧ f.toInt ≤ 64 → t.toInt ≤ f.toInt ∧ f.toInt ≤ (j1 36 45).toInt → t.toInt = (cnt (j1 406) 4 f.toInt.toNat : Int) → lv_has ls 7 [(6, .int f), (5, .int t), (4, .int gd), (0, .ref (g 36)), (1, .ref (g 379)), (2, .int y), (3, .int z)] → sj_H D A (hwc g ka j1 r L d) H → va_S A s.heap H locs → W p l e (headSpec wsX12_parse ({ frames := 2, cells := 0, slots := 0, locals := 46 })).room s m ([.ref (g 36), .ref (g 379), .int y, .int z] : List Value).toArray below meth c H locs 0 0 (MQ below (sj_Qi (S := (Nat → Nat → Int32)) D (fun v u => OkI u ∧ (∀ a b, ¬ ((a = 36 ∧ (b = 45 ∨ b = 49 ∨ b = 52 ∨ b = 54 ∨ b = 55)) ∨ a = 406 ∨ a = 407 ∨ a = 408 ∨ a = 409 ∨ a = 410 ∨ a = 411) → u a b = i a b) ∧ ((0 : Int) ≤ v.toInt ∧ v.toInt ≤ 1) ∧ ((v.toInt = 1 ∧ prOK (lnL (i 379) y.toInt (y.toInt + z.toInt)) ∧ c4 u ≤ 6 ∧ exI u ∧ (u 36 45).toInt ≤ 60) ∨ (v.toInt = 0 ∧ ¬ prOK (lnL (i 379) y.toInt (y.toInt + z.toInt))))) (fun u => hwc g ka u r L d) (fun _ => []) A) ([.ref (g 36), .ref (g 379), .int y, .int z] : List Value).toArray s 0 0 A) (F0 m 128 ls []) := by
              intro fuel_lp_262
              induction fuel_lp_262 with
              | zero => intros; omega
              | succ fuel_lp_262 ih_lp_262 =>
                intro t f H locs ls hm hr_t hr_f hi_lp_262_0 hi_lp_262_1 hl hH hS
                refine lv_iload hx hb dX12_parse_128 (lv_at hl 0 rfl) ?_
                refine lv_aload_n hx hb dX12_parse_130 rfl (lv_at hl 3 rfl) ?_
                have bx_263 : (0 : Int) ≤ (j1 36 45).toInt ∧ (j1 36 45).toInt ≤ 64 := hO_j1 36 45
                refine h_geti (ci := 12) (C := RX12) (F := TX12) (N := 86) hx hb hts in12 hown hK hH (by decide) (rfl : kd 36 = 12) (by decide) rfl 45 (by decide) wd0 (fun _ h9 => h9) (by decide) rfl dX12_parse_131 ?_
                refine lv_icmp_ge (tgt := 164) hx hb dX12_parse_134 (by decide) (fun c_264 => ?_) (fun c_264 => ?_)
                · skip
                  have h_265 := s_le (rfl : (j1 36 45).toInt = _) (rfl : f.toInt = _) c_264
                  refine lv_iload hx hb dX12_parse_164 (lv_at hl 2 rfl) ?_
                  refine lv_if_eq (tgt := 180) hx hb dX12_parse_166 (by decide) (fun _ => ?_) (fun h => absurd (p_eq (rfl : gd.toInt = _) (show (0 : Int32).toInt = 0 from rfl) (by omega)) h)
                  refine lv_iconst (v := 0) hx hb dX12_parse_180 (by decide) ?_
                  have hlv_266 : (0 : Int32).toInt = 0 := rfl
                  have hpe := pt_end hi_lp_259_2 (by omega) (fun _ => by omega)
                  have hct : t.toInt = c4 j1 := by unfold c4; rw [show (j1 36 45).toInt.toNat = f.toInt.toNat by omega]; omega
                  have hV_267 : ((0 : Int32).toInt = 1 ∧ prOK (lnL (i 379) y.toInt (y.toInt + z.toInt)) ∧ c4 j1 ≤ 6 ∧ exI j1 ∧ (j1 36 45).toInt ≤ 60) ∨ ((0 : Int32).toInt = 0 ∧ ¬ prOK (lnL (i 379) y.toInt (y.toInt + z.toInt))) := (Or.inr ⟨by omega, hpe.elim (fun q => (q.2.2.resolve_left (fun q8 => by have q7 := q8.1; have q6 := q.1; omega)).2) (fun q => q.2)⟩)
                  exact sj_zret hx hb hr hlocks (by decide +kernel) hS j1 ⟨hO_j1, (fun a b ha => ((hfr_j1 a b (by omega)).trans ((up2_o _ _ (by omega)).trans ((up2_o _ _ (by omega)).trans ((up2_o _ _ (by omega)).trans ((up2_o _ _ (by omega)).trans (up2_o _ _ (by omega)))))))), ⟨by decide, by decide⟩, hV_267⟩ hH (sj_Knil hK) (Nat.le_of_ble_eq_true rfl) (Nat.le_of_ble_eq_true rfl) dX12_parse_181
                · skip
                  have h_268 := s_nle (rfl : (j1 36 45).toInt = _) (rfl : f.toInt = _) c_264
                  refine lv_iload hx hb dX12_parse_137 (lv_at hl 1 rfl) ?_
                  refine lv_aload_n hx hb dX12_parse_139 rfl (lv_at hl 3 rfl) ?_
                  refine h_getr (ci := 12) (C := RX12) (F := TX12) (N := 86) hx hb hts in12 hown hK hH (by decide) (rfl : kd 36 = 12) (by decide) rfl 46 (by decide) wd5 (fun _ h9 => h9) (by decide) rfl (t := 406) (hR 36 46 rfl) (by decide) dX12_parse_140 ?_
                  refine lv_iload hx hb dX12_parse_143 (lv_at hl 0 rfl) ?_
                  have hc_269 := cnt_or (j1 406) 4 f.toInt.toNat
                  refine h_iald hx hb hK hH (by decide) (rfl : kd 406 = 13) (s_vin (N := 64) (rfl : f.toInt = _) (rfl : ln 406 = 64) (by omega) (by omega)) dX12_parse_145 ?_
                  have ek_270 : f.toNatClampNeg = (f.toInt).toNat := (s_cl (show f.toInt = f.toInt by omega))
                  refine sj_i (y := (j1 406 (f.toInt).toNat)) (by rw [ek_270]) ?_
                  refine lv_iconst (v := 4) hx hb dX12_parse_146 (by decide) ?_
                  refine lv_icmp_ne (tgt := 154) hx hb dX12_parse_147 (by decide) (fun c_271 => ?_) (fun c_271 => ?_)
                  · skip
                    have h_272 := s_ne (rfl : (j1 406 (f.toInt).toNat).toInt = _) (show (4 : Int32).toInt = 4 from rfl) c_271
                    refine lv_iconst (v := 0) hx hb dX12_parse_154 (by decide) ?_
                    refine lv_iadd hx hb dX12_parse_155 ?_
                    obtain ⟨z_273, ez_273, hz_273⟩ := s_add (rfl : t.toInt = _) (show (0 : Int32).toInt = 0 from rfl) (by omega) (by omega)
                    refine sj_i ez_273 ?_
                    refine lv_istore (lv' := [(5, .int z_273), (6, .int f), (4, .int gd), (0, .ref (g 36)), (1, .ref (g 379)), (2, .int y), (3, .int z)]) hx hb dX12_parse_156 hl (by decide) rfl (fun ls hl => ?_)
                    obtain ⟨z_274, ez_274, hz_274⟩ := s_add (rfl : f.toInt = _) (show (1 : Int32).toInt = 1 from rfl) (by omega) (by omega)
                    refine lv_iinc (v := z_274) (lv' := [(6, .int z_274), (5, .int z_273), (4, .int gd), (0, .ref (g 36)), (1, .ref (g 379)), (2, .int y), (3, .int z)]) hx hb dX12_parse_158 hl (k := 1) rfl ez_274 (by decide) rfl (fun ls hl => ?_)
                    refine lv_goto (tgt := 128) hx hb dX12_parse_161 (by decide) ?_
                    exact ih_lp_262 z_273 z_274 _ _ ls (by omega) (by omega) (by omega) (by omega) (by rw [show (z_274).toInt.toNat = f.toInt.toNat + 1 by omega]; omega) (lv_sub hl [0, 1, 2, 3, 4, 5, 6] rfl) hH hS
                  · skip
                    have h_275 := s_eq (rfl : (j1 406 (f.toInt).toNat).toInt = _) (show (4 : Int32).toInt = 4 from rfl) c_271
                    refine lv_iconst (v := 1) hx hb dX12_parse_150 (by decide) ?_
                    refine lv_goto (tgt := 155) hx hb dX12_parse_151 (by decide) ?_
                    refine lv_iadd hx hb dX12_parse_155 ?_
                    obtain ⟨z_276, ez_276, hz_276⟩ := s_add (rfl : t.toInt = _) (show (1 : Int32).toInt = 1 from rfl) (by omega) (by omega)
                    refine sj_i ez_276 ?_
                    refine lv_istore (lv' := [(5, .int z_276), (6, .int f), (4, .int gd), (0, .ref (g 36)), (1, .ref (g 379)), (2, .int y), (3, .int z)]) hx hb dX12_parse_156 hl (by decide) rfl (fun ls hl => ?_)
                    obtain ⟨z_277, ez_277, hz_277⟩ := s_add (rfl : f.toInt = _) (show (1 : Int32).toInt = 1 from rfl) (by omega) (by omega)
                    refine lv_iinc (v := z_277) (lv' := [(6, .int z_277), (5, .int z_276), (4, .int gd), (0, .ref (g 36)), (1, .ref (g 379)), (2, .int y), (3, .int z)]) hx hb dX12_parse_158 hl (k := 1) rfl ez_277 (by decide) rfl (fun ls hl => ?_)
                    refine lv_goto (tgt := 128) hx hb dX12_parse_161 (by decide) ?_
                    exact ih_lp_262 z_276 z_277 _ _ ls (by omega) (by omega) (by omega) (by omega) (by rw [show (z_277).toInt.toNat = f.toInt.toNat + 1 by omega]; omega) (lv_sub hl [0, 1, 2, 3, 4, 5, 6] rfl) hH hS
            have hl_278 : (0 : Int32).toInt = 0 := rfl
            have hl_279 : (0 : Int32).toInt = 0 := rfl
            exact lp_262 _ 0 0 _ _ ls (Nat.lt_succ_self _) (by omega) (by omega) (by omega) (by rfl) (lv_sub hl [0, 1, 2, 3, 4, 5, 6] rfl) hH hS
          · skip
            have h_280 := s_ne (rfl : gd.toInt = _) (show (0 : Int32).toInt = 0 from rfl) c_260
            have hexj := hi_lp_259_1.resolve_left (fun q => by omega)
            have hbj := hi_lp_259_0.resolve_left (fun q => by omega)
            have hpt := hi_lp_259_2.resolve_right (fun q => by have := q.1; omega)
            have hpz := hpt.2.1
            refine lv_aload_n hx hb dX12_parse_49 rfl (lv_at hl 1 rfl) ?_
            have bx_281 : (0 : Int) ≤ (j1 36 54).toInt ∧ (j1 36 54).toInt ≤ 720 := hO_j1 36 54
            refine h_geti (ci := 12) (C := RX12) (F := TX12) (N := 86) hx hb hts in12 hown hK hH (by decide) (rfl : kd 36 = 12) (by decide) rfl 54 (by decide) wd3 (fun _ h9 => h9) (by decide) rfl dX12_parse_50 ?_
            refine lv_aload_n hx hb dX12_parse_53 rfl (lv_at hl 1 rfl) ?_
            refine h_geti (ci := 12) (C := RX12) (F := TX12) (N := 86) hx hb hts in12 hown hK hH (by decide) (rfl : kd 36 = 12) (by decide) rfl 55 (by decide) wd4 (fun _ h9 => h9) (by decide) rfl dX12_parse_54 ?_
            refine sj_i (y := z_5) ((hfr_j1 36 55 (by omega)).trans (up2_at _ _ _ _)) ?_
            refine lv_icmp_ge (tgt := 122) hx hb dX12_parse_57 (by decide) (fun c_282 => ?_) (fun c_282 => ?_)
            · skip
              have h_283 := s_le (rfl : z_5.toInt = _) (rfl : (j1 36 54).toInt = _) c_282
              refine lv_iconst (v := 0) hx hb dX12_parse_122 (by decide) ?_
              refine lv_istore (lv' := [(5, .int 0), (4, .int gd), (0, .ref (g 36)), (1, .ref (g 379)), (2, .int y), (3, .int z)]) hx hb dX12_parse_123 hl (by decide) rfl (fun ls hl => ?_)
              refine lv_iconst (v := 0) hx hb dX12_parse_125 (by decide) ?_
              refine lv_istore (lv' := [(6, .int 0), (5, .int 0), (4, .int gd), (0, .ref (g 36)), (1, .ref (g 379)), (2, .int y), (3, .int z)]) hx hb dX12_parse_126 hl (by decide) rfl (fun ls hl => ?_)
              -- loop at 128
              have lp_284 : ∀ (fuel_lp_284 : Nat) (t : Int32) (f : Int32) (H : Heap) (locs : List Loc) (ls : Array Slot), (64 - f.toInt).toNat < fuel_lp_284 → (0 : Int) ≤ t.toInt ∧ t.toInt ≤ 64 → (0 : Int) ≤ f.toInt ∧ f.toInt ≤ 64 → t.toInt ≤ f.toInt ∧ f.toInt ≤ (j1 36 45).toInt → t.toInt = (cnt (j1 406) 4 f.toInt.toNat : Int) → lv_has ls 7 [(6, .int f), (5, .int t), (4, .int gd), (0, .ref (g 36)), (1, .ref (g 379)), (2, .int y), (3, .int z)] → sj_H D A (hwc g ka j1 r L d) H → va_S A s.heap H locs → W p l e (headSpec wsX12_parse ({ frames := 2, cells := 0, slots := 0, locals := 46 })).room s m ([.ref (g 36), .ref (g 379), .int y, .int z] : List Value).toArray below meth c H locs 0 0 (MQ below (sj_Qi (S := (Nat → Nat → Int32)) D (fun v u => OkI u ∧ (∀ a b, ¬ ((a = 36 ∧ (b = 45 ∨ b = 49 ∨ b = 52 ∨ b = 54 ∨ b = 55)) ∨ a = 406 ∨ a = 407 ∨ a = 408 ∨ a = 409 ∨ a = 410 ∨ a = 411) → u a b = i a b) ∧ ((0 : Int) ≤ v.toInt ∧ v.toInt ≤ 1) ∧ ((v.toInt = 1 ∧ prOK (lnL (i 379) y.toInt (y.toInt + z.toInt)) ∧ c4 u ≤ 6 ∧ exI u ∧ (u 36 45).toInt ≤ 60) ∨ (v.toInt = 0 ∧ ¬ prOK (lnL (i 379) y.toInt (y.toInt + z.toInt))))) (fun u => hwc g ka u r L d) (fun _ => []) A) ([.ref (g 36), .ref (g 379), .int y, .int z] : List Value).toArray s 0 0 A) (F0 m 128 ls []) := by
                intro fuel_lp_284
                induction fuel_lp_284 with
                | zero => intros; omega
                | succ fuel_lp_284 ih_lp_284 =>
                  intro t f H locs ls hm hr_t hr_f hi_lp_284_0 hi_lp_284_1 hl hH hS
                  refine lv_iload hx hb dX12_parse_128 (lv_at hl 0 rfl) ?_
                  refine lv_aload_n hx hb dX12_parse_130 rfl (lv_at hl 3 rfl) ?_
                  have bx_285 : (0 : Int) ≤ (j1 36 45).toInt ∧ (j1 36 45).toInt ≤ 64 := hO_j1 36 45
                  refine h_geti (ci := 12) (C := RX12) (F := TX12) (N := 86) hx hb hts in12 hown hK hH (by decide) (rfl : kd 36 = 12) (by decide) rfl 45 (by decide) wd0 (fun _ h9 => h9) (by decide) rfl dX12_parse_131 ?_
                  refine lv_icmp_ge (tgt := 164) hx hb dX12_parse_134 (by decide) (fun c_286 => ?_) (fun c_286 => ?_)
                  · skip
                    have h_287 := s_le (rfl : (j1 36 45).toInt = _) (rfl : f.toInt = _) c_286
                    refine lv_iload hx hb dX12_parse_164 (lv_at hl 2 rfl) ?_
                    refine lv_if_eq (tgt := 180) hx hb dX12_parse_166 (by decide) (fun h => absurd h (p_ne (rfl : gd.toInt = _) (show (0 : Int32).toInt = 0 from rfl) (by omega))) (fun _ => ?_)
                    refine lv_iload hx hb dX12_parse_169 (lv_at hl 1 rfl) ?_
                    refine lv_bipush (v := 6) hx hb dX12_parse_171 (by decide) ?_
                    refine lv_icmp_gt (tgt := 180) hx hb dX12_parse_173 (by decide) (fun c_288 => ?_) (fun c_288 => ?_)
                    · skip
                      have h_289 := s_lt (show (6 : Int32).toInt = 6 from rfl) (rfl : t.toInt = _) c_288
                      refine lv_iconst (v := 0) hx hb dX12_parse_180 (by decide) ?_
                      have hlv_290 : (0 : Int32).toInt = 0 := rfl
                      have hpe := pt_end hi_lp_259_2 (by omega) (fun _ => by omega)
                      have hct : t.toInt = c4 j1 := by unfold c4; rw [show (j1 36 45).toInt.toNat = f.toInt.toNat by omega]; omega
                      have hV_291 : ((0 : Int32).toInt = 1 ∧ prOK (lnL (i 379) y.toInt (y.toInt + z.toInt)) ∧ c4 j1 ≤ 6 ∧ exI j1 ∧ (j1 36 45).toInt ≤ 60) ∨ ((0 : Int32).toInt = 0 ∧ ¬ prOK (lnL (i 379) y.toInt (y.toInt + z.toInt))) := (Or.inr ⟨by omega, hpe.elim (fun q => (q.2.2.resolve_left (fun q8 => by have q7 := q8.1; have q6 := q.1; omega)).2) (fun q => q.2)⟩)
                      exact sj_zret hx hb hr hlocks (by decide +kernel) hS j1 ⟨hO_j1, (fun a b ha => ((hfr_j1 a b (by omega)).trans ((up2_o _ _ (by omega)).trans ((up2_o _ _ (by omega)).trans ((up2_o _ _ (by omega)).trans ((up2_o _ _ (by omega)).trans (up2_o _ _ (by omega)))))))), ⟨by decide, by decide⟩, hV_291⟩ hH (sj_Knil hK) (Nat.le_of_ble_eq_true rfl) (Nat.le_of_ble_eq_true rfl) dX12_parse_181
                    · skip
                      have h_292 := s_nlt (show (6 : Int32).toInt = 6 from rfl) (rfl : t.toInt = _) c_288
                      refine lv_iconst (v := 1) hx hb dX12_parse_176 (by decide) ?_
                      refine lv_goto (tgt := 181) hx hb dX12_parse_177 (by decide) ?_
                      have hlv_293 : (1 : Int32).toInt = 1 := rfl
                      have hpe := pt_end hi_lp_259_2 (by omega) (fun _ => by omega)
                      have hct : t.toInt = c4 j1 := by unfold c4; rw [show (j1 36 45).toInt.toNat = f.toInt.toNat by omega]; omega
                      have hV_294 : ((1 : Int32).toInt = 1 ∧ prOK (lnL (i 379) y.toInt (y.toInt + z.toInt)) ∧ c4 j1 ≤ 6 ∧ exI j1 ∧ (j1 36 45).toInt ≤ 60) ∨ ((1 : Int32).toInt = 0 ∧ ¬ prOK (lnL (i 379) y.toInt (y.toInt + z.toInt))) := (Or.inl ⟨by omega, ((hpe.resolve_right (fun q => by have := q.1; omega)).2.2.resolve_right (fun q => by have := q.1; omega)).2, by omega, hi_lp_259_1.resolve_left (fun q => by omega), by have := hi_lp_259_0.resolve_left (fun q => by omega); have := (hpe.resolve_right (fun q => by have := q.1; omega)).2.1; omega⟩)
                      exact sj_zret hx hb hr hlocks (by decide +kernel) hS j1 ⟨hO_j1, (fun a b ha => ((hfr_j1 a b (by omega)).trans ((up2_o _ _ (by omega)).trans ((up2_o _ _ (by omega)).trans ((up2_o _ _ (by omega)).trans ((up2_o _ _ (by omega)).trans (up2_o _ _ (by omega)))))))), ⟨by decide, by decide⟩, hV_294⟩ hH (sj_Knil hK) (Nat.le_of_ble_eq_true rfl) (Nat.le_of_ble_eq_true rfl) dX12_parse_181
                  · skip
                    have h_295 := s_nle (rfl : (j1 36 45).toInt = _) (rfl : f.toInt = _) c_286
                    refine lv_iload hx hb dX12_parse_137 (lv_at hl 1 rfl) ?_
                    refine lv_aload_n hx hb dX12_parse_139 rfl (lv_at hl 3 rfl) ?_
                    refine h_getr (ci := 12) (C := RX12) (F := TX12) (N := 86) hx hb hts in12 hown hK hH (by decide) (rfl : kd 36 = 12) (by decide) rfl 46 (by decide) wd5 (fun _ h9 => h9) (by decide) rfl (t := 406) (hR 36 46 rfl) (by decide) dX12_parse_140 ?_
                    refine lv_iload hx hb dX12_parse_143 (lv_at hl 0 rfl) ?_
                    have hc_296 := cnt_or (j1 406) 4 f.toInt.toNat
                    refine h_iald hx hb hK hH (by decide) (rfl : kd 406 = 13) (s_vin (N := 64) (rfl : f.toInt = _) (rfl : ln 406 = 64) (by omega) (by omega)) dX12_parse_145 ?_
                    have ek_297 : f.toNatClampNeg = (f.toInt).toNat := (s_cl (show f.toInt = f.toInt by omega))
                    refine sj_i (y := (j1 406 (f.toInt).toNat)) (by rw [ek_297]) ?_
                    refine lv_iconst (v := 4) hx hb dX12_parse_146 (by decide) ?_
                    refine lv_icmp_ne (tgt := 154) hx hb dX12_parse_147 (by decide) (fun c_298 => ?_) (fun c_298 => ?_)
                    · skip
                      have h_299 := s_ne (rfl : (j1 406 (f.toInt).toNat).toInt = _) (show (4 : Int32).toInt = 4 from rfl) c_298
                      refine lv_iconst (v := 0) hx hb dX12_parse_154 (by decide) ?_
                      refine lv_iadd hx hb dX12_parse_155 ?_
                      obtain ⟨z_300, ez_300, hz_300⟩ := s_add (rfl : t.toInt = _) (show (0 : Int32).toInt = 0 from rfl) (by omega) (by omega)
                      refine sj_i ez_300 ?_
                      refine lv_istore (lv' := [(5, .int z_300), (6, .int f), (4, .int gd), (0, .ref (g 36)), (1, .ref (g 379)), (2, .int y), (3, .int z)]) hx hb dX12_parse_156 hl (by decide) rfl (fun ls hl => ?_)
                      obtain ⟨z_301, ez_301, hz_301⟩ := s_add (rfl : f.toInt = _) (show (1 : Int32).toInt = 1 from rfl) (by omega) (by omega)
                      refine lv_iinc (v := z_301) (lv' := [(6, .int z_301), (5, .int z_300), (4, .int gd), (0, .ref (g 36)), (1, .ref (g 379)), (2, .int y), (3, .int z)]) hx hb dX12_parse_158 hl (k := 1) rfl ez_301 (by decide) rfl (fun ls hl => ?_)
                      refine lv_goto (tgt := 128) hx hb dX12_parse_161 (by decide) ?_
                      exact ih_lp_284 z_300 z_301 _ _ ls (by omega) (by omega) (by omega) (by omega) (by rw [show (z_301).toInt.toNat = f.toInt.toNat + 1 by omega]; omega) (lv_sub hl [0, 1, 2, 3, 4, 5, 6] rfl) hH hS
                    · skip
                      have h_302 := s_eq (rfl : (j1 406 (f.toInt).toNat).toInt = _) (show (4 : Int32).toInt = 4 from rfl) c_298
                      refine lv_iconst (v := 1) hx hb dX12_parse_150 (by decide) ?_
                      refine lv_goto (tgt := 155) hx hb dX12_parse_151 (by decide) ?_
                      refine lv_iadd hx hb dX12_parse_155 ?_
                      obtain ⟨z_303, ez_303, hz_303⟩ := s_add (rfl : t.toInt = _) (show (1 : Int32).toInt = 1 from rfl) (by omega) (by omega)
                      refine sj_i ez_303 ?_
                      refine lv_istore (lv' := [(5, .int z_303), (6, .int f), (4, .int gd), (0, .ref (g 36)), (1, .ref (g 379)), (2, .int y), (3, .int z)]) hx hb dX12_parse_156 hl (by decide) rfl (fun ls hl => ?_)
                      obtain ⟨z_304, ez_304, hz_304⟩ := s_add (rfl : f.toInt = _) (show (1 : Int32).toInt = 1 from rfl) (by omega) (by omega)
                      refine lv_iinc (v := z_304) (lv' := [(6, .int z_304), (5, .int z_303), (4, .int gd), (0, .ref (g 36)), (1, .ref (g 379)), (2, .int y), (3, .int z)]) hx hb dX12_parse_158 hl (k := 1) rfl ez_304 (by decide) rfl (fun ls hl => ?_)
                      refine lv_goto (tgt := 128) hx hb dX12_parse_161 (by decide) ?_
                      exact ih_lp_284 z_303 z_304 _ _ ls (by omega) (by omega) (by omega) (by omega) (by rw [show (z_304).toInt.toNat = f.toInt.toNat + 1 by omega]; omega) (lv_sub hl [0, 1, 2, 3, 4, 5, 6] rfl) hH hS
              have hl_305 : (0 : Int32).toInt = 0 := rfl
              have hl_306 : (0 : Int32).toInt = 0 := rfl
              exact lp_284 _ 0 0 _ _ ls (Nat.lt_succ_self _) (by omega) (by omega) (by omega) (by rfl) (lv_sub hl [0, 1, 2, 3, 4, 5, 6] rfl) hH hS
            · skip
              have h_307 := s_nle (rfl : z_5.toInt = _) (rfl : (j1 36 54).toInt = _) c_282
              refine lv_aload_n hx hb dX12_parse_60 rfl (lv_at hl 2 rfl) ?_
              refine lv_aload_n hx hb dX12_parse_61 rfl (lv_at hl 1 rfl) ?_
              refine h_geti (ci := 12) (C := RX12) (F := TX12) (N := 86) hx hb hts in12 hown hK hH (by decide) (rfl : kd 36 = 12) (by decide) rfl 54 (by decide) wd3 (fun _ h9 => h9) (by decide) rfl dX12_parse_62 ?_
              have bx_308 : (0 : Int) ≤ (i 379 ((j1 36 54).toInt).toNat).toInt ∧ (i 379 ((j1 36 54).toInt).toNat).toInt ≤ 65535 := hO 379 ((j1 36 54).toInt).toNat
              refine h_cald hx hb hK hH (by decide) (rfl : kd 379 = 14) (s_vin (N := 480) (rfl : (j1 36 54).toInt = _) (rfl : ln 379 = 480) (by omega) (by omega)) dX12_parse_65 ?_
              have ek_309 : (j1 36 54).toNatClampNeg = ((j1 36 54).toInt).toNat := (s_cl (show (j1 36 54).toInt = (j1 36 54).toInt by omega))
              refine sj_i (y := (i 379 ((j1 36 54).toInt).toNat)) (by rw [ek_309]; exact ((hfr_j1 379 ((j1 36 54).toInt).toNat (by omega)).trans ((congrFun (up2_n _ _ (by decide)) _).trans ((congrFun (up2_n _ _ (by decide)) _).trans ((congrFun (up2_n _ _ (by decide)) _).trans ((congrFun (up2_n _ _ (by decide)) _).trans (congrFun (up2_n _ _ (by decide)) _))))))) ?_
              refine lv_istore (lv' := [(5, .int (i 379 ((j1 36 54).toInt).toNat)), (4, .int gd), (0, .ref (g 36)), (1, .ref (g 379)), (2, .int y), (3, .int z)]) hx hb dX12_parse_66 hl (by decide) rfl (fun ls hl => ?_)
              refine lv_iload hx hb dX12_parse_68 (lv_at hl 0 rfl) ?_
              refine lv_bipush (v := 123) hx hb dX12_parse_70 (by decide) ?_
              refine lv_icmp_ne (tgt := 83) hx hb dX12_parse_72 (by decide) (fun c_310 => ?_) (fun c_310 => ?_)
              · skip
                have h_311 := s_ne (rfl : (i 379 ((j1 36 54).toInt).toNat).toInt = _) (show (123 : Int32).toInt = 123 from rfl) c_310
                refine lv_iload hx hb dX12_parse_83 (lv_at hl 0 rfl) ?_
                refine lv_bipush (v := 40) hx hb dX12_parse_85 (by decide) ?_
                refine lv_icmp_ne (tgt := 98) hx hb dX12_parse_87 (by decide) (fun c_312 => ?_) (fun c_312 => ?_)
                · skip
                  have h_313 := s_ne (rfl : (i 379 ((j1 36 54).toInt).toNat).toInt = _) (show (40 : Int32).toInt = 40 from rfl) c_312
                  refine lv_iload hx hb dX12_parse_98 (lv_at hl 0 rfl) ?_
                  refine lv_bipush (v := 32) hx hb dX12_parse_100 (by decide) ?_
                  refine lv_icmp_ne (tgt := 112) hx hb dX12_parse_102 (by decide) (fun c_314 => ?_) (fun c_314 => ?_)
                  · skip
                    have h_315 := s_ne (rfl : (i 379 ((j1 36 54).toInt).toNat).toInt = _) (show (32 : Int32).toInt = 32 from rfl) c_314
                    refine lv_aload_n hx hb dX12_parse_112 rfl (lv_at hl 2 rfl) ?_
                    refine lv_aload_n hx hb dX12_parse_113 rfl (lv_at hl 3 rfl) ?_
                    have hwt_316 : (j1 36 55).toInt = (z_5 : Int32).toInt := congrArg Int32.toInt ((hfr_j1 36 55 (by omega)).trans (up2_at _ _ _ _))
                    refine x_calli (va_runV (As := [.ref (g 379)]) (rest := []) ⟨hx, hb, hml, hown, hts⟩ (m_word_T l D g ka ad j1 r L d  hO_j1 hR H.size (by first | omega | decide) (by first | omega | decide) (by first | omega | decide) (by first | omega | decide) (by first | omega | decide) hexj) (cwV 1 hts gX12_parse_X12_word rfl rfl rfl (by decide +kernel) ⟨(Nat.le_of_ble_eq_true rfl), (Nat.le_of_ble_eq_true rfl)⟩) (x_preV (q := (RX12, TX12, 86)) hH hK (q_obj (by decide) (rfl : kd 36 = 12) (by decide)) rfl gxb (gxw hE hS (x_F hH hS hA))) rfl rfl hl.1 rfl (lv_room (Nat.le_of_ble_eq_true rfl)) dX12_parse_114 ⟨(Nat.le_of_ble_eq_true rfl), (Nat.le_of_ble_eq_true rfl)⟩) hH hS hA rfl rfl (fun r_317 im_319 H locs hw_318 hH hS => ?_)
                    have hH : sj_H D A (hwc g ka im_319 r L d) H := hH
                    obtain ⟨hO_321, hfr_320, hr_322, hx2_323⟩ := hw_318
                    have hr_322 : (0 : Int) ≤ r_317.toInt ∧ r_317.toInt ≤ 1 := hr_322
                    have hu55 : (j1 36 55).toInt = y.toInt + z.toInt := by have h9 := (congrArg Int32.toInt (((hfr_j1 36 55 (by omega)).trans (up2_at _ _ _ _))) : (j1 36 55).toInt = (z_5 : Int32).toInt); omega
                    rw [show j1 379 = i 379 from funext fun b9 => ((hfr_j1 379 b9 (by omega)).trans ((up2_o _ _ (by omega)).trans ((up2_o _ _ (by omega)).trans ((up2_o _ _ (by omega)).trans ((up2_o _ _ (by omega)).trans (up2_o _ _ (by omega))))))), show (j1 36 55).toInt = (y.toInt + z.toInt) from hu55] at hx2_323
                    have hbd : r_317.toInt = 0 ∨ ((j1 36 54).toInt + 1 ≤ (im_319 36 54).toInt ∧ (im_319 36 54).toInt ≤ (y.toInt + z.toInt) ∧ (im_319 36 45).toInt - (j1 36 45).toInt ≤ (im_319 36 54).toInt - (j1 36 54).toInt ∧ (im_319 36 49).toInt - (j1 36 49).toInt ≤ (im_319 36 54).toInt - (j1 36 54).toInt ∧ (im_319 36 52).toInt - (j1 36 52).toInt ≤ (im_319 36 54).toInt - (j1 36 54).toInt) := hx2_323.elim (fun q => Or.inr ⟨q.2.2.1, q.2.2.2.1, q.2.2.2.2.1, q.2.2.2.2.2.1, q.2.2.2.2.2.2.1⟩) (fun q => Or.inl q.1)
                    have hexn : exG r_317.toInt im_319 := hx2_323.elim (fun q => Or.inr q.2.2.2.2.2.2.2.2) (fun q => Or.inl q.1)
                    refine lv_istore (lv' := [(4, .int r_317), (5, .int (i 379 ((j1 36 54).toInt).toNat)), (0, .ref (g 36)), (1, .ref (g 379)), (2, .int y), (3, .int z)]) hx hb dX12_parse_117 hl (by decide) rfl (fun ls hl => ?_)
                    refine lv_goto (tgt := 44) hx hb dX12_parse_119 (by decide) ?_
                    have hp_324 : (im_319 36 45).toInt = ((im_319 36 45) : Int32).toInt := rfl
                    have hp_325 : (im_319 36 49).toInt = ((im_319 36 49) : Int32).toInt := rfl
                    have hp_326 : (im_319 36 52).toInt = ((im_319 36 52) : Int32).toInt := rfl
                    have hp_327 : (im_319 36 54).toInt = ((im_319 36 54) : Int32).toInt := rfl
                    exact ih_lp_259 r_317 _ _ _ ls (mz_lt hm (by omega) (by omega) (by omega)) (by omega) (by omega) hexn (pt_wd hi_lp_259_2 (by omega) (by omega) (by omega) (by omega) (by omega) (by omega) (hx2_323.elim (fun q => Or.inl ⟨q.1, q.2.1, q.2.2.1, q.2.2.2.2.2.2.2.1⟩) Or.inr)) hO_321 (fun a b ha => ((hfr_320 a b (by omega)).trans (hfr_j1 a b (by omega)))) (lv_sub hl [0, 2, 3, 4, 5] rfl) hH hS
                  · skip
                    have h_328 := s_eq (rfl : (i 379 ((j1 36 54).toInt).toNat).toInt = _) (show (32 : Int32).toInt = 32 from rfl) c_314
                    refine lv_aload_n hx hb dX12_parse_105 rfl (lv_at hl 2 rfl) ?_
                    have hwt_329 : (j1 36 55).toInt = (z_5 : Int32).toInt := congrArg Int32.toInt ((hfr_j1 36 55 (by omega)).trans (up2_at _ _ _ _))
                    refine x_calli (va_runV (As := []) (rest := []) ⟨hx, hb, hml, hown, hts⟩ (m_blank l D g ka ad j1 r L d  hO_j1 hR H.size (by first | omega | decide) (by first | omega | decide) hexj) (cwV 0 hts gX12_parse_X12_blank rfl rfl rfl (by decide +kernel) ⟨(Nat.le_of_ble_eq_true rfl), (Nat.le_of_ble_eq_true rfl)⟩) (x_preV (q := (RX12, TX12, 86)) hH hK (q_obj (by decide) (rfl : kd 36 = 12) (by decide)) rfl gxb (gxw hE hS (x_F hH hS hA))) rfl rfl hl.1 rfl (lv_room (Nat.le_of_ble_eq_true rfl)) dX12_parse_106 ⟨(Nat.le_of_ble_eq_true rfl), (Nat.le_of_ble_eq_true rfl)⟩) hH hS hA rfl rfl (fun r_330 im_332 H locs hw_331 hH hS => ?_)
                    have hH : sj_H D A (hwc g ka im_332 r L d) H := hH
                    obtain ⟨hO_334, hfr_333, hr_335, hx2_336⟩ := hw_331
                    have hr_335 : (1 : Int) ≤ r_330.toInt ∧ r_330.toInt ≤ 1 := hr_335
                    have hu55 : (j1 36 55).toInt = y.toInt + z.toInt := by have h9 := (congrArg Int32.toInt (((hfr_j1 36 55 (by omega)).trans (up2_at _ _ _ _))) : (j1 36 55).toInt = (z_5 : Int32).toInt); omega
                    refine lv_goto (tgt := 117) hx hb dX12_parse_109 (by decide) ?_
                    refine lv_istore (lv' := [(4, .int r_330), (5, .int (i 379 ((j1 36 54).toInt).toNat)), (0, .ref (g 36)), (1, .ref (g 379)), (2, .int y), (3, .int z)]) hx hb dX12_parse_117 hl (by decide) rfl (fun ls hl => ?_)
                    refine lv_goto (tgt := 44) hx hb dX12_parse_119 (by decide) ?_
                    have hp_337 : (im_332 36 45).toInt = ((im_332 36 45) : Int32).toInt := rfl
                    have hp_338 : (im_332 36 49).toInt = ((j1 36 49) : Int32).toInt := congrArg Int32.toInt ((hfr_333 36 49 (by omega)))
                    have hp_339 : (im_332 36 52).toInt = ((j1 36 52) : Int32).toInt := congrArg Int32.toInt ((hfr_333 36 52 (by omega)))
                    have hp_340 : (im_332 36 54).toInt = ((im_332 36 54) : Int32).toInt := rfl
                    have hbl1 := hx2_336.1
                    have hbl2 := hx2_336.2.1
                    exact ih_lp_259 r_330 _ _ _ ls (mz_lt hm (by omega) (by omega) (by omega)) (by omega) (by omega) (Or.inr hx2_336.2.2.2) (pt_bl hi_lp_259_2 (by omega) (by omega) (by omega) (by omega) (by omega) (by omega) hx2_336.2.2.1) hO_334 (fun a b ha => ((hfr_333 a b (by omega)).trans (hfr_j1 a b (by omega)))) (lv_sub hl [0, 2, 3, 4, 5] rfl) hH hS
                · skip
                  have h_341 := s_eq (rfl : (i 379 ((j1 36 54).toInt).toNat).toInt = _) (show (40 : Int32).toInt = 40 from rfl) c_312
                  refine lv_aload_n hx hb dX12_parse_90 rfl (lv_at hl 2 rfl) ?_
                  refine lv_aload_n hx hb dX12_parse_91 rfl (lv_at hl 3 rfl) ?_
                  have hwt_342 : (j1 36 55).toInt = (z_5 : Int32).toInt := congrArg Int32.toInt ((hfr_j1 36 55 (by omega)).trans (up2_at _ _ _ _))
                  refine x_calli (va_runV (As := [.ref (g 379)]) (rest := []) ⟨hx, hb, hml, hown, hts⟩ (m_optional_T l D g ka ad j1 r L d  hO_j1 hR H.size (by first | omega | decide) (by first | omega | decide) (by first | omega | decide) (by first | omega | decide) (by first | omega | decide) hexj) (cwV 1 hts gX12_parse_X12_optional rfl rfl rfl (by decide +kernel) ⟨(Nat.le_of_ble_eq_true rfl), (Nat.le_of_ble_eq_true rfl)⟩) (x_preV (q := (RX12, TX12, 86)) hH hK (q_obj (by decide) (rfl : kd 36 = 12) (by decide)) rfl gxb (gxw hE hS (x_F hH hS hA))) rfl rfl hl.1 rfl (lv_room (Nat.le_of_ble_eq_true rfl)) dX12_parse_92 ⟨(Nat.le_of_ble_eq_true rfl), (Nat.le_of_ble_eq_true rfl)⟩) hH hS hA rfl rfl (fun r_343 im_345 H locs hw_344 hH hS => ?_)
                  have hH : sj_H D A (hwc g ka im_345 r L d) H := hH
                  obtain ⟨hO_347, hfr_346, hr_348, hx2_349⟩ := hw_344
                  have hr_348 : (0 : Int) ≤ r_343.toInt ∧ r_343.toInt ≤ 1 := hr_348
                  have hu55 : (j1 36 55).toInt = y.toInt + z.toInt := by have h9 := (congrArg Int32.toInt (((hfr_j1 36 55 (by omega)).trans (up2_at _ _ _ _))) : (j1 36 55).toInt = (z_5 : Int32).toInt); omega
                  rw [show j1 379 = i 379 from funext fun b9 => ((hfr_j1 379 b9 (by omega)).trans ((up2_o _ _ (by omega)).trans ((up2_o _ _ (by omega)).trans ((up2_o _ _ (by omega)).trans ((up2_o _ _ (by omega)).trans (up2_o _ _ (by omega))))))), show (j1 36 55).toInt = (y.toInt + z.toInt) from hu55] at hx2_349
                  have hbd : r_343.toInt = 0 ∨ ((j1 36 54).toInt + 2 ≤ (im_345 36 54).toInt ∧ (im_345 36 54).toInt ≤ (y.toInt + z.toInt) ∧ (im_345 36 45).toInt = (j1 36 45).toInt + 1 ∧ (im_345 36 49).toInt = (j1 36 49).toInt + 1 ∧ (im_345 36 52).toInt - (j1 36 52).toInt ≤ (im_345 36 54).toInt - (j1 36 54).toInt) := hx2_349.elim (fun q => Or.inr ⟨q.2.2.1, q.2.2.2.1, q.2.2.2.2.1, q.2.2.2.2.2.1, q.2.2.2.2.2.2.1⟩) (fun q => Or.inl q.1)
                  have hexn : exG r_343.toInt im_345 := hx2_349.elim (fun q => Or.inr q.2.2.2.2.2.2.2.2) (fun q => Or.inl q.1)
                  refine lv_goto (tgt := 117) hx hb dX12_parse_95 (by decide) ?_
                  refine lv_istore (lv' := [(4, .int r_343), (5, .int (i 379 ((j1 36 54).toInt).toNat)), (0, .ref (g 36)), (1, .ref (g 379)), (2, .int y), (3, .int z)]) hx hb dX12_parse_117 hl (by decide) rfl (fun ls hl => ?_)
                  refine lv_goto (tgt := 44) hx hb dX12_parse_119 (by decide) ?_
                  have hp_350 : (im_345 36 45).toInt = ((im_345 36 45) : Int32).toInt := rfl
                  have hp_351 : (im_345 36 49).toInt = ((im_345 36 49) : Int32).toInt := rfl
                  have hp_352 : (im_345 36 52).toInt = ((im_345 36 52) : Int32).toInt := rfl
                  have hp_353 : (im_345 36 54).toInt = ((im_345 36 54) : Int32).toInt := rfl
                  exact ih_lp_259 r_343 _ _ _ ls (mz_lt hm (by omega) (by omega) (by omega)) (by omega) (by omega) hexn (pt_op hi_lp_259_2 (by omega) (by omega) (by omega) (by omega) (hx2_349.elim (fun q => Or.inl ⟨q.1, q.2.1, by have := q.2.2.1; omega, q.2.2.2.2.2.2.2.1⟩) Or.inr)) hO_347 (fun a b ha => ((hfr_346 a b (by omega)).trans (hfr_j1 a b (by omega)))) (lv_sub hl [0, 2, 3, 4, 5] rfl) hH hS
              · skip
                have h_354 := s_eq (rfl : (i 379 ((j1 36 54).toInt).toNat).toInt = _) (show (123 : Int32).toInt = 123 from rfl) c_310
                refine lv_aload_n hx hb dX12_parse_75 rfl (lv_at hl 2 rfl) ?_
                refine lv_aload_n hx hb dX12_parse_76 rfl (lv_at hl 3 rfl) ?_
                have hwt_355 : (j1 36 55).toInt = (z_5 : Int32).toInt := congrArg Int32.toInt ((hfr_j1 36 55 (by omega)).trans (up2_at _ _ _ _))
                refine x_calli (va_runV (As := [.ref (g 379)]) (rest := []) ⟨hx, hb, hml, hown, hts⟩ (m_parameter_T l D g ka ad j1 r L d  hO_j1 hR H.size (by first | omega | decide) (by first | omega | decide) (by first | omega | decide) hexj) (cwV 1 hts gX12_parse_X12_parameter rfl rfl rfl (by decide +kernel) ⟨(Nat.le_of_ble_eq_true rfl), (Nat.le_of_ble_eq_true rfl)⟩) (x_preV (q := (RX12, TX12, 86)) hH hK (q_obj (by decide) (rfl : kd 36 = 12) (by decide)) rfl gxb (gxw hE hS (x_F hH hS hA))) rfl rfl hl.1 rfl (lv_room (Nat.le_of_ble_eq_true rfl)) dX12_parse_77 ⟨(Nat.le_of_ble_eq_true rfl), (Nat.le_of_ble_eq_true rfl)⟩) hH hS hA rfl rfl (fun r_356 im_358 H locs hw_357 hH hS => ?_)
                have hH : sj_H D A (hwc g ka im_358 r L d) H := hH
                obtain ⟨hO_360, hfr_359, hr_361, hx2_362⟩ := hw_357
                have hr_361 : (0 : Int) ≤ r_356.toInt ∧ r_356.toInt ≤ 1 := hr_361
                have hu55 : (j1 36 55).toInt = y.toInt + z.toInt := by have h9 := (congrArg Int32.toInt (((hfr_j1 36 55 (by omega)).trans (up2_at _ _ _ _))) : (j1 36 55).toInt = (z_5 : Int32).toInt); omega
                rw [show j1 379 = i 379 from funext fun b9 => ((hfr_j1 379 b9 (by omega)).trans ((up2_o _ _ (by omega)).trans ((up2_o _ _ (by omega)).trans ((up2_o _ _ (by omega)).trans ((up2_o _ _ (by omega)).trans (up2_o _ _ (by omega))))))), show (j1 36 55).toInt = (y.toInt + z.toInt) from hu55] at hx2_362
                have hbd : r_356.toInt = 0 ∨ ((im_358 36 54).toInt = (j1 36 54).toInt + 3 ∧ (im_358 36 54).toInt ≤ (y.toInt + z.toInt) ∧ (im_358 36 45).toInt = (j1 36 45).toInt + 1) := hx2_362.elim (fun q => Or.inr ⟨q.2.2.1, q.2.2.2.1, q.2.2.2.2.1⟩) (fun q => Or.inl q.1)
                have hexn : exG r_356.toInt im_358 := hx2_362.elim (fun q => Or.inr q.2.2.2.2.2.2) (fun q => Or.inl q.1)
                refine lv_goto (tgt := 117) hx hb dX12_parse_80 (by decide) ?_
                refine lv_istore (lv' := [(4, .int r_356), (5, .int (i 379 ((j1 36 54).toInt).toNat)), (0, .ref (g 36)), (1, .ref (g 379)), (2, .int y), (3, .int z)]) hx hb dX12_parse_117 hl (by decide) rfl (fun ls hl => ?_)
                refine lv_goto (tgt := 44) hx hb dX12_parse_119 (by decide) ?_
                have hp_363 : (im_358 36 45).toInt = ((im_358 36 45) : Int32).toInt := rfl
                have hp_364 : (im_358 36 49).toInt = ((j1 36 49) : Int32).toInt := congrArg Int32.toInt ((hfr_359 36 49 (by omega)))
                have hp_365 : (im_358 36 52).toInt = ((j1 36 52) : Int32).toInt := congrArg Int32.toInt ((hfr_359 36 52 (by omega)))
                have hp_366 : (im_358 36 54).toInt = ((im_358 36 54) : Int32).toInt := rfl
                exact ih_lp_259 r_356 _ _ _ ls (mz_lt hm (by omega) (by omega) (by omega)) (by omega) (by omega) hexn (pt_pa hi_lp_259_2 (by omega) (by omega) (by omega) (by omega) (hx2_362.elim (fun q => Or.inl ⟨q.1, q.2.1, by have := q.2.2.1; omega, q.2.2.2.2.2.1⟩) Or.inr)) hO_360 (fun a b ha => ((hfr_359 a b (by omega)).trans (hfr_j1 a b (by omega)))) (lv_sub hl [0, 2, 3, 4, 5] rfl) hH hS
      have hl_367 : (1 : Int32).toInt = 1 := rfl
      have hp_368 : ((up2 (up2 (up2 (up2 (up2 i 36 45 0) 36 49 0) 36 52 0) 36 54 y) 36 55 z_5) 36 45).toInt = (0 : Int32).toInt := congrArg Int32.toInt (((up2_k _ _ (by decide)).trans ((up2_k _ _ (by decide)).trans ((up2_k _ _ (by decide)).trans ((up2_k _ _ (by decide)).trans (up2_at _ _ _ _))))))
      have hl_369 : (0 : Int32).toInt = 0 := rfl
      have hp_370 : ((up2 (up2 (up2 (up2 (up2 i 36 45 0) 36 49 0) 36 52 0) 36 54 y) 36 55 z_5) 36 49).toInt = (0 : Int32).toInt := congrArg Int32.toInt (((up2_k _ _ (by decide)).trans ((up2_k _ _ (by decide)).trans ((up2_k _ _ (by decide)).trans (up2_at _ _ _ _)))))
      have hl_371 : (0 : Int32).toInt = 0 := rfl
      have hp_372 : ((up2 (up2 (up2 (up2 (up2 i 36 45 0) 36 49 0) 36 52 0) 36 54 y) 36 55 z_5) 36 52).toInt = (0 : Int32).toInt := congrArg Int32.toInt (((up2_k _ _ (by decide)).trans ((up2_k _ _ (by decide)).trans (up2_at _ _ _ _))))
      have hl_373 : (0 : Int32).toInt = 0 := rfl
      have hp_374 : ((up2 (up2 (up2 (up2 (up2 i 36 45 0) 36 49 0) 36 52 0) 36 54 y) 36 55 z_5) 36 54).toInt = (y : Int32).toInt := congrArg Int32.toInt (((up2_k _ _ (by decide)).trans (up2_at _ _ _ _)))
      have hp_375 : ((up2 (up2 (up2 (up2 (up2 i 36 45 0) 36 49 0) 36 52 0) 36 54 y) 36 55 z_5) 36 45).toInt = (0 : Int32).toInt := congrArg Int32.toInt (((up2_k _ _ (by decide)).trans ((up2_k _ _ (by decide)).trans ((up2_k _ _ (by decide)).trans ((up2_k _ _ (by decide)).trans (up2_at _ _ _ _))))))
      have hl_376 : (0 : Int32).toInt = 0 := rfl
      have hp_377 : ((up2 (up2 (up2 (up2 (up2 i 36 45 0) 36 49 0) 36 52 0) 36 54 y) 36 55 z_5) 36 49).toInt = (0 : Int32).toInt := congrArg Int32.toInt (((up2_k _ _ (by decide)).trans ((up2_k _ _ (by decide)).trans ((up2_k _ _ (by decide)).trans (up2_at _ _ _ _)))))
      have hl_378 : (0 : Int32).toInt = 0 := rfl
      have hp_379 : ((up2 (up2 (up2 (up2 (up2 i 36 45 0) 36 49 0) 36 52 0) 36 54 y) 36 55 z_5) 36 45).toInt = (0 : Int32).toInt := congrArg Int32.toInt (((up2_k _ _ (by decide)).trans ((up2_k _ _ (by decide)).trans ((up2_k _ _ (by decide)).trans ((up2_k _ _ (by decide)).trans (up2_at _ _ _ _))))))
      have hl_380 : (0 : Int32).toInt = 0 := rfl
      have hp_381 : ((up2 (up2 (up2 (up2 (up2 i 36 45 0) 36 49 0) 36 52 0) 36 54 y) 36 55 z_5) 36 54).toInt = (y : Int32).toInt := congrArg Int32.toInt (((up2_k _ _ (by decide)).trans (up2_at _ _ _ _)))
      have hc40 : c4 (up2 (up2 (up2 (up2 (up2 i 36 45 0) 36 49 0) 36 52 0) 36 54 y) 36 55 z_5) = 0 := by unfold c4; rw [show ((up2 (up2 (up2 (up2 (up2 i 36 45 0) 36 49 0) 36 52 0) 36 54 y) 36 55 z_5) 36 45).toInt.toNat = 0 by omega]; rfl
      exact lp_259 _ 1 _ _ _ ls (Nat.lt_succ_self _) (by omega) (by omega) (Or.inr (exI_0 (by omega) (by omega))) (pt_0 (by omega) (by omega) hc40 (by omega)) hO_6 (fun a b ha => rfl) (lv_sub hl [0, 1, 2, 3, 4] rfl) hH hS
set_option maxHeartbeats 2000000 in
set_option maxRecDepth 100000 in
theorem m_parse_W (l : Launch) (D : va_G) (g : Nat → Nat) (ka : Nat → ClassId) (ad : Nat → Nat) (i : Nat → Nat → Int32) (r : Nat → Nat → Nat) (L : Nat → Nat → Int64) (d : Nat → Nat → UInt64) (y : Int32) (z : Int32) (hO : OkI i) (hR : RS r) (sz : Nat) (hy0 : 0 ≤ y.toInt) (hz0 : 0 ≤ z.toInt) (hyz : y.toInt + z.toInt ≤ 720) : Met l yX12_parse wsX12_parse ({ frames := 2, cells := 0, slots := 0, locals := 46 }) (va_Pc [.ref (g 36), .ref (g 403), .int y, .int z] (sj_B D (hwc g ka i r L d) (hT ka) sz (gx ad (va_A (hwc g ka i r L d) sz)))) (sj_Qi (S := (Nat → Nat → Int32)) D (fun v u => OkI u ∧ (∀ a b, ¬ ((a = 36 ∧ (b = 45 ∨ b = 49 ∨ b = 52 ∨ b = 54 ∨ b = 55)) ∨ a = 406 ∨ a = 407 ∨ a = 408 ∨ a = 409 ∨ a = 410 ∨ a = 411) → u a b = i a b) ∧ ((0 : Int) ≤ v.toInt ∧ v.toInt ≤ 1) ∧ ((v.toInt = 1 ∧ prOK (lnL (i 403) y.toInt (y.toInt + z.toInt)) ∧ c4 u ≤ 6 ∧ exI u ∧ (u 36 45).toInt ≤ 60) ∨ (v.toInt = 0 ∧ ¬ prOK (lnL (i 403) y.toInt (y.toInt + z.toInt))))) (fun u => hwc g ka u r L d) (fun _ => []) (va_A (hwc g ka i r L d) sz)) 0 0 (va_A (hwc g ka i r L d) sz) := by
  refine x_met (Ex := gx ad) (cc := cX12_parse) (maxL := 7) (ret := (some .boolean)) (by decide) rfl (Nat.le_of_ble_eq_true rfl) ?_
  intro p e s m below meth c A ls hx hb hr hml hts hown hlocks hA hS hH hK hE hl
  have hown : s.vm.findClass RX12 = some m.cls := hown
  have in12 : ∀ w ∈ wsX120, w ∈ wsX12_parse := (fun _ h => (List.mem_cons_of_mem _ (List.mem_append_right _ h)))
  have wd0 := hts (.fieldLink RX12 248 "StoryDeskModel" "parts" "I") (List.mem_cons_of_mem _ (List.mem_append_left _ (List.mem_append_left _ lm0)))
  have wd1 := hts (.fieldLink RX12 260 "StoryDeskModel" "texts" "I") (List.mem_cons_of_mem _ (List.mem_append_left _ (List.mem_append_left _ lm1)))
  have wd2 := hts (.fieldLink RX12 263 "StoryDeskModel" "pooled" "I") (List.mem_cons_of_mem _ (List.mem_append_left _ (List.mem_append_left _ lm2)))
  have wd3 := hts (.fieldLink RX12 269 "StoryDeskModel" "place" "I") (List.mem_cons_of_mem _ (List.mem_append_left _ (List.mem_append_left _ lm3)))
  have wd4 := hts (.fieldLink RX12 272 "StoryDeskModel" "until" "I") (List.mem_cons_of_mem _ (List.mem_append_left _ (List.mem_append_left _ lm4)))
  have wd5 := hts (.fieldLink RX12 245 "StoryDeskModel" "partKind" "[I") (List.mem_cons_of_mem _ (List.mem_append_left _ (List.mem_append_left _ lm5)))
  have hl : lv_has ls 7 [(0, .ref (g 36)), (1, .ref (g 403)), (2, .int y), (3, .int z)] := hl
  have hK : va_K D vwCl (hT ka) s := hK
  have hx45 : (0 : Int) ≤ (i 36 45).toInt ∧ (i 36 45).toInt ≤ 64 := hO 36 45
  have hx49 : (0 : Int) ≤ (i 36 49).toInt ∧ (i 36 49).toInt ≤ 64 := hO 36 49
  have hx52 : (0 : Int) ≤ (i 36 52).toInt ∧ (i 36 52).toInt ≤ 64 := hO 36 52
  have hx54 : (0 : Int) ≤ (i 36 54).toInt ∧ (i 36 54).toInt ≤ 720 := hO 36 54
  have hx55 : (0 : Int) ≤ (i 36 55).toInt ∧ (i 36 55).toInt ≤ 720 := hO 36 55
  refine lv_aload_n hx hb dX12_parse_0 rfl (lv_at hl 0 rfl) ?_
  refine lv_iconst (v := 0) hx hb dX12_parse_1 (by decide) ?_
  have hO_1 := okp hO (n := 36) (k := 45) (v := 0) (show (0 : Int) ≤ (0 : Int32).toInt ∧ (0 : Int32).toInt ≤ 64 from ⟨by decide, by decide⟩)
  refine h_puti (ty := .int) (ci := 12) (C := RX12) (F := TX12) (N := 86) hx hb hts in12 tyX12 tyX12_ok nmX12 hown hK hH hS (by decide) (rfl : kd 36 = 12) (by decide) rfl 45 (by decide) wd0 (fun _ h9 => h9) rfl (by decide +kernel) rfl rfl (by decide) rfl dX12_parse_2 (fun H locs hH hS => ?_)
  refine lv_aload_n hx hb dX12_parse_5 rfl (lv_at hl 0 rfl) ?_
  refine lv_iconst (v := 0) hx hb dX12_parse_6 (by decide) ?_
  have hO_2 := okp hO_1 (n := 36) (k := 49) (v := 0) (show (0 : Int) ≤ (0 : Int32).toInt ∧ (0 : Int32).toInt ≤ 64 from ⟨by decide, by decide⟩)
  refine h_puti (ty := .int) (ci := 12) (C := RX12) (F := TX12) (N := 86) hx hb hts in12 tyX12 tyX12_ok nmX12 hown hK hH hS (by decide) (rfl : kd 36 = 12) (by decide) rfl 49 (by decide) wd1 (fun _ h9 => h9) rfl (by decide +kernel) rfl rfl (by decide) rfl dX12_parse_7 (fun H locs hH hS => ?_)
  refine lv_aload_n hx hb dX12_parse_10 rfl (lv_at hl 0 rfl) ?_
  refine lv_iconst (v := 0) hx hb dX12_parse_11 (by decide) ?_
  have hO_3 := okp hO_2 (n := 36) (k := 52) (v := 0) (show (0 : Int) ≤ (0 : Int32).toInt ∧ (0 : Int32).toInt ≤ 64 from ⟨by decide, by decide⟩)
  refine h_puti (ty := .int) (ci := 12) (C := RX12) (F := TX12) (N := 86) hx hb hts in12 tyX12 tyX12_ok nmX12 hown hK hH hS (by decide) (rfl : kd 36 = 12) (by decide) rfl 52 (by decide) wd2 (fun _ h9 => h9) rfl (by decide +kernel) rfl rfl (by decide) rfl dX12_parse_12 (fun H locs hH hS => ?_)
  refine lv_aload_n hx hb dX12_parse_15 rfl (lv_at hl 0 rfl) ?_
  refine lv_iload_n hx hb dX12_parse_16 rfl (lv_at hl 2 rfl) ?_
  have hO_4 := okp hO_3 (n := 36) (k := 54) (v := y) (show (0 : Int) ≤ (y : Int32).toInt ∧ (y : Int32).toInt ≤ 720 from ⟨by omega, by omega⟩)
  refine h_puti (ty := .int) (ci := 12) (C := RX12) (F := TX12) (N := 86) hx hb hts in12 tyX12 tyX12_ok nmX12 hown hK hH hS (by decide) (rfl : kd 36 = 12) (by decide) rfl 54 (by decide) wd3 (fun _ h9 => h9) rfl (by decide +kernel) rfl rfl (by decide) rfl dX12_parse_17 (fun H locs hH hS => ?_)
  refine lv_aload_n hx hb dX12_parse_20 rfl (lv_at hl 0 rfl) ?_
  refine lv_iload_n hx hb dX12_parse_21 rfl (lv_at hl 2 rfl) ?_
  refine lv_iload_n hx hb dX12_parse_22 rfl (lv_at hl 3 rfl) ?_
  refine lv_iadd hx hb dX12_parse_23 ?_
  obtain ⟨z_5, ez_5, hz_5⟩ := s_add (rfl : y.toInt = _) (rfl : z.toInt = _) (by omega) (by omega)
  refine sj_i ez_5 ?_
  have hO_6 := okp hO_4 (n := 36) (k := 55) (v := z_5) (show (0 : Int) ≤ (z_5 : Int32).toInt ∧ (z_5 : Int32).toInt ≤ 720 from ⟨by omega, by omega⟩)
  refine h_puti (ty := .int) (ci := 12) (C := RX12) (F := TX12) (N := 86) hx hb hts in12 tyX12 tyX12_ok nmX12 hown hK hH hS (by decide) (rfl : kd 36 = 12) (by decide) rfl 55 (by decide) wd4 (fun _ h9 => h9) rfl (by decide +kernel) rfl rfl (by decide) rfl dX12_parse_24 (fun H locs hH hS => ?_)
  refine lv_iload_n hx hb dX12_parse_27 rfl (lv_at hl 3 rfl) ?_
  refine lv_if_le (tgt := 41) hx hb dX12_parse_28 (by decide) (fun c_7 => ?_) (fun c_7 => ?_)
  · skip
    have h_8 := s_le (rfl : z.toInt = _) (show (0 : Int32).toInt = 0 from rfl) c_7
    refine lv_iconst (v := 0) hx hb dX12_parse_41 (by decide) ?_
    refine lv_istore (lv' := [(4, .int 0), (0, .ref (g 36)), (1, .ref (g 403)), (2, .int y), (3, .int z)]) hx hb dX12_parse_42 hl (by decide) rfl (fun ls hl => ?_)
    -- loop at 44
    have lp_9 : ∀ (fuel_lp_9 : Nat) (gd : Int32) (j1 : Nat → Nat → Int32) (H : Heap) (locs : List Loc) (ls : Array Slot), (mzr gd.toInt ((y.toInt + z.toInt) - (j1 36 54).toInt)).toNat < fuel_lp_9 → (0 : Int) ≤ gd.toInt ∧ gd.toInt ≤ 1 → gd.toInt = 0 ∨ ((y.toInt ≤ (j1 36 54).toInt ∧ (j1 36 54).toInt ≤ (y.toInt + z.toInt)) ∧ (j1 36 45).toInt ≤ (j1 36 54).toInt - y.toInt ∧ (j1 36 49).toInt ≤ (j1 36 54).toInt - y.toInt ∧ (j1 36 52).toInt ≤ (j1 36 54).toInt - y.toInt) → exG gd.toInt j1 → ptR (i 403) y.toInt (y.toInt + z.toInt) gd.toInt (j1 36 54).toInt (c4 j1) → OkI j1 → (∀ a b, ¬ ((a = 36 ∧ (b = 45 ∨ b = 49 ∨ b = 52 ∨ b = 54)) ∨ a = 406 ∨ a = 407 ∨ a = 408 ∨ a = 409 ∨ a = 410 ∨ a = 411) → j1 a b = (up2 (up2 (up2 (up2 (up2 i 36 45 0) 36 49 0) 36 52 0) 36 54 y) 36 55 z_5) a b) → lv_has ls 7 [(4, .int gd), (0, .ref (g 36)), (1, .ref (g 403)), (2, .int y), (3, .int z)] → sj_H D A (hwc g ka j1 r L d) H → va_S A s.heap H locs → W p l e (headSpec wsX12_parse ({ frames := 2, cells := 0, slots := 0, locals := 46 })).room s m ([.ref (g 36), .ref (g 403), .int y, .int z] : List Value).toArray below meth c H locs 0 0 (MQ below (sj_Qi (S := (Nat → Nat → Int32)) D (fun v u => OkI u ∧ (∀ a b, ¬ ((a = 36 ∧ (b = 45 ∨ b = 49 ∨ b = 52 ∨ b = 54 ∨ b = 55)) ∨ a = 406 ∨ a = 407 ∨ a = 408 ∨ a = 409 ∨ a = 410 ∨ a = 411) → u a b = i a b) ∧ ((0 : Int) ≤ v.toInt ∧ v.toInt ≤ 1) ∧ ((v.toInt = 1 ∧ prOK (lnL (i 403) y.toInt (y.toInt + z.toInt)) ∧ c4 u ≤ 6 ∧ exI u ∧ (u 36 45).toInt ≤ 60) ∨ (v.toInt = 0 ∧ ¬ prOK (lnL (i 403) y.toInt (y.toInt + z.toInt))))) (fun u => hwc g ka u r L d) (fun _ => []) A) ([.ref (g 36), .ref (g 403), .int y, .int z] : List Value).toArray s 0 0 A) (F0 m 44 ls []) := by
      intro fuel_lp_9
      induction fuel_lp_9 with
      | zero => intros; omega
      | succ fuel_lp_9 ih_lp_9 =>
        intro gd j1 H locs ls hm hr_gd hi_lp_9_0 hi_lp_9_1 hi_lp_9_2 hO_j1 hfr_j1 hl hH hS
        have hx45j : (0 : Int) ≤ (j1 36 45).toInt ∧ (j1 36 45).toInt ≤ 64 := hO_j1 36 45
        refine lv_iload hx hb dX12_parse_44 (lv_at hl 0 rfl) ?_
        refine lv_if_eq (tgt := 122) hx hb dX12_parse_46 (by decide) (fun c_10 => ?_) (fun c_10 => ?_)
        · skip
          have h_11 := s_eq (rfl : gd.toInt = _) (show (0 : Int32).toInt = 0 from rfl) c_10
          refine lv_iconst (v := 0) hx hb dX12_parse_122 (by decide) ?_
          refine lv_istore (lv' := [(5, .int 0), (4, .int gd), (0, .ref (g 36)), (1, .ref (g 403)), (2, .int y), (3, .int z)]) hx hb dX12_parse_123 hl (by decide) rfl (fun ls hl => ?_)
          refine lv_iconst (v := 0) hx hb dX12_parse_125 (by decide) ?_
          refine lv_istore (lv' := [(6, .int 0), (5, .int 0), (4, .int gd), (0, .ref (g 36)), (1, .ref (g 403)), (2, .int y), (3, .int z)]) hx hb dX12_parse_126 hl (by decide) rfl (fun ls hl => ?_)
          -- loop at 128
          have lp_12 : ∀ (fuel_lp_12 : Nat) (t : Int32) (f : Int32) (H : Heap) (locs : List Loc) (ls : Array Slot), (64 - f.toInt).toNat < fuel_lp_12 → (0 : Int) ≤ t.toInt ∧ t.toInt ≤ 64 → (0 : Int) ≤ f.toInt ∧ f.toInt ≤ 64 → t.toInt ≤ f.toInt ∧ f.toInt ≤ (j1 36 45).toInt → t.toInt = (cnt (j1 406) 4 f.toInt.toNat : Int) → lv_has ls 7 [(6, .int f), (5, .int t), (4, .int gd), (0, .ref (g 36)), (1, .ref (g 403)), (2, .int y), (3, .int z)] → sj_H D A (hwc g ka j1 r L d) H → va_S A s.heap H locs → W p l e (headSpec wsX12_parse ({ frames := 2, cells := 0, slots := 0, locals := 46 })).room s m ([.ref (g 36), .ref (g 403), .int y, .int z] : List Value).toArray below meth c H locs 0 0 (MQ below (sj_Qi (S := (Nat → Nat → Int32)) D (fun v u => OkI u ∧ (∀ a b, ¬ ((a = 36 ∧ (b = 45 ∨ b = 49 ∨ b = 52 ∨ b = 54 ∨ b = 55)) ∨ a = 406 ∨ a = 407 ∨ a = 408 ∨ a = 409 ∨ a = 410 ∨ a = 411) → u a b = i a b) ∧ ((0 : Int) ≤ v.toInt ∧ v.toInt ≤ 1) ∧ ((v.toInt = 1 ∧ prOK (lnL (i 403) y.toInt (y.toInt + z.toInt)) ∧ c4 u ≤ 6 ∧ exI u ∧ (u 36 45).toInt ≤ 60) ∨ (v.toInt = 0 ∧ ¬ prOK (lnL (i 403) y.toInt (y.toInt + z.toInt))))) (fun u => hwc g ka u r L d) (fun _ => []) A) ([.ref (g 36), .ref (g 403), .int y, .int z] : List Value).toArray s 0 0 A) (F0 m 128 ls []) := by
            intro fuel_lp_12
            induction fuel_lp_12 with
            | zero => intros; omega
            | succ fuel_lp_12 ih_lp_12 =>
              intro t f H locs ls hm hr_t hr_f hi_lp_12_0 hi_lp_12_1 hl hH hS
              refine lv_iload hx hb dX12_parse_128 (lv_at hl 0 rfl) ?_
              refine lv_aload_n hx hb dX12_parse_130 rfl (lv_at hl 3 rfl) ?_
              have bx_13 : (0 : Int) ≤ (j1 36 45).toInt ∧ (j1 36 45).toInt ≤ 64 := hO_j1 36 45
              refine h_geti (ci := 12) (C := RX12) (F := TX12) (N := 86) hx hb hts in12 hown hK hH (by decide) (rfl : kd 36 = 12) (by decide) rfl 45 (by decide) wd0 (fun _ h9 => h9) (by decide) rfl dX12_parse_131 ?_
              refine lv_icmp_ge (tgt := 164) hx hb dX12_parse_134 (by decide) (fun c_14 => ?_) (fun c_14 => ?_)
              · skip
                have h_15 := s_le (rfl : (j1 36 45).toInt = _) (rfl : f.toInt = _) c_14
                refine lv_iload hx hb dX12_parse_164 (lv_at hl 2 rfl) ?_
                refine lv_if_eq (tgt := 180) hx hb dX12_parse_166 (by decide) (fun _ => ?_) (fun h => absurd (p_eq (rfl : gd.toInt = _) (show (0 : Int32).toInt = 0 from rfl) (by omega)) h)
                refine lv_iconst (v := 0) hx hb dX12_parse_180 (by decide) ?_
                have hlv_16 : (0 : Int32).toInt = 0 := rfl
                have hpe := pt_end hi_lp_9_2 (by omega) (fun _ => by omega)
                have hct : t.toInt = c4 j1 := by unfold c4; rw [show (j1 36 45).toInt.toNat = f.toInt.toNat by omega]; omega
                have hV_17 : ((0 : Int32).toInt = 1 ∧ prOK (lnL (i 403) y.toInt (y.toInt + z.toInt)) ∧ c4 j1 ≤ 6 ∧ exI j1 ∧ (j1 36 45).toInt ≤ 60) ∨ ((0 : Int32).toInt = 0 ∧ ¬ prOK (lnL (i 403) y.toInt (y.toInt + z.toInt))) := (Or.inr ⟨by omega, hpe.elim (fun q => (q.2.2.resolve_left (fun q8 => by have q7 := q8.1; have q6 := q.1; omega)).2) (fun q => q.2)⟩)
                exact sj_zret hx hb hr hlocks (by decide +kernel) hS j1 ⟨hO_j1, (fun a b ha => ((hfr_j1 a b (by omega)).trans ((up2_o _ _ (by omega)).trans ((up2_o _ _ (by omega)).trans ((up2_o _ _ (by omega)).trans ((up2_o _ _ (by omega)).trans (up2_o _ _ (by omega)))))))), ⟨by decide, by decide⟩, hV_17⟩ hH (sj_Knil hK) (Nat.le_of_ble_eq_true rfl) (Nat.le_of_ble_eq_true rfl) dX12_parse_181
              · skip
                have h_18 := s_nle (rfl : (j1 36 45).toInt = _) (rfl : f.toInt = _) c_14
                refine lv_iload hx hb dX12_parse_137 (lv_at hl 1 rfl) ?_
                refine lv_aload_n hx hb dX12_parse_139 rfl (lv_at hl 3 rfl) ?_
                refine h_getr (ci := 12) (C := RX12) (F := TX12) (N := 86) hx hb hts in12 hown hK hH (by decide) (rfl : kd 36 = 12) (by decide) rfl 46 (by decide) wd5 (fun _ h9 => h9) (by decide) rfl (t := 406) (hR 36 46 rfl) (by decide) dX12_parse_140 ?_
                refine lv_iload hx hb dX12_parse_143 (lv_at hl 0 rfl) ?_
                have hc_19 := cnt_or (j1 406) 4 f.toInt.toNat
                refine h_iald hx hb hK hH (by decide) (rfl : kd 406 = 13) (s_vin (N := 64) (rfl : f.toInt = _) (rfl : ln 406 = 64) (by omega) (by omega)) dX12_parse_145 ?_
                have ek_20 : f.toNatClampNeg = (f.toInt).toNat := (s_cl (show f.toInt = f.toInt by omega))
                refine sj_i (y := (j1 406 (f.toInt).toNat)) (by rw [ek_20]) ?_
                refine lv_iconst (v := 4) hx hb dX12_parse_146 (by decide) ?_
                refine lv_icmp_ne (tgt := 154) hx hb dX12_parse_147 (by decide) (fun c_21 => ?_) (fun c_21 => ?_)
                · skip
                  have h_22 := s_ne (rfl : (j1 406 (f.toInt).toNat).toInt = _) (show (4 : Int32).toInt = 4 from rfl) c_21
                  refine lv_iconst (v := 0) hx hb dX12_parse_154 (by decide) ?_
                  refine lv_iadd hx hb dX12_parse_155 ?_
                  obtain ⟨z_23, ez_23, hz_23⟩ := s_add (rfl : t.toInt = _) (show (0 : Int32).toInt = 0 from rfl) (by omega) (by omega)
                  refine sj_i ez_23 ?_
                  refine lv_istore (lv' := [(5, .int z_23), (6, .int f), (4, .int gd), (0, .ref (g 36)), (1, .ref (g 403)), (2, .int y), (3, .int z)]) hx hb dX12_parse_156 hl (by decide) rfl (fun ls hl => ?_)
                  obtain ⟨z_24, ez_24, hz_24⟩ := s_add (rfl : f.toInt = _) (show (1 : Int32).toInt = 1 from rfl) (by omega) (by omega)
                  refine lv_iinc (v := z_24) (lv' := [(6, .int z_24), (5, .int z_23), (4, .int gd), (0, .ref (g 36)), (1, .ref (g 403)), (2, .int y), (3, .int z)]) hx hb dX12_parse_158 hl (k := 1) rfl ez_24 (by decide) rfl (fun ls hl => ?_)
                  refine lv_goto (tgt := 128) hx hb dX12_parse_161 (by decide) ?_
                  exact ih_lp_12 z_23 z_24 _ _ ls (by omega) (by omega) (by omega) (by omega) (by rw [show (z_24).toInt.toNat = f.toInt.toNat + 1 by omega]; omega) (lv_sub hl [0, 1, 2, 3, 4, 5, 6] rfl) hH hS
                · skip
                  have h_25 := s_eq (rfl : (j1 406 (f.toInt).toNat).toInt = _) (show (4 : Int32).toInt = 4 from rfl) c_21
                  refine lv_iconst (v := 1) hx hb dX12_parse_150 (by decide) ?_
                  refine lv_goto (tgt := 155) hx hb dX12_parse_151 (by decide) ?_
                  refine lv_iadd hx hb dX12_parse_155 ?_
                  obtain ⟨z_26, ez_26, hz_26⟩ := s_add (rfl : t.toInt = _) (show (1 : Int32).toInt = 1 from rfl) (by omega) (by omega)
                  refine sj_i ez_26 ?_
                  refine lv_istore (lv' := [(5, .int z_26), (6, .int f), (4, .int gd), (0, .ref (g 36)), (1, .ref (g 403)), (2, .int y), (3, .int z)]) hx hb dX12_parse_156 hl (by decide) rfl (fun ls hl => ?_)
                  obtain ⟨z_27, ez_27, hz_27⟩ := s_add (rfl : f.toInt = _) (show (1 : Int32).toInt = 1 from rfl) (by omega) (by omega)
                  refine lv_iinc (v := z_27) (lv' := [(6, .int z_27), (5, .int z_26), (4, .int gd), (0, .ref (g 36)), (1, .ref (g 403)), (2, .int y), (3, .int z)]) hx hb dX12_parse_158 hl (k := 1) rfl ez_27 (by decide) rfl (fun ls hl => ?_)
                  refine lv_goto (tgt := 128) hx hb dX12_parse_161 (by decide) ?_
                  exact ih_lp_12 z_26 z_27 _ _ ls (by omega) (by omega) (by omega) (by omega) (by rw [show (z_27).toInt.toNat = f.toInt.toNat + 1 by omega]; omega) (lv_sub hl [0, 1, 2, 3, 4, 5, 6] rfl) hH hS
          have hl_28 : (0 : Int32).toInt = 0 := rfl
          have hl_29 : (0 : Int32).toInt = 0 := rfl
          exact lp_12 _ 0 0 _ _ ls (Nat.lt_succ_self _) (by omega) (by omega) (by omega) (by rfl) (lv_sub hl [0, 1, 2, 3, 4, 5, 6] rfl) hH hS
        · skip
          have h_30 := s_ne (rfl : gd.toInt = _) (show (0 : Int32).toInt = 0 from rfl) c_10
          have hexj := hi_lp_9_1.resolve_left (fun q => by omega)
          have hbj := hi_lp_9_0.resolve_left (fun q => by omega)
          have hpt := hi_lp_9_2.resolve_right (fun q => by have := q.1; omega)
          have hpz := hpt.2.1
          refine lv_aload_n hx hb dX12_parse_49 rfl (lv_at hl 1 rfl) ?_
          have bx_31 : (0 : Int) ≤ (j1 36 54).toInt ∧ (j1 36 54).toInt ≤ 720 := hO_j1 36 54
          refine h_geti (ci := 12) (C := RX12) (F := TX12) (N := 86) hx hb hts in12 hown hK hH (by decide) (rfl : kd 36 = 12) (by decide) rfl 54 (by decide) wd3 (fun _ h9 => h9) (by decide) rfl dX12_parse_50 ?_
          refine lv_aload_n hx hb dX12_parse_53 rfl (lv_at hl 1 rfl) ?_
          refine h_geti (ci := 12) (C := RX12) (F := TX12) (N := 86) hx hb hts in12 hown hK hH (by decide) (rfl : kd 36 = 12) (by decide) rfl 55 (by decide) wd4 (fun _ h9 => h9) (by decide) rfl dX12_parse_54 ?_
          refine sj_i (y := z_5) ((hfr_j1 36 55 (by omega)).trans (up2_at _ _ _ _)) ?_
          refine lv_icmp_ge (tgt := 122) hx hb dX12_parse_57 (by decide) (fun c_32 => ?_) (fun c_32 => ?_)
          · skip
            have h_33 := s_le (rfl : z_5.toInt = _) (rfl : (j1 36 54).toInt = _) c_32
            refine lv_iconst (v := 0) hx hb dX12_parse_122 (by decide) ?_
            refine lv_istore (lv' := [(5, .int 0), (4, .int gd), (0, .ref (g 36)), (1, .ref (g 403)), (2, .int y), (3, .int z)]) hx hb dX12_parse_123 hl (by decide) rfl (fun ls hl => ?_)
            refine lv_iconst (v := 0) hx hb dX12_parse_125 (by decide) ?_
            refine lv_istore (lv' := [(6, .int 0), (5, .int 0), (4, .int gd), (0, .ref (g 36)), (1, .ref (g 403)), (2, .int y), (3, .int z)]) hx hb dX12_parse_126 hl (by decide) rfl (fun ls hl => ?_)
            -- loop at 128
            have lp_34 : ∀ (fuel_lp_34 : Nat) (t : Int32) (f : Int32) (H : Heap) (locs : List Loc) (ls : Array Slot), (64 - f.toInt).toNat < fuel_lp_34 → (0 : Int) ≤ t.toInt ∧ t.toInt ≤ 64 → (0 : Int) ≤ f.toInt ∧ f.toInt ≤ 64 → t.toInt ≤ f.toInt ∧ f.toInt ≤ (j1 36 45).toInt → t.toInt = (cnt (j1 406) 4 f.toInt.toNat : Int) → lv_has ls 7 [(6, .int f), (5, .int t), (4, .int gd), (0, .ref (g 36)), (1, .ref (g 403)), (2, .int y), (3, .int z)] → sj_H D A (hwc g ka j1 r L d) H → va_S A s.heap H locs → W p l e (headSpec wsX12_parse ({ frames := 2, cells := 0, slots := 0, locals := 46 })).room s m ([.ref (g 36), .ref (g 403), .int y, .int z] : List Value).toArray below meth c H locs 0 0 (MQ below (sj_Qi (S := (Nat → Nat → Int32)) D (fun v u => OkI u ∧ (∀ a b, ¬ ((a = 36 ∧ (b = 45 ∨ b = 49 ∨ b = 52 ∨ b = 54 ∨ b = 55)) ∨ a = 406 ∨ a = 407 ∨ a = 408 ∨ a = 409 ∨ a = 410 ∨ a = 411) → u a b = i a b) ∧ ((0 : Int) ≤ v.toInt ∧ v.toInt ≤ 1) ∧ ((v.toInt = 1 ∧ prOK (lnL (i 403) y.toInt (y.toInt + z.toInt)) ∧ c4 u ≤ 6 ∧ exI u ∧ (u 36 45).toInt ≤ 60) ∨ (v.toInt = 0 ∧ ¬ prOK (lnL (i 403) y.toInt (y.toInt + z.toInt))))) (fun u => hwc g ka u r L d) (fun _ => []) A) ([.ref (g 36), .ref (g 403), .int y, .int z] : List Value).toArray s 0 0 A) (F0 m 128 ls []) := by
              intro fuel_lp_34
              induction fuel_lp_34 with
              | zero => intros; omega
              | succ fuel_lp_34 ih_lp_34 =>
                intro t f H locs ls hm hr_t hr_f hi_lp_34_0 hi_lp_34_1 hl hH hS
                refine lv_iload hx hb dX12_parse_128 (lv_at hl 0 rfl) ?_
                refine lv_aload_n hx hb dX12_parse_130 rfl (lv_at hl 3 rfl) ?_
                have bx_35 : (0 : Int) ≤ (j1 36 45).toInt ∧ (j1 36 45).toInt ≤ 64 := hO_j1 36 45
                refine h_geti (ci := 12) (C := RX12) (F := TX12) (N := 86) hx hb hts in12 hown hK hH (by decide) (rfl : kd 36 = 12) (by decide) rfl 45 (by decide) wd0 (fun _ h9 => h9) (by decide) rfl dX12_parse_131 ?_
                refine lv_icmp_ge (tgt := 164) hx hb dX12_parse_134 (by decide) (fun c_36 => ?_) (fun c_36 => ?_)
                · skip
                  have h_37 := s_le (rfl : (j1 36 45).toInt = _) (rfl : f.toInt = _) c_36
                  refine lv_iload hx hb dX12_parse_164 (lv_at hl 2 rfl) ?_
                  refine lv_if_eq (tgt := 180) hx hb dX12_parse_166 (by decide) (fun h => absurd h (p_ne (rfl : gd.toInt = _) (show (0 : Int32).toInt = 0 from rfl) (by omega))) (fun _ => ?_)
                  refine lv_iload hx hb dX12_parse_169 (lv_at hl 1 rfl) ?_
                  refine lv_bipush (v := 6) hx hb dX12_parse_171 (by decide) ?_
                  refine lv_icmp_gt (tgt := 180) hx hb dX12_parse_173 (by decide) (fun c_38 => ?_) (fun c_38 => ?_)
                  · skip
                    have h_39 := s_lt (show (6 : Int32).toInt = 6 from rfl) (rfl : t.toInt = _) c_38
                    refine lv_iconst (v := 0) hx hb dX12_parse_180 (by decide) ?_
                    have hlv_40 : (0 : Int32).toInt = 0 := rfl
                    have hpe := pt_end hi_lp_9_2 (by omega) (fun _ => by omega)
                    have hct : t.toInt = c4 j1 := by unfold c4; rw [show (j1 36 45).toInt.toNat = f.toInt.toNat by omega]; omega
                    have hV_41 : ((0 : Int32).toInt = 1 ∧ prOK (lnL (i 403) y.toInt (y.toInt + z.toInt)) ∧ c4 j1 ≤ 6 ∧ exI j1 ∧ (j1 36 45).toInt ≤ 60) ∨ ((0 : Int32).toInt = 0 ∧ ¬ prOK (lnL (i 403) y.toInt (y.toInt + z.toInt))) := (Or.inr ⟨by omega, hpe.elim (fun q => (q.2.2.resolve_left (fun q8 => by have q7 := q8.1; have q6 := q.1; omega)).2) (fun q => q.2)⟩)
                    exact sj_zret hx hb hr hlocks (by decide +kernel) hS j1 ⟨hO_j1, (fun a b ha => ((hfr_j1 a b (by omega)).trans ((up2_o _ _ (by omega)).trans ((up2_o _ _ (by omega)).trans ((up2_o _ _ (by omega)).trans ((up2_o _ _ (by omega)).trans (up2_o _ _ (by omega)))))))), ⟨by decide, by decide⟩, hV_41⟩ hH (sj_Knil hK) (Nat.le_of_ble_eq_true rfl) (Nat.le_of_ble_eq_true rfl) dX12_parse_181
                  · skip
                    have h_42 := s_nlt (show (6 : Int32).toInt = 6 from rfl) (rfl : t.toInt = _) c_38
                    refine lv_iconst (v := 1) hx hb dX12_parse_176 (by decide) ?_
                    refine lv_goto (tgt := 181) hx hb dX12_parse_177 (by decide) ?_
                    have hlv_43 : (1 : Int32).toInt = 1 := rfl
                    have hpe := pt_end hi_lp_9_2 (by omega) (fun _ => by omega)
                    have hct : t.toInt = c4 j1 := by unfold c4; rw [show (j1 36 45).toInt.toNat = f.toInt.toNat by omega]; omega
                    have hV_44 : ((1 : Int32).toInt = 1 ∧ prOK (lnL (i 403) y.toInt (y.toInt + z.toInt)) ∧ c4 j1 ≤ 6 ∧ exI j1 ∧ (j1 36 45).toInt ≤ 60) ∨ ((1 : Int32).toInt = 0 ∧ ¬ prOK (lnL (i 403) y.toInt (y.toInt + z.toInt))) := (Or.inl ⟨by omega, ((hpe.resolve_right (fun q => by have := q.1; omega)).2.2.resolve_right (fun q => by have := q.1; omega)).2, by omega, hi_lp_9_1.resolve_left (fun q => by omega), by have := hi_lp_9_0.resolve_left (fun q => by omega); have := (hpe.resolve_right (fun q => by have := q.1; omega)).2.1; omega⟩)
                    exact sj_zret hx hb hr hlocks (by decide +kernel) hS j1 ⟨hO_j1, (fun a b ha => ((hfr_j1 a b (by omega)).trans ((up2_o _ _ (by omega)).trans ((up2_o _ _ (by omega)).trans ((up2_o _ _ (by omega)).trans ((up2_o _ _ (by omega)).trans (up2_o _ _ (by omega)))))))), ⟨by decide, by decide⟩, hV_44⟩ hH (sj_Knil hK) (Nat.le_of_ble_eq_true rfl) (Nat.le_of_ble_eq_true rfl) dX12_parse_181
                · skip
                  have h_45 := s_nle (rfl : (j1 36 45).toInt = _) (rfl : f.toInt = _) c_36
                  refine lv_iload hx hb dX12_parse_137 (lv_at hl 1 rfl) ?_
                  refine lv_aload_n hx hb dX12_parse_139 rfl (lv_at hl 3 rfl) ?_
                  refine h_getr (ci := 12) (C := RX12) (F := TX12) (N := 86) hx hb hts in12 hown hK hH (by decide) (rfl : kd 36 = 12) (by decide) rfl 46 (by decide) wd5 (fun _ h9 => h9) (by decide) rfl (t := 406) (hR 36 46 rfl) (by decide) dX12_parse_140 ?_
                  refine lv_iload hx hb dX12_parse_143 (lv_at hl 0 rfl) ?_
                  have hc_46 := cnt_or (j1 406) 4 f.toInt.toNat
                  refine h_iald hx hb hK hH (by decide) (rfl : kd 406 = 13) (s_vin (N := 64) (rfl : f.toInt = _) (rfl : ln 406 = 64) (by omega) (by omega)) dX12_parse_145 ?_
                  have ek_47 : f.toNatClampNeg = (f.toInt).toNat := (s_cl (show f.toInt = f.toInt by omega))
                  refine sj_i (y := (j1 406 (f.toInt).toNat)) (by rw [ek_47]) ?_
                  refine lv_iconst (v := 4) hx hb dX12_parse_146 (by decide) ?_
                  refine lv_icmp_ne (tgt := 154) hx hb dX12_parse_147 (by decide) (fun c_48 => ?_) (fun c_48 => ?_)
                  · skip
                    have h_49 := s_ne (rfl : (j1 406 (f.toInt).toNat).toInt = _) (show (4 : Int32).toInt = 4 from rfl) c_48
                    refine lv_iconst (v := 0) hx hb dX12_parse_154 (by decide) ?_
                    refine lv_iadd hx hb dX12_parse_155 ?_
                    obtain ⟨z_50, ez_50, hz_50⟩ := s_add (rfl : t.toInt = _) (show (0 : Int32).toInt = 0 from rfl) (by omega) (by omega)
                    refine sj_i ez_50 ?_
                    refine lv_istore (lv' := [(5, .int z_50), (6, .int f), (4, .int gd), (0, .ref (g 36)), (1, .ref (g 403)), (2, .int y), (3, .int z)]) hx hb dX12_parse_156 hl (by decide) rfl (fun ls hl => ?_)
                    obtain ⟨z_51, ez_51, hz_51⟩ := s_add (rfl : f.toInt = _) (show (1 : Int32).toInt = 1 from rfl) (by omega) (by omega)
                    refine lv_iinc (v := z_51) (lv' := [(6, .int z_51), (5, .int z_50), (4, .int gd), (0, .ref (g 36)), (1, .ref (g 403)), (2, .int y), (3, .int z)]) hx hb dX12_parse_158 hl (k := 1) rfl ez_51 (by decide) rfl (fun ls hl => ?_)
                    refine lv_goto (tgt := 128) hx hb dX12_parse_161 (by decide) ?_
                    exact ih_lp_34 z_50 z_51 _ _ ls (by omega) (by omega) (by omega) (by omega) (by rw [show (z_51).toInt.toNat = f.toInt.toNat + 1 by omega]; omega) (lv_sub hl [0, 1, 2, 3, 4, 5, 6] rfl) hH hS
                  · skip
                    have h_52 := s_eq (rfl : (j1 406 (f.toInt).toNat).toInt = _) (show (4 : Int32).toInt = 4 from rfl) c_48
                    refine lv_iconst (v := 1) hx hb dX12_parse_150 (by decide) ?_
                    refine lv_goto (tgt := 155) hx hb dX12_parse_151 (by decide) ?_
                    refine lv_iadd hx hb dX12_parse_155 ?_
                    obtain ⟨z_53, ez_53, hz_53⟩ := s_add (rfl : t.toInt = _) (show (1 : Int32).toInt = 1 from rfl) (by omega) (by omega)
                    refine sj_i ez_53 ?_
                    refine lv_istore (lv' := [(5, .int z_53), (6, .int f), (4, .int gd), (0, .ref (g 36)), (1, .ref (g 403)), (2, .int y), (3, .int z)]) hx hb dX12_parse_156 hl (by decide) rfl (fun ls hl => ?_)
                    obtain ⟨z_54, ez_54, hz_54⟩ := s_add (rfl : f.toInt = _) (show (1 : Int32).toInt = 1 from rfl) (by omega) (by omega)
                    refine lv_iinc (v := z_54) (lv' := [(6, .int z_54), (5, .int z_53), (4, .int gd), (0, .ref (g 36)), (1, .ref (g 403)), (2, .int y), (3, .int z)]) hx hb dX12_parse_158 hl (k := 1) rfl ez_54 (by decide) rfl (fun ls hl => ?_)
                    refine lv_goto (tgt := 128) hx hb dX12_parse_161 (by decide) ?_
                    exact ih_lp_34 z_53 z_54 _ _ ls (by omega) (by omega) (by omega) (by omega) (by rw [show (z_54).toInt.toNat = f.toInt.toNat + 1 by omega]; omega) (lv_sub hl [0, 1, 2, 3, 4, 5, 6] rfl) hH hS
            have hl_55 : (0 : Int32).toInt = 0 := rfl
            have hl_56 : (0 : Int32).toInt = 0 := rfl
            exact lp_34 _ 0 0 _ _ ls (Nat.lt_succ_self _) (by omega) (by omega) (by omega) (by rfl) (lv_sub hl [0, 1, 2, 3, 4, 5, 6] rfl) hH hS
          · skip
            have h_57 := s_nle (rfl : z_5.toInt = _) (rfl : (j1 36 54).toInt = _) c_32
            refine lv_aload_n hx hb dX12_parse_60 rfl (lv_at hl 2 rfl) ?_
            refine lv_aload_n hx hb dX12_parse_61 rfl (lv_at hl 1 rfl) ?_
            refine h_geti (ci := 12) (C := RX12) (F := TX12) (N := 86) hx hb hts in12 hown hK hH (by decide) (rfl : kd 36 = 12) (by decide) rfl 54 (by decide) wd3 (fun _ h9 => h9) (by decide) rfl dX12_parse_62 ?_
            have bx_58 : (0 : Int) ≤ (i 403 ((j1 36 54).toInt).toNat).toInt ∧ (i 403 ((j1 36 54).toInt).toNat).toInt ≤ 65535 := hO 403 ((j1 36 54).toInt).toNat
            refine h_cald hx hb hK hH (by decide) (rfl : kd 403 = 14) (s_vin (N := 720) (rfl : (j1 36 54).toInt = _) (rfl : ln 403 = 720) (by omega) (by omega)) dX12_parse_65 ?_
            have ek_59 : (j1 36 54).toNatClampNeg = ((j1 36 54).toInt).toNat := (s_cl (show (j1 36 54).toInt = (j1 36 54).toInt by omega))
            refine sj_i (y := (i 403 ((j1 36 54).toInt).toNat)) (by rw [ek_59]; exact ((hfr_j1 403 ((j1 36 54).toInt).toNat (by omega)).trans ((congrFun (up2_n _ _ (by decide)) _).trans ((congrFun (up2_n _ _ (by decide)) _).trans ((congrFun (up2_n _ _ (by decide)) _).trans ((congrFun (up2_n _ _ (by decide)) _).trans (congrFun (up2_n _ _ (by decide)) _))))))) ?_
            refine lv_istore (lv' := [(5, .int (i 403 ((j1 36 54).toInt).toNat)), (4, .int gd), (0, .ref (g 36)), (1, .ref (g 403)), (2, .int y), (3, .int z)]) hx hb dX12_parse_66 hl (by decide) rfl (fun ls hl => ?_)
            refine lv_iload hx hb dX12_parse_68 (lv_at hl 0 rfl) ?_
            refine lv_bipush (v := 123) hx hb dX12_parse_70 (by decide) ?_
            refine lv_icmp_ne (tgt := 83) hx hb dX12_parse_72 (by decide) (fun c_60 => ?_) (fun c_60 => ?_)
            · skip
              have h_61 := s_ne (rfl : (i 403 ((j1 36 54).toInt).toNat).toInt = _) (show (123 : Int32).toInt = 123 from rfl) c_60
              refine lv_iload hx hb dX12_parse_83 (lv_at hl 0 rfl) ?_
              refine lv_bipush (v := 40) hx hb dX12_parse_85 (by decide) ?_
              refine lv_icmp_ne (tgt := 98) hx hb dX12_parse_87 (by decide) (fun c_62 => ?_) (fun c_62 => ?_)
              · skip
                have h_63 := s_ne (rfl : (i 403 ((j1 36 54).toInt).toNat).toInt = _) (show (40 : Int32).toInt = 40 from rfl) c_62
                refine lv_iload hx hb dX12_parse_98 (lv_at hl 0 rfl) ?_
                refine lv_bipush (v := 32) hx hb dX12_parse_100 (by decide) ?_
                refine lv_icmp_ne (tgt := 112) hx hb dX12_parse_102 (by decide) (fun c_64 => ?_) (fun c_64 => ?_)
                · skip
                  have h_65 := s_ne (rfl : (i 403 ((j1 36 54).toInt).toNat).toInt = _) (show (32 : Int32).toInt = 32 from rfl) c_64
                  refine lv_aload_n hx hb dX12_parse_112 rfl (lv_at hl 2 rfl) ?_
                  refine lv_aload_n hx hb dX12_parse_113 rfl (lv_at hl 3 rfl) ?_
                  have hwt_66 : (j1 36 55).toInt = (z_5 : Int32).toInt := congrArg Int32.toInt ((hfr_j1 36 55 (by omega)).trans (up2_at _ _ _ _))
                  refine x_calli (va_runV (As := [.ref (g 403)]) (rest := []) ⟨hx, hb, hml, hown, hts⟩ (m_word_W l D g ka ad j1 r L d  hO_j1 hR H.size (by first | omega | decide) (by first | omega | decide) (by first | omega | decide) (by first | omega | decide) (by first | omega | decide) hexj) (cwV 1 hts gX12_parse_X12_word rfl rfl rfl (by decide +kernel) ⟨(Nat.le_of_ble_eq_true rfl), (Nat.le_of_ble_eq_true rfl)⟩) (x_preV (q := (RX12, TX12, 86)) hH hK (q_obj (by decide) (rfl : kd 36 = 12) (by decide)) rfl gxb (gxw hE hS (x_F hH hS hA))) rfl rfl hl.1 rfl (lv_room (Nat.le_of_ble_eq_true rfl)) dX12_parse_114 ⟨(Nat.le_of_ble_eq_true rfl), (Nat.le_of_ble_eq_true rfl)⟩) hH hS hA rfl rfl (fun r_67 im_69 H locs hw_68 hH hS => ?_)
                  have hH : sj_H D A (hwc g ka im_69 r L d) H := hH
                  obtain ⟨hO_71, hfr_70, hr_72, hx2_73⟩ := hw_68
                  have hr_72 : (0 : Int) ≤ r_67.toInt ∧ r_67.toInt ≤ 1 := hr_72
                  have hu55 : (j1 36 55).toInt = y.toInt + z.toInt := by have h9 := (congrArg Int32.toInt (((hfr_j1 36 55 (by omega)).trans (up2_at _ _ _ _))) : (j1 36 55).toInt = (z_5 : Int32).toInt); omega
                  rw [show j1 403 = i 403 from funext fun b9 => ((hfr_j1 403 b9 (by omega)).trans ((up2_o _ _ (by omega)).trans ((up2_o _ _ (by omega)).trans ((up2_o _ _ (by omega)).trans ((up2_o _ _ (by omega)).trans (up2_o _ _ (by omega))))))), show (j1 36 55).toInt = (y.toInt + z.toInt) from hu55] at hx2_73
                  have hbd : r_67.toInt = 0 ∨ ((j1 36 54).toInt + 1 ≤ (im_69 36 54).toInt ∧ (im_69 36 54).toInt ≤ (y.toInt + z.toInt) ∧ (im_69 36 45).toInt - (j1 36 45).toInt ≤ (im_69 36 54).toInt - (j1 36 54).toInt ∧ (im_69 36 49).toInt - (j1 36 49).toInt ≤ (im_69 36 54).toInt - (j1 36 54).toInt ∧ (im_69 36 52).toInt - (j1 36 52).toInt ≤ (im_69 36 54).toInt - (j1 36 54).toInt) := hx2_73.elim (fun q => Or.inr ⟨q.2.2.1, q.2.2.2.1, q.2.2.2.2.1, q.2.2.2.2.2.1, q.2.2.2.2.2.2.1⟩) (fun q => Or.inl q.1)
                  have hexn : exG r_67.toInt im_69 := hx2_73.elim (fun q => Or.inr q.2.2.2.2.2.2.2.2) (fun q => Or.inl q.1)
                  refine lv_istore (lv' := [(4, .int r_67), (5, .int (i 403 ((j1 36 54).toInt).toNat)), (0, .ref (g 36)), (1, .ref (g 403)), (2, .int y), (3, .int z)]) hx hb dX12_parse_117 hl (by decide) rfl (fun ls hl => ?_)
                  refine lv_goto (tgt := 44) hx hb dX12_parse_119 (by decide) ?_
                  have hp_74 : (im_69 36 45).toInt = ((im_69 36 45) : Int32).toInt := rfl
                  have hp_75 : (im_69 36 49).toInt = ((im_69 36 49) : Int32).toInt := rfl
                  have hp_76 : (im_69 36 52).toInt = ((im_69 36 52) : Int32).toInt := rfl
                  have hp_77 : (im_69 36 54).toInt = ((im_69 36 54) : Int32).toInt := rfl
                  exact ih_lp_9 r_67 _ _ _ ls (mz_lt hm (by omega) (by omega) (by omega)) (by omega) (by omega) hexn (pt_wd hi_lp_9_2 (by omega) (by omega) (by omega) (by omega) (by omega) (by omega) (hx2_73.elim (fun q => Or.inl ⟨q.1, q.2.1, q.2.2.1, q.2.2.2.2.2.2.2.1⟩) Or.inr)) hO_71 (fun a b ha => ((hfr_70 a b (by omega)).trans (hfr_j1 a b (by omega)))) (lv_sub hl [0, 2, 3, 4, 5] rfl) hH hS
                · skip
                  have h_78 := s_eq (rfl : (i 403 ((j1 36 54).toInt).toNat).toInt = _) (show (32 : Int32).toInt = 32 from rfl) c_64
                  refine lv_aload_n hx hb dX12_parse_105 rfl (lv_at hl 2 rfl) ?_
                  have hwt_79 : (j1 36 55).toInt = (z_5 : Int32).toInt := congrArg Int32.toInt ((hfr_j1 36 55 (by omega)).trans (up2_at _ _ _ _))
                  refine x_calli (va_runV (As := []) (rest := []) ⟨hx, hb, hml, hown, hts⟩ (m_blank l D g ka ad j1 r L d  hO_j1 hR H.size (by first | omega | decide) (by first | omega | decide) hexj) (cwV 0 hts gX12_parse_X12_blank rfl rfl rfl (by decide +kernel) ⟨(Nat.le_of_ble_eq_true rfl), (Nat.le_of_ble_eq_true rfl)⟩) (x_preV (q := (RX12, TX12, 86)) hH hK (q_obj (by decide) (rfl : kd 36 = 12) (by decide)) rfl gxb (gxw hE hS (x_F hH hS hA))) rfl rfl hl.1 rfl (lv_room (Nat.le_of_ble_eq_true rfl)) dX12_parse_106 ⟨(Nat.le_of_ble_eq_true rfl), (Nat.le_of_ble_eq_true rfl)⟩) hH hS hA rfl rfl (fun r_80 im_82 H locs hw_81 hH hS => ?_)
                  have hH : sj_H D A (hwc g ka im_82 r L d) H := hH
                  obtain ⟨hO_84, hfr_83, hr_85, hx2_86⟩ := hw_81
                  have hr_85 : (1 : Int) ≤ r_80.toInt ∧ r_80.toInt ≤ 1 := hr_85
                  have hu55 : (j1 36 55).toInt = y.toInt + z.toInt := by have h9 := (congrArg Int32.toInt (((hfr_j1 36 55 (by omega)).trans (up2_at _ _ _ _))) : (j1 36 55).toInt = (z_5 : Int32).toInt); omega
                  refine lv_goto (tgt := 117) hx hb dX12_parse_109 (by decide) ?_
                  refine lv_istore (lv' := [(4, .int r_80), (5, .int (i 403 ((j1 36 54).toInt).toNat)), (0, .ref (g 36)), (1, .ref (g 403)), (2, .int y), (3, .int z)]) hx hb dX12_parse_117 hl (by decide) rfl (fun ls hl => ?_)
                  refine lv_goto (tgt := 44) hx hb dX12_parse_119 (by decide) ?_
                  have hp_87 : (im_82 36 45).toInt = ((im_82 36 45) : Int32).toInt := rfl
                  have hp_88 : (im_82 36 49).toInt = ((j1 36 49) : Int32).toInt := congrArg Int32.toInt ((hfr_83 36 49 (by omega)))
                  have hp_89 : (im_82 36 52).toInt = ((j1 36 52) : Int32).toInt := congrArg Int32.toInt ((hfr_83 36 52 (by omega)))
                  have hp_90 : (im_82 36 54).toInt = ((im_82 36 54) : Int32).toInt := rfl
                  have hbl1 := hx2_86.1
                  have hbl2 := hx2_86.2.1
                  exact ih_lp_9 r_80 _ _ _ ls (mz_lt hm (by omega) (by omega) (by omega)) (by omega) (by omega) (Or.inr hx2_86.2.2.2) (pt_bl hi_lp_9_2 (by omega) (by omega) (by omega) (by omega) (by omega) (by omega) hx2_86.2.2.1) hO_84 (fun a b ha => ((hfr_83 a b (by omega)).trans (hfr_j1 a b (by omega)))) (lv_sub hl [0, 2, 3, 4, 5] rfl) hH hS
              · skip
                have h_91 := s_eq (rfl : (i 403 ((j1 36 54).toInt).toNat).toInt = _) (show (40 : Int32).toInt = 40 from rfl) c_62
                refine lv_aload_n hx hb dX12_parse_90 rfl (lv_at hl 2 rfl) ?_
                refine lv_aload_n hx hb dX12_parse_91 rfl (lv_at hl 3 rfl) ?_
                have hwt_92 : (j1 36 55).toInt = (z_5 : Int32).toInt := congrArg Int32.toInt ((hfr_j1 36 55 (by omega)).trans (up2_at _ _ _ _))
                refine x_calli (va_runV (As := [.ref (g 403)]) (rest := []) ⟨hx, hb, hml, hown, hts⟩ (m_optional_W l D g ka ad j1 r L d  hO_j1 hR H.size (by first | omega | decide) (by first | omega | decide) (by first | omega | decide) (by first | omega | decide) (by first | omega | decide) hexj) (cwV 1 hts gX12_parse_X12_optional rfl rfl rfl (by decide +kernel) ⟨(Nat.le_of_ble_eq_true rfl), (Nat.le_of_ble_eq_true rfl)⟩) (x_preV (q := (RX12, TX12, 86)) hH hK (q_obj (by decide) (rfl : kd 36 = 12) (by decide)) rfl gxb (gxw hE hS (x_F hH hS hA))) rfl rfl hl.1 rfl (lv_room (Nat.le_of_ble_eq_true rfl)) dX12_parse_92 ⟨(Nat.le_of_ble_eq_true rfl), (Nat.le_of_ble_eq_true rfl)⟩) hH hS hA rfl rfl (fun r_93 im_95 H locs hw_94 hH hS => ?_)
                have hH : sj_H D A (hwc g ka im_95 r L d) H := hH
                obtain ⟨hO_97, hfr_96, hr_98, hx2_99⟩ := hw_94
                have hr_98 : (0 : Int) ≤ r_93.toInt ∧ r_93.toInt ≤ 1 := hr_98
                have hu55 : (j1 36 55).toInt = y.toInt + z.toInt := by have h9 := (congrArg Int32.toInt (((hfr_j1 36 55 (by omega)).trans (up2_at _ _ _ _))) : (j1 36 55).toInt = (z_5 : Int32).toInt); omega
                rw [show j1 403 = i 403 from funext fun b9 => ((hfr_j1 403 b9 (by omega)).trans ((up2_o _ _ (by omega)).trans ((up2_o _ _ (by omega)).trans ((up2_o _ _ (by omega)).trans ((up2_o _ _ (by omega)).trans (up2_o _ _ (by omega))))))), show (j1 36 55).toInt = (y.toInt + z.toInt) from hu55] at hx2_99
                have hbd : r_93.toInt = 0 ∨ ((j1 36 54).toInt + 2 ≤ (im_95 36 54).toInt ∧ (im_95 36 54).toInt ≤ (y.toInt + z.toInt) ∧ (im_95 36 45).toInt = (j1 36 45).toInt + 1 ∧ (im_95 36 49).toInt = (j1 36 49).toInt + 1 ∧ (im_95 36 52).toInt - (j1 36 52).toInt ≤ (im_95 36 54).toInt - (j1 36 54).toInt) := hx2_99.elim (fun q => Or.inr ⟨q.2.2.1, q.2.2.2.1, q.2.2.2.2.1, q.2.2.2.2.2.1, q.2.2.2.2.2.2.1⟩) (fun q => Or.inl q.1)
                have hexn : exG r_93.toInt im_95 := hx2_99.elim (fun q => Or.inr q.2.2.2.2.2.2.2.2) (fun q => Or.inl q.1)
                refine lv_goto (tgt := 117) hx hb dX12_parse_95 (by decide) ?_
                refine lv_istore (lv' := [(4, .int r_93), (5, .int (i 403 ((j1 36 54).toInt).toNat)), (0, .ref (g 36)), (1, .ref (g 403)), (2, .int y), (3, .int z)]) hx hb dX12_parse_117 hl (by decide) rfl (fun ls hl => ?_)
                refine lv_goto (tgt := 44) hx hb dX12_parse_119 (by decide) ?_
                have hp_100 : (im_95 36 45).toInt = ((im_95 36 45) : Int32).toInt := rfl
                have hp_101 : (im_95 36 49).toInt = ((im_95 36 49) : Int32).toInt := rfl
                have hp_102 : (im_95 36 52).toInt = ((im_95 36 52) : Int32).toInt := rfl
                have hp_103 : (im_95 36 54).toInt = ((im_95 36 54) : Int32).toInt := rfl
                exact ih_lp_9 r_93 _ _ _ ls (mz_lt hm (by omega) (by omega) (by omega)) (by omega) (by omega) hexn (pt_op hi_lp_9_2 (by omega) (by omega) (by omega) (by omega) (hx2_99.elim (fun q => Or.inl ⟨q.1, q.2.1, by have := q.2.2.1; omega, q.2.2.2.2.2.2.2.1⟩) Or.inr)) hO_97 (fun a b ha => ((hfr_96 a b (by omega)).trans (hfr_j1 a b (by omega)))) (lv_sub hl [0, 2, 3, 4, 5] rfl) hH hS
            · skip
              have h_104 := s_eq (rfl : (i 403 ((j1 36 54).toInt).toNat).toInt = _) (show (123 : Int32).toInt = 123 from rfl) c_60
              refine lv_aload_n hx hb dX12_parse_75 rfl (lv_at hl 2 rfl) ?_
              refine lv_aload_n hx hb dX12_parse_76 rfl (lv_at hl 3 rfl) ?_
              have hwt_105 : (j1 36 55).toInt = (z_5 : Int32).toInt := congrArg Int32.toInt ((hfr_j1 36 55 (by omega)).trans (up2_at _ _ _ _))
              refine x_calli (va_runV (As := [.ref (g 403)]) (rest := []) ⟨hx, hb, hml, hown, hts⟩ (m_parameter_W l D g ka ad j1 r L d  hO_j1 hR H.size (by first | omega | decide) (by first | omega | decide) (by first | omega | decide) hexj) (cwV 1 hts gX12_parse_X12_parameter rfl rfl rfl (by decide +kernel) ⟨(Nat.le_of_ble_eq_true rfl), (Nat.le_of_ble_eq_true rfl)⟩) (x_preV (q := (RX12, TX12, 86)) hH hK (q_obj (by decide) (rfl : kd 36 = 12) (by decide)) rfl gxb (gxw hE hS (x_F hH hS hA))) rfl rfl hl.1 rfl (lv_room (Nat.le_of_ble_eq_true rfl)) dX12_parse_77 ⟨(Nat.le_of_ble_eq_true rfl), (Nat.le_of_ble_eq_true rfl)⟩) hH hS hA rfl rfl (fun r_106 im_108 H locs hw_107 hH hS => ?_)
              have hH : sj_H D A (hwc g ka im_108 r L d) H := hH
              obtain ⟨hO_110, hfr_109, hr_111, hx2_112⟩ := hw_107
              have hr_111 : (0 : Int) ≤ r_106.toInt ∧ r_106.toInt ≤ 1 := hr_111
              have hu55 : (j1 36 55).toInt = y.toInt + z.toInt := by have h9 := (congrArg Int32.toInt (((hfr_j1 36 55 (by omega)).trans (up2_at _ _ _ _))) : (j1 36 55).toInt = (z_5 : Int32).toInt); omega
              rw [show j1 403 = i 403 from funext fun b9 => ((hfr_j1 403 b9 (by omega)).trans ((up2_o _ _ (by omega)).trans ((up2_o _ _ (by omega)).trans ((up2_o _ _ (by omega)).trans ((up2_o _ _ (by omega)).trans (up2_o _ _ (by omega))))))), show (j1 36 55).toInt = (y.toInt + z.toInt) from hu55] at hx2_112
              have hbd : r_106.toInt = 0 ∨ ((im_108 36 54).toInt = (j1 36 54).toInt + 3 ∧ (im_108 36 54).toInt ≤ (y.toInt + z.toInt) ∧ (im_108 36 45).toInt = (j1 36 45).toInt + 1) := hx2_112.elim (fun q => Or.inr ⟨q.2.2.1, q.2.2.2.1, q.2.2.2.2.1⟩) (fun q => Or.inl q.1)
              have hexn : exG r_106.toInt im_108 := hx2_112.elim (fun q => Or.inr q.2.2.2.2.2.2) (fun q => Or.inl q.1)
              refine lv_goto (tgt := 117) hx hb dX12_parse_80 (by decide) ?_
              refine lv_istore (lv' := [(4, .int r_106), (5, .int (i 403 ((j1 36 54).toInt).toNat)), (0, .ref (g 36)), (1, .ref (g 403)), (2, .int y), (3, .int z)]) hx hb dX12_parse_117 hl (by decide) rfl (fun ls hl => ?_)
              refine lv_goto (tgt := 44) hx hb dX12_parse_119 (by decide) ?_
              have hp_113 : (im_108 36 45).toInt = ((im_108 36 45) : Int32).toInt := rfl
              have hp_114 : (im_108 36 49).toInt = ((j1 36 49) : Int32).toInt := congrArg Int32.toInt ((hfr_109 36 49 (by omega)))
              have hp_115 : (im_108 36 52).toInt = ((j1 36 52) : Int32).toInt := congrArg Int32.toInt ((hfr_109 36 52 (by omega)))
              have hp_116 : (im_108 36 54).toInt = ((im_108 36 54) : Int32).toInt := rfl
              exact ih_lp_9 r_106 _ _ _ ls (mz_lt hm (by omega) (by omega) (by omega)) (by omega) (by omega) hexn (pt_pa hi_lp_9_2 (by omega) (by omega) (by omega) (by omega) (hx2_112.elim (fun q => Or.inl ⟨q.1, q.2.1, by have := q.2.2.1; omega, q.2.2.2.2.2.1⟩) Or.inr)) hO_110 (fun a b ha => ((hfr_109 a b (by omega)).trans (hfr_j1 a b (by omega)))) (lv_sub hl [0, 2, 3, 4, 5] rfl) hH hS
    have hl_117 : (0 : Int32).toInt = 0 := rfl
    have hp_118 : ((up2 (up2 (up2 (up2 (up2 i 36 45 0) 36 49 0) 36 52 0) 36 54 y) 36 55 z_5) 36 45).toInt = (0 : Int32).toInt := congrArg Int32.toInt (((up2_k _ _ (by decide)).trans ((up2_k _ _ (by decide)).trans ((up2_k _ _ (by decide)).trans ((up2_k _ _ (by decide)).trans (up2_at _ _ _ _))))))
    have hl_119 : (0 : Int32).toInt = 0 := rfl
    have hp_120 : ((up2 (up2 (up2 (up2 (up2 i 36 45 0) 36 49 0) 36 52 0) 36 54 y) 36 55 z_5) 36 49).toInt = (0 : Int32).toInt := congrArg Int32.toInt (((up2_k _ _ (by decide)).trans ((up2_k _ _ (by decide)).trans ((up2_k _ _ (by decide)).trans (up2_at _ _ _ _)))))
    have hl_121 : (0 : Int32).toInt = 0 := rfl
    have hp_122 : ((up2 (up2 (up2 (up2 (up2 i 36 45 0) 36 49 0) 36 52 0) 36 54 y) 36 55 z_5) 36 52).toInt = (0 : Int32).toInt := congrArg Int32.toInt (((up2_k _ _ (by decide)).trans ((up2_k _ _ (by decide)).trans (up2_at _ _ _ _))))
    have hl_123 : (0 : Int32).toInt = 0 := rfl
    have hp_124 : ((up2 (up2 (up2 (up2 (up2 i 36 45 0) 36 49 0) 36 52 0) 36 54 y) 36 55 z_5) 36 54).toInt = (y : Int32).toInt := congrArg Int32.toInt (((up2_k _ _ (by decide)).trans (up2_at _ _ _ _)))
    have hp_125 : ((up2 (up2 (up2 (up2 (up2 i 36 45 0) 36 49 0) 36 52 0) 36 54 y) 36 55 z_5) 36 45).toInt = (0 : Int32).toInt := congrArg Int32.toInt (((up2_k _ _ (by decide)).trans ((up2_k _ _ (by decide)).trans ((up2_k _ _ (by decide)).trans ((up2_k _ _ (by decide)).trans (up2_at _ _ _ _))))))
    have hl_126 : (0 : Int32).toInt = 0 := rfl
    have hp_127 : ((up2 (up2 (up2 (up2 (up2 i 36 45 0) 36 49 0) 36 52 0) 36 54 y) 36 55 z_5) 36 49).toInt = (0 : Int32).toInt := congrArg Int32.toInt (((up2_k _ _ (by decide)).trans ((up2_k _ _ (by decide)).trans ((up2_k _ _ (by decide)).trans (up2_at _ _ _ _)))))
    have hl_128 : (0 : Int32).toInt = 0 := rfl
    have hp_129 : ((up2 (up2 (up2 (up2 (up2 i 36 45 0) 36 49 0) 36 52 0) 36 54 y) 36 55 z_5) 36 45).toInt = (0 : Int32).toInt := congrArg Int32.toInt (((up2_k _ _ (by decide)).trans ((up2_k _ _ (by decide)).trans ((up2_k _ _ (by decide)).trans ((up2_k _ _ (by decide)).trans (up2_at _ _ _ _))))))
    have hl_130 : (0 : Int32).toInt = 0 := rfl
    have hp_131 : ((up2 (up2 (up2 (up2 (up2 i 36 45 0) 36 49 0) 36 52 0) 36 54 y) 36 55 z_5) 36 54).toInt = (y : Int32).toInt := congrArg Int32.toInt (((up2_k _ _ (by decide)).trans (up2_at _ _ _ _)))
    have hc40 : c4 (up2 (up2 (up2 (up2 (up2 i 36 45 0) 36 49 0) 36 52 0) 36 54 y) 36 55 z_5) = 0 := by unfold c4; rw [show ((up2 (up2 (up2 (up2 (up2 i 36 45 0) 36 49 0) 36 52 0) 36 54 y) 36 55 z_5) 36 45).toInt.toNat = 0 by omega]; rfl
    exact lp_9 _ 0 _ _ _ ls (Nat.lt_succ_self _) (by omega) (by omega) (Or.inr (exI_0 (by omega) (by omega))) (pt_no (by omega) (by omega) (by omega)) hO_6 (fun a b ha => rfl) (lv_sub hl [0, 1, 2, 3, 4] rfl) hH hS
  · skip
    have h_132 := s_nle (rfl : z.toInt = _) (show (0 : Int32).toInt = 0 from rfl) c_7
    refine lv_iload_n hx hb dX12_parse_31 rfl (lv_at hl 3 rfl) ?_
    refine lv_bipush (v := 60) hx hb dX12_parse_32 (by decide) ?_
    refine lv_icmp_gt (tgt := 41) hx hb dX12_parse_34 (by decide) (fun c_133 => ?_) (fun c_133 => ?_)
    · skip
      have h_134 := s_lt (show (60 : Int32).toInt = 60 from rfl) (rfl : z.toInt = _) c_133
      refine lv_iconst (v := 0) hx hb dX12_parse_41 (by decide) ?_
      refine lv_istore (lv' := [(4, .int 0), (0, .ref (g 36)), (1, .ref (g 403)), (2, .int y), (3, .int z)]) hx hb dX12_parse_42 hl (by decide) rfl (fun ls hl => ?_)
      -- loop at 44
      have lp_135 : ∀ (fuel_lp_135 : Nat) (gd : Int32) (j1 : Nat → Nat → Int32) (H : Heap) (locs : List Loc) (ls : Array Slot), (mzr gd.toInt ((y.toInt + z.toInt) - (j1 36 54).toInt)).toNat < fuel_lp_135 → (0 : Int) ≤ gd.toInt ∧ gd.toInt ≤ 1 → gd.toInt = 0 ∨ ((y.toInt ≤ (j1 36 54).toInt ∧ (j1 36 54).toInt ≤ (y.toInt + z.toInt)) ∧ (j1 36 45).toInt ≤ (j1 36 54).toInt - y.toInt ∧ (j1 36 49).toInt ≤ (j1 36 54).toInt - y.toInt ∧ (j1 36 52).toInt ≤ (j1 36 54).toInt - y.toInt) → exG gd.toInt j1 → ptR (i 403) y.toInt (y.toInt + z.toInt) gd.toInt (j1 36 54).toInt (c4 j1) → OkI j1 → (∀ a b, ¬ ((a = 36 ∧ (b = 45 ∨ b = 49 ∨ b = 52 ∨ b = 54)) ∨ a = 406 ∨ a = 407 ∨ a = 408 ∨ a = 409 ∨ a = 410 ∨ a = 411) → j1 a b = (up2 (up2 (up2 (up2 (up2 i 36 45 0) 36 49 0) 36 52 0) 36 54 y) 36 55 z_5) a b) → lv_has ls 7 [(4, .int gd), (0, .ref (g 36)), (1, .ref (g 403)), (2, .int y), (3, .int z)] → sj_H D A (hwc g ka j1 r L d) H → va_S A s.heap H locs → W p l e (headSpec wsX12_parse ({ frames := 2, cells := 0, slots := 0, locals := 46 })).room s m ([.ref (g 36), .ref (g 403), .int y, .int z] : List Value).toArray below meth c H locs 0 0 (MQ below (sj_Qi (S := (Nat → Nat → Int32)) D (fun v u => OkI u ∧ (∀ a b, ¬ ((a = 36 ∧ (b = 45 ∨ b = 49 ∨ b = 52 ∨ b = 54 ∨ b = 55)) ∨ a = 406 ∨ a = 407 ∨ a = 408 ∨ a = 409 ∨ a = 410 ∨ a = 411) → u a b = i a b) ∧ ((0 : Int) ≤ v.toInt ∧ v.toInt ≤ 1) ∧ ((v.toInt = 1 ∧ prOK (lnL (i 403) y.toInt (y.toInt + z.toInt)) ∧ c4 u ≤ 6 ∧ exI u ∧ (u 36 45).toInt ≤ 60) ∨ (v.toInt = 0 ∧ ¬ prOK (lnL (i 403) y.toInt (y.toInt + z.toInt))))) (fun u => hwc g ka u r L d) (fun _ => []) A) ([.ref (g 36), .ref (g 403), .int y, .int z] : List Value).toArray s 0 0 A) (F0 m 44 ls []) := by
        intro fuel_lp_135
        induction fuel_lp_135 with
        | zero => intros; omega
        | succ fuel_lp_135 ih_lp_135 =>
          intro gd j1 H locs ls hm hr_gd hi_lp_135_0 hi_lp_135_1 hi_lp_135_2 hO_j1 hfr_j1 hl hH hS
          have hx45j : (0 : Int) ≤ (j1 36 45).toInt ∧ (j1 36 45).toInt ≤ 64 := hO_j1 36 45
          refine lv_iload hx hb dX12_parse_44 (lv_at hl 0 rfl) ?_
          refine lv_if_eq (tgt := 122) hx hb dX12_parse_46 (by decide) (fun c_136 => ?_) (fun c_136 => ?_)
          · skip
            have h_137 := s_eq (rfl : gd.toInt = _) (show (0 : Int32).toInt = 0 from rfl) c_136
            refine lv_iconst (v := 0) hx hb dX12_parse_122 (by decide) ?_
            refine lv_istore (lv' := [(5, .int 0), (4, .int gd), (0, .ref (g 36)), (1, .ref (g 403)), (2, .int y), (3, .int z)]) hx hb dX12_parse_123 hl (by decide) rfl (fun ls hl => ?_)
            refine lv_iconst (v := 0) hx hb dX12_parse_125 (by decide) ?_
            refine lv_istore (lv' := [(6, .int 0), (5, .int 0), (4, .int gd), (0, .ref (g 36)), (1, .ref (g 403)), (2, .int y), (3, .int z)]) hx hb dX12_parse_126 hl (by decide) rfl (fun ls hl => ?_)
            -- loop at 128
            have lp_138 : ∀ (fuel_lp_138 : Nat) (t : Int32) (f : Int32) (H : Heap) (locs : List Loc) (ls : Array Slot), (64 - f.toInt).toNat < fuel_lp_138 → (0 : Int) ≤ t.toInt ∧ t.toInt ≤ 64 → (0 : Int) ≤ f.toInt ∧ f.toInt ≤ 64 → t.toInt ≤ f.toInt ∧ f.toInt ≤ (j1 36 45).toInt → t.toInt = (cnt (j1 406) 4 f.toInt.toNat : Int) → lv_has ls 7 [(6, .int f), (5, .int t), (4, .int gd), (0, .ref (g 36)), (1, .ref (g 403)), (2, .int y), (3, .int z)] → sj_H D A (hwc g ka j1 r L d) H → va_S A s.heap H locs → W p l e (headSpec wsX12_parse ({ frames := 2, cells := 0, slots := 0, locals := 46 })).room s m ([.ref (g 36), .ref (g 403), .int y, .int z] : List Value).toArray below meth c H locs 0 0 (MQ below (sj_Qi (S := (Nat → Nat → Int32)) D (fun v u => OkI u ∧ (∀ a b, ¬ ((a = 36 ∧ (b = 45 ∨ b = 49 ∨ b = 52 ∨ b = 54 ∨ b = 55)) ∨ a = 406 ∨ a = 407 ∨ a = 408 ∨ a = 409 ∨ a = 410 ∨ a = 411) → u a b = i a b) ∧ ((0 : Int) ≤ v.toInt ∧ v.toInt ≤ 1) ∧ ((v.toInt = 1 ∧ prOK (lnL (i 403) y.toInt (y.toInt + z.toInt)) ∧ c4 u ≤ 6 ∧ exI u ∧ (u 36 45).toInt ≤ 60) ∨ (v.toInt = 0 ∧ ¬ prOK (lnL (i 403) y.toInt (y.toInt + z.toInt))))) (fun u => hwc g ka u r L d) (fun _ => []) A) ([.ref (g 36), .ref (g 403), .int y, .int z] : List Value).toArray s 0 0 A) (F0 m 128 ls []) := by
              intro fuel_lp_138
              induction fuel_lp_138 with
              | zero => intros; omega
              | succ fuel_lp_138 ih_lp_138 =>
                intro t f H locs ls hm hr_t hr_f hi_lp_138_0 hi_lp_138_1 hl hH hS
                refine lv_iload hx hb dX12_parse_128 (lv_at hl 0 rfl) ?_
                refine lv_aload_n hx hb dX12_parse_130 rfl (lv_at hl 3 rfl) ?_
                have bx_139 : (0 : Int) ≤ (j1 36 45).toInt ∧ (j1 36 45).toInt ≤ 64 := hO_j1 36 45
                refine h_geti (ci := 12) (C := RX12) (F := TX12) (N := 86) hx hb hts in12 hown hK hH (by decide) (rfl : kd 36 = 12) (by decide) rfl 45 (by decide) wd0 (fun _ h9 => h9) (by decide) rfl dX12_parse_131 ?_
                refine lv_icmp_ge (tgt := 164) hx hb dX12_parse_134 (by decide) (fun c_140 => ?_) (fun c_140 => ?_)
                · skip
                  have h_141 := s_le (rfl : (j1 36 45).toInt = _) (rfl : f.toInt = _) c_140
                  refine lv_iload hx hb dX12_parse_164 (lv_at hl 2 rfl) ?_
                  refine lv_if_eq (tgt := 180) hx hb dX12_parse_166 (by decide) (fun _ => ?_) (fun h => absurd (p_eq (rfl : gd.toInt = _) (show (0 : Int32).toInt = 0 from rfl) (by omega)) h)
                  refine lv_iconst (v := 0) hx hb dX12_parse_180 (by decide) ?_
                  have hlv_142 : (0 : Int32).toInt = 0 := rfl
                  have hpe := pt_end hi_lp_135_2 (by omega) (fun _ => by omega)
                  have hct : t.toInt = c4 j1 := by unfold c4; rw [show (j1 36 45).toInt.toNat = f.toInt.toNat by omega]; omega
                  have hV_143 : ((0 : Int32).toInt = 1 ∧ prOK (lnL (i 403) y.toInt (y.toInt + z.toInt)) ∧ c4 j1 ≤ 6 ∧ exI j1 ∧ (j1 36 45).toInt ≤ 60) ∨ ((0 : Int32).toInt = 0 ∧ ¬ prOK (lnL (i 403) y.toInt (y.toInt + z.toInt))) := (Or.inr ⟨by omega, hpe.elim (fun q => (q.2.2.resolve_left (fun q8 => by have q7 := q8.1; have q6 := q.1; omega)).2) (fun q => q.2)⟩)
                  exact sj_zret hx hb hr hlocks (by decide +kernel) hS j1 ⟨hO_j1, (fun a b ha => ((hfr_j1 a b (by omega)).trans ((up2_o _ _ (by omega)).trans ((up2_o _ _ (by omega)).trans ((up2_o _ _ (by omega)).trans ((up2_o _ _ (by omega)).trans (up2_o _ _ (by omega)))))))), ⟨by decide, by decide⟩, hV_143⟩ hH (sj_Knil hK) (Nat.le_of_ble_eq_true rfl) (Nat.le_of_ble_eq_true rfl) dX12_parse_181
                · skip
                  have h_144 := s_nle (rfl : (j1 36 45).toInt = _) (rfl : f.toInt = _) c_140
                  refine lv_iload hx hb dX12_parse_137 (lv_at hl 1 rfl) ?_
                  refine lv_aload_n hx hb dX12_parse_139 rfl (lv_at hl 3 rfl) ?_
                  refine h_getr (ci := 12) (C := RX12) (F := TX12) (N := 86) hx hb hts in12 hown hK hH (by decide) (rfl : kd 36 = 12) (by decide) rfl 46 (by decide) wd5 (fun _ h9 => h9) (by decide) rfl (t := 406) (hR 36 46 rfl) (by decide) dX12_parse_140 ?_
                  refine lv_iload hx hb dX12_parse_143 (lv_at hl 0 rfl) ?_
                  have hc_145 := cnt_or (j1 406) 4 f.toInt.toNat
                  refine h_iald hx hb hK hH (by decide) (rfl : kd 406 = 13) (s_vin (N := 64) (rfl : f.toInt = _) (rfl : ln 406 = 64) (by omega) (by omega)) dX12_parse_145 ?_
                  have ek_146 : f.toNatClampNeg = (f.toInt).toNat := (s_cl (show f.toInt = f.toInt by omega))
                  refine sj_i (y := (j1 406 (f.toInt).toNat)) (by rw [ek_146]) ?_
                  refine lv_iconst (v := 4) hx hb dX12_parse_146 (by decide) ?_
                  refine lv_icmp_ne (tgt := 154) hx hb dX12_parse_147 (by decide) (fun c_147 => ?_) (fun c_147 => ?_)
                  · skip
                    have h_148 := s_ne (rfl : (j1 406 (f.toInt).toNat).toInt = _) (show (4 : Int32).toInt = 4 from rfl) c_147
                    refine lv_iconst (v := 0) hx hb dX12_parse_154 (by decide) ?_
                    refine lv_iadd hx hb dX12_parse_155 ?_
                    obtain ⟨z_149, ez_149, hz_149⟩ := s_add (rfl : t.toInt = _) (show (0 : Int32).toInt = 0 from rfl) (by omega) (by omega)
                    refine sj_i ez_149 ?_
                    refine lv_istore (lv' := [(5, .int z_149), (6, .int f), (4, .int gd), (0, .ref (g 36)), (1, .ref (g 403)), (2, .int y), (3, .int z)]) hx hb dX12_parse_156 hl (by decide) rfl (fun ls hl => ?_)
                    obtain ⟨z_150, ez_150, hz_150⟩ := s_add (rfl : f.toInt = _) (show (1 : Int32).toInt = 1 from rfl) (by omega) (by omega)
                    refine lv_iinc (v := z_150) (lv' := [(6, .int z_150), (5, .int z_149), (4, .int gd), (0, .ref (g 36)), (1, .ref (g 403)), (2, .int y), (3, .int z)]) hx hb dX12_parse_158 hl (k := 1) rfl ez_150 (by decide) rfl (fun ls hl => ?_)
                    refine lv_goto (tgt := 128) hx hb dX12_parse_161 (by decide) ?_
                    exact ih_lp_138 z_149 z_150 _ _ ls (by omega) (by omega) (by omega) (by omega) (by rw [show (z_150).toInt.toNat = f.toInt.toNat + 1 by omega]; omega) (lv_sub hl [0, 1, 2, 3, 4, 5, 6] rfl) hH hS
                  · skip
                    have h_151 := s_eq (rfl : (j1 406 (f.toInt).toNat).toInt = _) (show (4 : Int32).toInt = 4 from rfl) c_147
                    refine lv_iconst (v := 1) hx hb dX12_parse_150 (by decide) ?_
                    refine lv_goto (tgt := 155) hx hb dX12_parse_151 (by decide) ?_
                    refine lv_iadd hx hb dX12_parse_155 ?_
                    obtain ⟨z_152, ez_152, hz_152⟩ := s_add (rfl : t.toInt = _) (show (1 : Int32).toInt = 1 from rfl) (by omega) (by omega)
                    refine sj_i ez_152 ?_
                    refine lv_istore (lv' := [(5, .int z_152), (6, .int f), (4, .int gd), (0, .ref (g 36)), (1, .ref (g 403)), (2, .int y), (3, .int z)]) hx hb dX12_parse_156 hl (by decide) rfl (fun ls hl => ?_)
                    obtain ⟨z_153, ez_153, hz_153⟩ := s_add (rfl : f.toInt = _) (show (1 : Int32).toInt = 1 from rfl) (by omega) (by omega)
                    refine lv_iinc (v := z_153) (lv' := [(6, .int z_153), (5, .int z_152), (4, .int gd), (0, .ref (g 36)), (1, .ref (g 403)), (2, .int y), (3, .int z)]) hx hb dX12_parse_158 hl (k := 1) rfl ez_153 (by decide) rfl (fun ls hl => ?_)
                    refine lv_goto (tgt := 128) hx hb dX12_parse_161 (by decide) ?_
                    exact ih_lp_138 z_152 z_153 _ _ ls (by omega) (by omega) (by omega) (by omega) (by rw [show (z_153).toInt.toNat = f.toInt.toNat + 1 by omega]; omega) (lv_sub hl [0, 1, 2, 3, 4, 5, 6] rfl) hH hS
            have hl_154 : (0 : Int32).toInt = 0 := rfl
            have hl_155 : (0 : Int32).toInt = 0 := rfl
            exact lp_138 _ 0 0 _ _ ls (Nat.lt_succ_self _) (by omega) (by omega) (by omega) (by rfl) (lv_sub hl [0, 1, 2, 3, 4, 5, 6] rfl) hH hS
          · skip
            have h_156 := s_ne (rfl : gd.toInt = _) (show (0 : Int32).toInt = 0 from rfl) c_136
            have hexj := hi_lp_135_1.resolve_left (fun q => by omega)
            have hbj := hi_lp_135_0.resolve_left (fun q => by omega)
            have hpt := hi_lp_135_2.resolve_right (fun q => by have := q.1; omega)
            have hpz := hpt.2.1
            refine lv_aload_n hx hb dX12_parse_49 rfl (lv_at hl 1 rfl) ?_
            have bx_157 : (0 : Int) ≤ (j1 36 54).toInt ∧ (j1 36 54).toInt ≤ 720 := hO_j1 36 54
            refine h_geti (ci := 12) (C := RX12) (F := TX12) (N := 86) hx hb hts in12 hown hK hH (by decide) (rfl : kd 36 = 12) (by decide) rfl 54 (by decide) wd3 (fun _ h9 => h9) (by decide) rfl dX12_parse_50 ?_
            refine lv_aload_n hx hb dX12_parse_53 rfl (lv_at hl 1 rfl) ?_
            refine h_geti (ci := 12) (C := RX12) (F := TX12) (N := 86) hx hb hts in12 hown hK hH (by decide) (rfl : kd 36 = 12) (by decide) rfl 55 (by decide) wd4 (fun _ h9 => h9) (by decide) rfl dX12_parse_54 ?_
            refine sj_i (y := z_5) ((hfr_j1 36 55 (by omega)).trans (up2_at _ _ _ _)) ?_
            refine lv_icmp_ge (tgt := 122) hx hb dX12_parse_57 (by decide) (fun c_158 => ?_) (fun c_158 => ?_)
            · skip
              have h_159 := s_le (rfl : z_5.toInt = _) (rfl : (j1 36 54).toInt = _) c_158
              refine lv_iconst (v := 0) hx hb dX12_parse_122 (by decide) ?_
              refine lv_istore (lv' := [(5, .int 0), (4, .int gd), (0, .ref (g 36)), (1, .ref (g 403)), (2, .int y), (3, .int z)]) hx hb dX12_parse_123 hl (by decide) rfl (fun ls hl => ?_)
              refine lv_iconst (v := 0) hx hb dX12_parse_125 (by decide) ?_
              refine lv_istore (lv' := [(6, .int 0), (5, .int 0), (4, .int gd), (0, .ref (g 36)), (1, .ref (g 403)), (2, .int y), (3, .int z)]) hx hb dX12_parse_126 hl (by decide) rfl (fun ls hl => ?_)
              -- loop at 128
              have lp_160 : ∀ (fuel_lp_160 : Nat) (t : Int32) (f : Int32) (H : Heap) (locs : List Loc) (ls : Array Slot), (64 - f.toInt).toNat < fuel_lp_160 → (0 : Int) ≤ t.toInt ∧ t.toInt ≤ 64 → (0 : Int) ≤ f.toInt ∧ f.toInt ≤ 64 → t.toInt ≤ f.toInt ∧ f.toInt ≤ (j1 36 45).toInt → t.toInt = (cnt (j1 406) 4 f.toInt.toNat : Int) → lv_has ls 7 [(6, .int f), (5, .int t), (4, .int gd), (0, .ref (g 36)), (1, .ref (g 403)), (2, .int y), (3, .int z)] → sj_H D A (hwc g ka j1 r L d) H → va_S A s.heap H locs → W p l e (headSpec wsX12_parse ({ frames := 2, cells := 0, slots := 0, locals := 46 })).room s m ([.ref (g 36), .ref (g 403), .int y, .int z] : List Value).toArray below meth c H locs 0 0 (MQ below (sj_Qi (S := (Nat → Nat → Int32)) D (fun v u => OkI u ∧ (∀ a b, ¬ ((a = 36 ∧ (b = 45 ∨ b = 49 ∨ b = 52 ∨ b = 54 ∨ b = 55)) ∨ a = 406 ∨ a = 407 ∨ a = 408 ∨ a = 409 ∨ a = 410 ∨ a = 411) → u a b = i a b) ∧ ((0 : Int) ≤ v.toInt ∧ v.toInt ≤ 1) ∧ ((v.toInt = 1 ∧ prOK (lnL (i 403) y.toInt (y.toInt + z.toInt)) ∧ c4 u ≤ 6 ∧ exI u ∧ (u 36 45).toInt ≤ 60) ∨ (v.toInt = 0 ∧ ¬ prOK (lnL (i 403) y.toInt (y.toInt + z.toInt))))) (fun u => hwc g ka u r L d) (fun _ => []) A) ([.ref (g 36), .ref (g 403), .int y, .int z] : List Value).toArray s 0 0 A) (F0 m 128 ls []) := by
                intro fuel_lp_160
                induction fuel_lp_160 with
                | zero => intros; omega
                | succ fuel_lp_160 ih_lp_160 =>
                  intro t f H locs ls hm hr_t hr_f hi_lp_160_0 hi_lp_160_1 hl hH hS
                  refine lv_iload hx hb dX12_parse_128 (lv_at hl 0 rfl) ?_
                  refine lv_aload_n hx hb dX12_parse_130 rfl (lv_at hl 3 rfl) ?_
                  have bx_161 : (0 : Int) ≤ (j1 36 45).toInt ∧ (j1 36 45).toInt ≤ 64 := hO_j1 36 45
                  refine h_geti (ci := 12) (C := RX12) (F := TX12) (N := 86) hx hb hts in12 hown hK hH (by decide) (rfl : kd 36 = 12) (by decide) rfl 45 (by decide) wd0 (fun _ h9 => h9) (by decide) rfl dX12_parse_131 ?_
                  refine lv_icmp_ge (tgt := 164) hx hb dX12_parse_134 (by decide) (fun c_162 => ?_) (fun c_162 => ?_)
                  · skip
                    have h_163 := s_le (rfl : (j1 36 45).toInt = _) (rfl : f.toInt = _) c_162
                    refine lv_iload hx hb dX12_parse_164 (lv_at hl 2 rfl) ?_
                    refine lv_if_eq (tgt := 180) hx hb dX12_parse_166 (by decide) (fun h => absurd h (p_ne (rfl : gd.toInt = _) (show (0 : Int32).toInt = 0 from rfl) (by omega))) (fun _ => ?_)
                    refine lv_iload hx hb dX12_parse_169 (lv_at hl 1 rfl) ?_
                    refine lv_bipush (v := 6) hx hb dX12_parse_171 (by decide) ?_
                    refine lv_icmp_gt (tgt := 180) hx hb dX12_parse_173 (by decide) (fun c_164 => ?_) (fun c_164 => ?_)
                    · skip
                      have h_165 := s_lt (show (6 : Int32).toInt = 6 from rfl) (rfl : t.toInt = _) c_164
                      refine lv_iconst (v := 0) hx hb dX12_parse_180 (by decide) ?_
                      have hlv_166 : (0 : Int32).toInt = 0 := rfl
                      have hpe := pt_end hi_lp_135_2 (by omega) (fun _ => by omega)
                      have hct : t.toInt = c4 j1 := by unfold c4; rw [show (j1 36 45).toInt.toNat = f.toInt.toNat by omega]; omega
                      have hV_167 : ((0 : Int32).toInt = 1 ∧ prOK (lnL (i 403) y.toInt (y.toInt + z.toInt)) ∧ c4 j1 ≤ 6 ∧ exI j1 ∧ (j1 36 45).toInt ≤ 60) ∨ ((0 : Int32).toInt = 0 ∧ ¬ prOK (lnL (i 403) y.toInt (y.toInt + z.toInt))) := (Or.inr ⟨by omega, hpe.elim (fun q => (q.2.2.resolve_left (fun q8 => by have q7 := q8.1; have q6 := q.1; omega)).2) (fun q => q.2)⟩)
                      exact sj_zret hx hb hr hlocks (by decide +kernel) hS j1 ⟨hO_j1, (fun a b ha => ((hfr_j1 a b (by omega)).trans ((up2_o _ _ (by omega)).trans ((up2_o _ _ (by omega)).trans ((up2_o _ _ (by omega)).trans ((up2_o _ _ (by omega)).trans (up2_o _ _ (by omega)))))))), ⟨by decide, by decide⟩, hV_167⟩ hH (sj_Knil hK) (Nat.le_of_ble_eq_true rfl) (Nat.le_of_ble_eq_true rfl) dX12_parse_181
                    · skip
                      have h_168 := s_nlt (show (6 : Int32).toInt = 6 from rfl) (rfl : t.toInt = _) c_164
                      refine lv_iconst (v := 1) hx hb dX12_parse_176 (by decide) ?_
                      refine lv_goto (tgt := 181) hx hb dX12_parse_177 (by decide) ?_
                      have hlv_169 : (1 : Int32).toInt = 1 := rfl
                      have hpe := pt_end hi_lp_135_2 (by omega) (fun _ => by omega)
                      have hct : t.toInt = c4 j1 := by unfold c4; rw [show (j1 36 45).toInt.toNat = f.toInt.toNat by omega]; omega
                      have hV_170 : ((1 : Int32).toInt = 1 ∧ prOK (lnL (i 403) y.toInt (y.toInt + z.toInt)) ∧ c4 j1 ≤ 6 ∧ exI j1 ∧ (j1 36 45).toInt ≤ 60) ∨ ((1 : Int32).toInt = 0 ∧ ¬ prOK (lnL (i 403) y.toInt (y.toInt + z.toInt))) := (Or.inl ⟨by omega, ((hpe.resolve_right (fun q => by have := q.1; omega)).2.2.resolve_right (fun q => by have := q.1; omega)).2, by omega, hi_lp_135_1.resolve_left (fun q => by omega), by have := hi_lp_135_0.resolve_left (fun q => by omega); have := (hpe.resolve_right (fun q => by have := q.1; omega)).2.1; omega⟩)
                      exact sj_zret hx hb hr hlocks (by decide +kernel) hS j1 ⟨hO_j1, (fun a b ha => ((hfr_j1 a b (by omega)).trans ((up2_o _ _ (by omega)).trans ((up2_o _ _ (by omega)).trans ((up2_o _ _ (by omega)).trans ((up2_o _ _ (by omega)).trans (up2_o _ _ (by omega)))))))), ⟨by decide, by decide⟩, hV_170⟩ hH (sj_Knil hK) (Nat.le_of_ble_eq_true rfl) (Nat.le_of_ble_eq_true rfl) dX12_parse_181
                  · skip
                    have h_171 := s_nle (rfl : (j1 36 45).toInt = _) (rfl : f.toInt = _) c_162
                    refine lv_iload hx hb dX12_parse_137 (lv_at hl 1 rfl) ?_
                    refine lv_aload_n hx hb dX12_parse_139 rfl (lv_at hl 3 rfl) ?_
                    refine h_getr (ci := 12) (C := RX12) (F := TX12) (N := 86) hx hb hts in12 hown hK hH (by decide) (rfl : kd 36 = 12) (by decide) rfl 46 (by decide) wd5 (fun _ h9 => h9) (by decide) rfl (t := 406) (hR 36 46 rfl) (by decide) dX12_parse_140 ?_
                    refine lv_iload hx hb dX12_parse_143 (lv_at hl 0 rfl) ?_
                    have hc_172 := cnt_or (j1 406) 4 f.toInt.toNat
                    refine h_iald hx hb hK hH (by decide) (rfl : kd 406 = 13) (s_vin (N := 64) (rfl : f.toInt = _) (rfl : ln 406 = 64) (by omega) (by omega)) dX12_parse_145 ?_
                    have ek_173 : f.toNatClampNeg = (f.toInt).toNat := (s_cl (show f.toInt = f.toInt by omega))
                    refine sj_i (y := (j1 406 (f.toInt).toNat)) (by rw [ek_173]) ?_
                    refine lv_iconst (v := 4) hx hb dX12_parse_146 (by decide) ?_
                    refine lv_icmp_ne (tgt := 154) hx hb dX12_parse_147 (by decide) (fun c_174 => ?_) (fun c_174 => ?_)
                    · skip
                      have h_175 := s_ne (rfl : (j1 406 (f.toInt).toNat).toInt = _) (show (4 : Int32).toInt = 4 from rfl) c_174
                      refine lv_iconst (v := 0) hx hb dX12_parse_154 (by decide) ?_
                      refine lv_iadd hx hb dX12_parse_155 ?_
                      obtain ⟨z_176, ez_176, hz_176⟩ := s_add (rfl : t.toInt = _) (show (0 : Int32).toInt = 0 from rfl) (by omega) (by omega)
                      refine sj_i ez_176 ?_
                      refine lv_istore (lv' := [(5, .int z_176), (6, .int f), (4, .int gd), (0, .ref (g 36)), (1, .ref (g 403)), (2, .int y), (3, .int z)]) hx hb dX12_parse_156 hl (by decide) rfl (fun ls hl => ?_)
                      obtain ⟨z_177, ez_177, hz_177⟩ := s_add (rfl : f.toInt = _) (show (1 : Int32).toInt = 1 from rfl) (by omega) (by omega)
                      refine lv_iinc (v := z_177) (lv' := [(6, .int z_177), (5, .int z_176), (4, .int gd), (0, .ref (g 36)), (1, .ref (g 403)), (2, .int y), (3, .int z)]) hx hb dX12_parse_158 hl (k := 1) rfl ez_177 (by decide) rfl (fun ls hl => ?_)
                      refine lv_goto (tgt := 128) hx hb dX12_parse_161 (by decide) ?_
                      exact ih_lp_160 z_176 z_177 _ _ ls (by omega) (by omega) (by omega) (by omega) (by rw [show (z_177).toInt.toNat = f.toInt.toNat + 1 by omega]; omega) (lv_sub hl [0, 1, 2, 3, 4, 5, 6] rfl) hH hS
                    · skip
                      have h_178 := s_eq (rfl : (j1 406 (f.toInt).toNat).toInt = _) (show (4 : Int32).toInt = 4 from rfl) c_174
                      refine lv_iconst (v := 1) hx hb dX12_parse_150 (by decide) ?_
                      refine lv_goto (tgt := 155) hx hb dX12_parse_151 (by decide) ?_
                      refine lv_iadd hx hb dX12_parse_155 ?_
                      obtain ⟨z_179, ez_179, hz_179⟩ := s_add (rfl : t.toInt = _) (show (1 : Int32).toInt = 1 from rfl) (by omega) (by omega)
                      refine sj_i ez_179 ?_
                      refine lv_istore (lv' := [(5, .int z_179), (6, .int f), (4, .int gd), (0, .ref (g 36)), (1, .ref (g 403)), (2, .int y), (3, .int z)]) hx hb dX12_parse_156 hl (by decide) rfl (fun ls hl => ?_)
                      obtain ⟨z_180, ez_180, hz_180⟩ := s_add (rfl : f.toInt = _) (show (1 : Int32).toInt = 1 from rfl) (by omega) (by omega)
                      refine lv_iinc (v := z_180) (lv' := [(6, .int z_180), (5, .int z_179), (4, .int gd), (0, .ref (g 36)), (1, .ref (g 403)), (2, .int y), (3, .int z)]) hx hb dX12_parse_158 hl (k := 1) rfl ez_180 (by decide) rfl (fun ls hl => ?_)
                      refine lv_goto (tgt := 128) hx hb dX12_parse_161 (by decide) ?_
                      exact ih_lp_160 z_179 z_180 _ _ ls (by omega) (by omega) (by omega) (by omega) (by rw [show (z_180).toInt.toNat = f.toInt.toNat + 1 by omega]; omega) (lv_sub hl [0, 1, 2, 3, 4, 5, 6] rfl) hH hS
              have hl_181 : (0 : Int32).toInt = 0 := rfl
              have hl_182 : (0 : Int32).toInt = 0 := rfl
              exact lp_160 _ 0 0 _ _ ls (Nat.lt_succ_self _) (by omega) (by omega) (by omega) (by rfl) (lv_sub hl [0, 1, 2, 3, 4, 5, 6] rfl) hH hS
            · skip
              have h_183 := s_nle (rfl : z_5.toInt = _) (rfl : (j1 36 54).toInt = _) c_158
              refine lv_aload_n hx hb dX12_parse_60 rfl (lv_at hl 2 rfl) ?_
              refine lv_aload_n hx hb dX12_parse_61 rfl (lv_at hl 1 rfl) ?_
              refine h_geti (ci := 12) (C := RX12) (F := TX12) (N := 86) hx hb hts in12 hown hK hH (by decide) (rfl : kd 36 = 12) (by decide) rfl 54 (by decide) wd3 (fun _ h9 => h9) (by decide) rfl dX12_parse_62 ?_
              have bx_184 : (0 : Int) ≤ (i 403 ((j1 36 54).toInt).toNat).toInt ∧ (i 403 ((j1 36 54).toInt).toNat).toInt ≤ 65535 := hO 403 ((j1 36 54).toInt).toNat
              refine h_cald hx hb hK hH (by decide) (rfl : kd 403 = 14) (s_vin (N := 720) (rfl : (j1 36 54).toInt = _) (rfl : ln 403 = 720) (by omega) (by omega)) dX12_parse_65 ?_
              have ek_185 : (j1 36 54).toNatClampNeg = ((j1 36 54).toInt).toNat := (s_cl (show (j1 36 54).toInt = (j1 36 54).toInt by omega))
              refine sj_i (y := (i 403 ((j1 36 54).toInt).toNat)) (by rw [ek_185]; exact ((hfr_j1 403 ((j1 36 54).toInt).toNat (by omega)).trans ((congrFun (up2_n _ _ (by decide)) _).trans ((congrFun (up2_n _ _ (by decide)) _).trans ((congrFun (up2_n _ _ (by decide)) _).trans ((congrFun (up2_n _ _ (by decide)) _).trans (congrFun (up2_n _ _ (by decide)) _))))))) ?_
              refine lv_istore (lv' := [(5, .int (i 403 ((j1 36 54).toInt).toNat)), (4, .int gd), (0, .ref (g 36)), (1, .ref (g 403)), (2, .int y), (3, .int z)]) hx hb dX12_parse_66 hl (by decide) rfl (fun ls hl => ?_)
              refine lv_iload hx hb dX12_parse_68 (lv_at hl 0 rfl) ?_
              refine lv_bipush (v := 123) hx hb dX12_parse_70 (by decide) ?_
              refine lv_icmp_ne (tgt := 83) hx hb dX12_parse_72 (by decide) (fun c_186 => ?_) (fun c_186 => ?_)
              · skip
                have h_187 := s_ne (rfl : (i 403 ((j1 36 54).toInt).toNat).toInt = _) (show (123 : Int32).toInt = 123 from rfl) c_186
                refine lv_iload hx hb dX12_parse_83 (lv_at hl 0 rfl) ?_
                refine lv_bipush (v := 40) hx hb dX12_parse_85 (by decide) ?_
                refine lv_icmp_ne (tgt := 98) hx hb dX12_parse_87 (by decide) (fun c_188 => ?_) (fun c_188 => ?_)
                · skip
                  have h_189 := s_ne (rfl : (i 403 ((j1 36 54).toInt).toNat).toInt = _) (show (40 : Int32).toInt = 40 from rfl) c_188
                  refine lv_iload hx hb dX12_parse_98 (lv_at hl 0 rfl) ?_
                  refine lv_bipush (v := 32) hx hb dX12_parse_100 (by decide) ?_
                  refine lv_icmp_ne (tgt := 112) hx hb dX12_parse_102 (by decide) (fun c_190 => ?_) (fun c_190 => ?_)
                  · skip
                    have h_191 := s_ne (rfl : (i 403 ((j1 36 54).toInt).toNat).toInt = _) (show (32 : Int32).toInt = 32 from rfl) c_190
                    refine lv_aload_n hx hb dX12_parse_112 rfl (lv_at hl 2 rfl) ?_
                    refine lv_aload_n hx hb dX12_parse_113 rfl (lv_at hl 3 rfl) ?_
                    have hwt_192 : (j1 36 55).toInt = (z_5 : Int32).toInt := congrArg Int32.toInt ((hfr_j1 36 55 (by omega)).trans (up2_at _ _ _ _))
                    refine x_calli (va_runV (As := [.ref (g 403)]) (rest := []) ⟨hx, hb, hml, hown, hts⟩ (m_word_W l D g ka ad j1 r L d  hO_j1 hR H.size (by first | omega | decide) (by first | omega | decide) (by first | omega | decide) (by first | omega | decide) (by first | omega | decide) hexj) (cwV 1 hts gX12_parse_X12_word rfl rfl rfl (by decide +kernel) ⟨(Nat.le_of_ble_eq_true rfl), (Nat.le_of_ble_eq_true rfl)⟩) (x_preV (q := (RX12, TX12, 86)) hH hK (q_obj (by decide) (rfl : kd 36 = 12) (by decide)) rfl gxb (gxw hE hS (x_F hH hS hA))) rfl rfl hl.1 rfl (lv_room (Nat.le_of_ble_eq_true rfl)) dX12_parse_114 ⟨(Nat.le_of_ble_eq_true rfl), (Nat.le_of_ble_eq_true rfl)⟩) hH hS hA rfl rfl (fun r_193 im_195 H locs hw_194 hH hS => ?_)
                    have hH : sj_H D A (hwc g ka im_195 r L d) H := hH
                    obtain ⟨hO_197, hfr_196, hr_198, hx2_199⟩ := hw_194
                    have hr_198 : (0 : Int) ≤ r_193.toInt ∧ r_193.toInt ≤ 1 := hr_198
                    have hu55 : (j1 36 55).toInt = y.toInt + z.toInt := by have h9 := (congrArg Int32.toInt (((hfr_j1 36 55 (by omega)).trans (up2_at _ _ _ _))) : (j1 36 55).toInt = (z_5 : Int32).toInt); omega
                    rw [show j1 403 = i 403 from funext fun b9 => ((hfr_j1 403 b9 (by omega)).trans ((up2_o _ _ (by omega)).trans ((up2_o _ _ (by omega)).trans ((up2_o _ _ (by omega)).trans ((up2_o _ _ (by omega)).trans (up2_o _ _ (by omega))))))), show (j1 36 55).toInt = (y.toInt + z.toInt) from hu55] at hx2_199
                    have hbd : r_193.toInt = 0 ∨ ((j1 36 54).toInt + 1 ≤ (im_195 36 54).toInt ∧ (im_195 36 54).toInt ≤ (y.toInt + z.toInt) ∧ (im_195 36 45).toInt - (j1 36 45).toInt ≤ (im_195 36 54).toInt - (j1 36 54).toInt ∧ (im_195 36 49).toInt - (j1 36 49).toInt ≤ (im_195 36 54).toInt - (j1 36 54).toInt ∧ (im_195 36 52).toInt - (j1 36 52).toInt ≤ (im_195 36 54).toInt - (j1 36 54).toInt) := hx2_199.elim (fun q => Or.inr ⟨q.2.2.1, q.2.2.2.1, q.2.2.2.2.1, q.2.2.2.2.2.1, q.2.2.2.2.2.2.1⟩) (fun q => Or.inl q.1)
                    have hexn : exG r_193.toInt im_195 := hx2_199.elim (fun q => Or.inr q.2.2.2.2.2.2.2.2) (fun q => Or.inl q.1)
                    refine lv_istore (lv' := [(4, .int r_193), (5, .int (i 403 ((j1 36 54).toInt).toNat)), (0, .ref (g 36)), (1, .ref (g 403)), (2, .int y), (3, .int z)]) hx hb dX12_parse_117 hl (by decide) rfl (fun ls hl => ?_)
                    refine lv_goto (tgt := 44) hx hb dX12_parse_119 (by decide) ?_
                    have hp_200 : (im_195 36 45).toInt = ((im_195 36 45) : Int32).toInt := rfl
                    have hp_201 : (im_195 36 49).toInt = ((im_195 36 49) : Int32).toInt := rfl
                    have hp_202 : (im_195 36 52).toInt = ((im_195 36 52) : Int32).toInt := rfl
                    have hp_203 : (im_195 36 54).toInt = ((im_195 36 54) : Int32).toInt := rfl
                    exact ih_lp_135 r_193 _ _ _ ls (mz_lt hm (by omega) (by omega) (by omega)) (by omega) (by omega) hexn (pt_wd hi_lp_135_2 (by omega) (by omega) (by omega) (by omega) (by omega) (by omega) (hx2_199.elim (fun q => Or.inl ⟨q.1, q.2.1, q.2.2.1, q.2.2.2.2.2.2.2.1⟩) Or.inr)) hO_197 (fun a b ha => ((hfr_196 a b (by omega)).trans (hfr_j1 a b (by omega)))) (lv_sub hl [0, 2, 3, 4, 5] rfl) hH hS
                  · skip
                    have h_204 := s_eq (rfl : (i 403 ((j1 36 54).toInt).toNat).toInt = _) (show (32 : Int32).toInt = 32 from rfl) c_190
                    refine lv_aload_n hx hb dX12_parse_105 rfl (lv_at hl 2 rfl) ?_
                    have hwt_205 : (j1 36 55).toInt = (z_5 : Int32).toInt := congrArg Int32.toInt ((hfr_j1 36 55 (by omega)).trans (up2_at _ _ _ _))
                    refine x_calli (va_runV (As := []) (rest := []) ⟨hx, hb, hml, hown, hts⟩ (m_blank l D g ka ad j1 r L d  hO_j1 hR H.size (by first | omega | decide) (by first | omega | decide) hexj) (cwV 0 hts gX12_parse_X12_blank rfl rfl rfl (by decide +kernel) ⟨(Nat.le_of_ble_eq_true rfl), (Nat.le_of_ble_eq_true rfl)⟩) (x_preV (q := (RX12, TX12, 86)) hH hK (q_obj (by decide) (rfl : kd 36 = 12) (by decide)) rfl gxb (gxw hE hS (x_F hH hS hA))) rfl rfl hl.1 rfl (lv_room (Nat.le_of_ble_eq_true rfl)) dX12_parse_106 ⟨(Nat.le_of_ble_eq_true rfl), (Nat.le_of_ble_eq_true rfl)⟩) hH hS hA rfl rfl (fun r_206 im_208 H locs hw_207 hH hS => ?_)
                    have hH : sj_H D A (hwc g ka im_208 r L d) H := hH
                    obtain ⟨hO_210, hfr_209, hr_211, hx2_212⟩ := hw_207
                    have hr_211 : (1 : Int) ≤ r_206.toInt ∧ r_206.toInt ≤ 1 := hr_211
                    have hu55 : (j1 36 55).toInt = y.toInt + z.toInt := by have h9 := (congrArg Int32.toInt (((hfr_j1 36 55 (by omega)).trans (up2_at _ _ _ _))) : (j1 36 55).toInt = (z_5 : Int32).toInt); omega
                    refine lv_goto (tgt := 117) hx hb dX12_parse_109 (by decide) ?_
                    refine lv_istore (lv' := [(4, .int r_206), (5, .int (i 403 ((j1 36 54).toInt).toNat)), (0, .ref (g 36)), (1, .ref (g 403)), (2, .int y), (3, .int z)]) hx hb dX12_parse_117 hl (by decide) rfl (fun ls hl => ?_)
                    refine lv_goto (tgt := 44) hx hb dX12_parse_119 (by decide) ?_
                    have hp_213 : (im_208 36 45).toInt = ((im_208 36 45) : Int32).toInt := rfl
                    have hp_214 : (im_208 36 49).toInt = ((j1 36 49) : Int32).toInt := congrArg Int32.toInt ((hfr_209 36 49 (by omega)))
                    have hp_215 : (im_208 36 52).toInt = ((j1 36 52) : Int32).toInt := congrArg Int32.toInt ((hfr_209 36 52 (by omega)))
                    have hp_216 : (im_208 36 54).toInt = ((im_208 36 54) : Int32).toInt := rfl
                    have hbl1 := hx2_212.1
                    have hbl2 := hx2_212.2.1
                    exact ih_lp_135 r_206 _ _ _ ls (mz_lt hm (by omega) (by omega) (by omega)) (by omega) (by omega) (Or.inr hx2_212.2.2.2) (pt_bl hi_lp_135_2 (by omega) (by omega) (by omega) (by omega) (by omega) (by omega) hx2_212.2.2.1) hO_210 (fun a b ha => ((hfr_209 a b (by omega)).trans (hfr_j1 a b (by omega)))) (lv_sub hl [0, 2, 3, 4, 5] rfl) hH hS
                · skip
                  have h_217 := s_eq (rfl : (i 403 ((j1 36 54).toInt).toNat).toInt = _) (show (40 : Int32).toInt = 40 from rfl) c_188
                  refine lv_aload_n hx hb dX12_parse_90 rfl (lv_at hl 2 rfl) ?_
                  refine lv_aload_n hx hb dX12_parse_91 rfl (lv_at hl 3 rfl) ?_
                  have hwt_218 : (j1 36 55).toInt = (z_5 : Int32).toInt := congrArg Int32.toInt ((hfr_j1 36 55 (by omega)).trans (up2_at _ _ _ _))
                  refine x_calli (va_runV (As := [.ref (g 403)]) (rest := []) ⟨hx, hb, hml, hown, hts⟩ (m_optional_W l D g ka ad j1 r L d  hO_j1 hR H.size (by first | omega | decide) (by first | omega | decide) (by first | omega | decide) (by first | omega | decide) (by first | omega | decide) hexj) (cwV 1 hts gX12_parse_X12_optional rfl rfl rfl (by decide +kernel) ⟨(Nat.le_of_ble_eq_true rfl), (Nat.le_of_ble_eq_true rfl)⟩) (x_preV (q := (RX12, TX12, 86)) hH hK (q_obj (by decide) (rfl : kd 36 = 12) (by decide)) rfl gxb (gxw hE hS (x_F hH hS hA))) rfl rfl hl.1 rfl (lv_room (Nat.le_of_ble_eq_true rfl)) dX12_parse_92 ⟨(Nat.le_of_ble_eq_true rfl), (Nat.le_of_ble_eq_true rfl)⟩) hH hS hA rfl rfl (fun r_219 im_221 H locs hw_220 hH hS => ?_)
                  have hH : sj_H D A (hwc g ka im_221 r L d) H := hH
                  obtain ⟨hO_223, hfr_222, hr_224, hx2_225⟩ := hw_220
                  have hr_224 : (0 : Int) ≤ r_219.toInt ∧ r_219.toInt ≤ 1 := hr_224
                  have hu55 : (j1 36 55).toInt = y.toInt + z.toInt := by have h9 := (congrArg Int32.toInt (((hfr_j1 36 55 (by omega)).trans (up2_at _ _ _ _))) : (j1 36 55).toInt = (z_5 : Int32).toInt); omega
                  rw [show j1 403 = i 403 from funext fun b9 => ((hfr_j1 403 b9 (by omega)).trans ((up2_o _ _ (by omega)).trans ((up2_o _ _ (by omega)).trans ((up2_o _ _ (by omega)).trans ((up2_o _ _ (by omega)).trans (up2_o _ _ (by omega))))))), show (j1 36 55).toInt = (y.toInt + z.toInt) from hu55] at hx2_225
                  have hbd : r_219.toInt = 0 ∨ ((j1 36 54).toInt + 2 ≤ (im_221 36 54).toInt ∧ (im_221 36 54).toInt ≤ (y.toInt + z.toInt) ∧ (im_221 36 45).toInt = (j1 36 45).toInt + 1 ∧ (im_221 36 49).toInt = (j1 36 49).toInt + 1 ∧ (im_221 36 52).toInt - (j1 36 52).toInt ≤ (im_221 36 54).toInt - (j1 36 54).toInt) := hx2_225.elim (fun q => Or.inr ⟨q.2.2.1, q.2.2.2.1, q.2.2.2.2.1, q.2.2.2.2.2.1, q.2.2.2.2.2.2.1⟩) (fun q => Or.inl q.1)
                  have hexn : exG r_219.toInt im_221 := hx2_225.elim (fun q => Or.inr q.2.2.2.2.2.2.2.2) (fun q => Or.inl q.1)
                  refine lv_goto (tgt := 117) hx hb dX12_parse_95 (by decide) ?_
                  refine lv_istore (lv' := [(4, .int r_219), (5, .int (i 403 ((j1 36 54).toInt).toNat)), (0, .ref (g 36)), (1, .ref (g 403)), (2, .int y), (3, .int z)]) hx hb dX12_parse_117 hl (by decide) rfl (fun ls hl => ?_)
                  refine lv_goto (tgt := 44) hx hb dX12_parse_119 (by decide) ?_
                  have hp_226 : (im_221 36 45).toInt = ((im_221 36 45) : Int32).toInt := rfl
                  have hp_227 : (im_221 36 49).toInt = ((im_221 36 49) : Int32).toInt := rfl
                  have hp_228 : (im_221 36 52).toInt = ((im_221 36 52) : Int32).toInt := rfl
                  have hp_229 : (im_221 36 54).toInt = ((im_221 36 54) : Int32).toInt := rfl
                  exact ih_lp_135 r_219 _ _ _ ls (mz_lt hm (by omega) (by omega) (by omega)) (by omega) (by omega) hexn (pt_op hi_lp_135_2 (by omega) (by omega) (by omega) (by omega) (hx2_225.elim (fun q => Or.inl ⟨q.1, q.2.1, by have := q.2.2.1; omega, q.2.2.2.2.2.2.2.1⟩) Or.inr)) hO_223 (fun a b ha => ((hfr_222 a b (by omega)).trans (hfr_j1 a b (by omega)))) (lv_sub hl [0, 2, 3, 4, 5] rfl) hH hS
              · skip
                have h_230 := s_eq (rfl : (i 403 ((j1 36 54).toInt).toNat).toInt = _) (show (123 : Int32).toInt = 123 from rfl) c_186
                refine lv_aload_n hx hb dX12_parse_75 rfl (lv_at hl 2 rfl) ?_
                refine lv_aload_n hx hb dX12_parse_76 rfl (lv_at hl 3 rfl) ?_
                have hwt_231 : (j1 36 55).toInt = (z_5 : Int32).toInt := congrArg Int32.toInt ((hfr_j1 36 55 (by omega)).trans (up2_at _ _ _ _))
                refine x_calli (va_runV (As := [.ref (g 403)]) (rest := []) ⟨hx, hb, hml, hown, hts⟩ (m_parameter_W l D g ka ad j1 r L d  hO_j1 hR H.size (by first | omega | decide) (by first | omega | decide) (by first | omega | decide) hexj) (cwV 1 hts gX12_parse_X12_parameter rfl rfl rfl (by decide +kernel) ⟨(Nat.le_of_ble_eq_true rfl), (Nat.le_of_ble_eq_true rfl)⟩) (x_preV (q := (RX12, TX12, 86)) hH hK (q_obj (by decide) (rfl : kd 36 = 12) (by decide)) rfl gxb (gxw hE hS (x_F hH hS hA))) rfl rfl hl.1 rfl (lv_room (Nat.le_of_ble_eq_true rfl)) dX12_parse_77 ⟨(Nat.le_of_ble_eq_true rfl), (Nat.le_of_ble_eq_true rfl)⟩) hH hS hA rfl rfl (fun r_232 im_234 H locs hw_233 hH hS => ?_)
                have hH : sj_H D A (hwc g ka im_234 r L d) H := hH
                obtain ⟨hO_236, hfr_235, hr_237, hx2_238⟩ := hw_233
                have hr_237 : (0 : Int) ≤ r_232.toInt ∧ r_232.toInt ≤ 1 := hr_237
                have hu55 : (j1 36 55).toInt = y.toInt + z.toInt := by have h9 := (congrArg Int32.toInt (((hfr_j1 36 55 (by omega)).trans (up2_at _ _ _ _))) : (j1 36 55).toInt = (z_5 : Int32).toInt); omega
                rw [show j1 403 = i 403 from funext fun b9 => ((hfr_j1 403 b9 (by omega)).trans ((up2_o _ _ (by omega)).trans ((up2_o _ _ (by omega)).trans ((up2_o _ _ (by omega)).trans ((up2_o _ _ (by omega)).trans (up2_o _ _ (by omega))))))), show (j1 36 55).toInt = (y.toInt + z.toInt) from hu55] at hx2_238
                have hbd : r_232.toInt = 0 ∨ ((im_234 36 54).toInt = (j1 36 54).toInt + 3 ∧ (im_234 36 54).toInt ≤ (y.toInt + z.toInt) ∧ (im_234 36 45).toInt = (j1 36 45).toInt + 1) := hx2_238.elim (fun q => Or.inr ⟨q.2.2.1, q.2.2.2.1, q.2.2.2.2.1⟩) (fun q => Or.inl q.1)
                have hexn : exG r_232.toInt im_234 := hx2_238.elim (fun q => Or.inr q.2.2.2.2.2.2) (fun q => Or.inl q.1)
                refine lv_goto (tgt := 117) hx hb dX12_parse_80 (by decide) ?_
                refine lv_istore (lv' := [(4, .int r_232), (5, .int (i 403 ((j1 36 54).toInt).toNat)), (0, .ref (g 36)), (1, .ref (g 403)), (2, .int y), (3, .int z)]) hx hb dX12_parse_117 hl (by decide) rfl (fun ls hl => ?_)
                refine lv_goto (tgt := 44) hx hb dX12_parse_119 (by decide) ?_
                have hp_239 : (im_234 36 45).toInt = ((im_234 36 45) : Int32).toInt := rfl
                have hp_240 : (im_234 36 49).toInt = ((j1 36 49) : Int32).toInt := congrArg Int32.toInt ((hfr_235 36 49 (by omega)))
                have hp_241 : (im_234 36 52).toInt = ((j1 36 52) : Int32).toInt := congrArg Int32.toInt ((hfr_235 36 52 (by omega)))
                have hp_242 : (im_234 36 54).toInt = ((im_234 36 54) : Int32).toInt := rfl
                exact ih_lp_135 r_232 _ _ _ ls (mz_lt hm (by omega) (by omega) (by omega)) (by omega) (by omega) hexn (pt_pa hi_lp_135_2 (by omega) (by omega) (by omega) (by omega) (hx2_238.elim (fun q => Or.inl ⟨q.1, q.2.1, by have := q.2.2.1; omega, q.2.2.2.2.2.1⟩) Or.inr)) hO_236 (fun a b ha => ((hfr_235 a b (by omega)).trans (hfr_j1 a b (by omega)))) (lv_sub hl [0, 2, 3, 4, 5] rfl) hH hS
      have hl_243 : (0 : Int32).toInt = 0 := rfl
      have hp_244 : ((up2 (up2 (up2 (up2 (up2 i 36 45 0) 36 49 0) 36 52 0) 36 54 y) 36 55 z_5) 36 45).toInt = (0 : Int32).toInt := congrArg Int32.toInt (((up2_k _ _ (by decide)).trans ((up2_k _ _ (by decide)).trans ((up2_k _ _ (by decide)).trans ((up2_k _ _ (by decide)).trans (up2_at _ _ _ _))))))
      have hl_245 : (0 : Int32).toInt = 0 := rfl
      have hp_246 : ((up2 (up2 (up2 (up2 (up2 i 36 45 0) 36 49 0) 36 52 0) 36 54 y) 36 55 z_5) 36 49).toInt = (0 : Int32).toInt := congrArg Int32.toInt (((up2_k _ _ (by decide)).trans ((up2_k _ _ (by decide)).trans ((up2_k _ _ (by decide)).trans (up2_at _ _ _ _)))))
      have hl_247 : (0 : Int32).toInt = 0 := rfl
      have hp_248 : ((up2 (up2 (up2 (up2 (up2 i 36 45 0) 36 49 0) 36 52 0) 36 54 y) 36 55 z_5) 36 52).toInt = (0 : Int32).toInt := congrArg Int32.toInt (((up2_k _ _ (by decide)).trans ((up2_k _ _ (by decide)).trans (up2_at _ _ _ _))))
      have hl_249 : (0 : Int32).toInt = 0 := rfl
      have hp_250 : ((up2 (up2 (up2 (up2 (up2 i 36 45 0) 36 49 0) 36 52 0) 36 54 y) 36 55 z_5) 36 54).toInt = (y : Int32).toInt := congrArg Int32.toInt (((up2_k _ _ (by decide)).trans (up2_at _ _ _ _)))
      have hp_251 : ((up2 (up2 (up2 (up2 (up2 i 36 45 0) 36 49 0) 36 52 0) 36 54 y) 36 55 z_5) 36 45).toInt = (0 : Int32).toInt := congrArg Int32.toInt (((up2_k _ _ (by decide)).trans ((up2_k _ _ (by decide)).trans ((up2_k _ _ (by decide)).trans ((up2_k _ _ (by decide)).trans (up2_at _ _ _ _))))))
      have hl_252 : (0 : Int32).toInt = 0 := rfl
      have hp_253 : ((up2 (up2 (up2 (up2 (up2 i 36 45 0) 36 49 0) 36 52 0) 36 54 y) 36 55 z_5) 36 49).toInt = (0 : Int32).toInt := congrArg Int32.toInt (((up2_k _ _ (by decide)).trans ((up2_k _ _ (by decide)).trans ((up2_k _ _ (by decide)).trans (up2_at _ _ _ _)))))
      have hl_254 : (0 : Int32).toInt = 0 := rfl
      have hp_255 : ((up2 (up2 (up2 (up2 (up2 i 36 45 0) 36 49 0) 36 52 0) 36 54 y) 36 55 z_5) 36 45).toInt = (0 : Int32).toInt := congrArg Int32.toInt (((up2_k _ _ (by decide)).trans ((up2_k _ _ (by decide)).trans ((up2_k _ _ (by decide)).trans ((up2_k _ _ (by decide)).trans (up2_at _ _ _ _))))))
      have hl_256 : (0 : Int32).toInt = 0 := rfl
      have hp_257 : ((up2 (up2 (up2 (up2 (up2 i 36 45 0) 36 49 0) 36 52 0) 36 54 y) 36 55 z_5) 36 54).toInt = (y : Int32).toInt := congrArg Int32.toInt (((up2_k _ _ (by decide)).trans (up2_at _ _ _ _)))
      have hc40 : c4 (up2 (up2 (up2 (up2 (up2 i 36 45 0) 36 49 0) 36 52 0) 36 54 y) 36 55 z_5) = 0 := by unfold c4; rw [show ((up2 (up2 (up2 (up2 (up2 i 36 45 0) 36 49 0) 36 52 0) 36 54 y) 36 55 z_5) 36 45).toInt.toNat = 0 by omega]; rfl
      exact lp_135 _ 0 _ _ _ ls (Nat.lt_succ_self _) (by omega) (by omega) (Or.inr (exI_0 (by omega) (by omega))) (pt_no (by omega) (by omega) (by omega)) hO_6 (fun a b ha => rfl) (lv_sub hl [0, 1, 2, 3, 4] rfl) hH hS
    · skip
      have h_258 := s_nlt (show (60 : Int32).toInt = 60 from rfl) (rfl : z.toInt = _) c_133
      refine lv_iconst (v := 1) hx hb dX12_parse_37 (by decide) ?_
      refine lv_goto (tgt := 42) hx hb dX12_parse_38 (by decide) ?_
      refine lv_istore (lv' := [(4, .int 1), (0, .ref (g 36)), (1, .ref (g 403)), (2, .int y), (3, .int z)]) hx hb dX12_parse_42 hl (by decide) rfl (fun ls hl => ?_)
      -- loop at 44
      have lp_259 : ∀ (fuel_lp_259 : Nat) (gd : Int32) (j1 : Nat → Nat → Int32) (H : Heap) (locs : List Loc) (ls : Array Slot), (mzr gd.toInt ((y.toInt + z.toInt) - (j1 36 54).toInt)).toNat < fuel_lp_259 → (0 : Int) ≤ gd.toInt ∧ gd.toInt ≤ 1 → gd.toInt = 0 ∨ ((y.toInt ≤ (j1 36 54).toInt ∧ (j1 36 54).toInt ≤ (y.toInt + z.toInt)) ∧ (j1 36 45).toInt ≤ (j1 36 54).toInt - y.toInt ∧ (j1 36 49).toInt ≤ (j1 36 54).toInt - y.toInt ∧ (j1 36 52).toInt ≤ (j1 36 54).toInt - y.toInt) → exG gd.toInt j1 → ptR (i 403) y.toInt (y.toInt + z.toInt) gd.toInt (j1 36 54).toInt (c4 j1) → OkI j1 → (∀ a b, ¬ ((a = 36 ∧ (b = 45 ∨ b = 49 ∨ b = 52 ∨ b = 54)) ∨ a = 406 ∨ a = 407 ∨ a = 408 ∨ a = 409 ∨ a = 410 ∨ a = 411) → j1 a b = (up2 (up2 (up2 (up2 (up2 i 36 45 0) 36 49 0) 36 52 0) 36 54 y) 36 55 z_5) a b) → lv_has ls 7 [(4, .int gd), (0, .ref (g 36)), (1, .ref (g 403)), (2, .int y), (3, .int z)] → sj_H D A (hwc g ka j1 r L d) H → va_S A s.heap H locs → W p l e (headSpec wsX12_parse ({ frames := 2, cells := 0, slots := 0, locals := 46 })).room s m ([.ref (g 36), .ref (g 403), .int y, .int z] : List Value).toArray below meth c H locs 0 0 (MQ below (sj_Qi (S := (Nat → Nat → Int32)) D (fun v u => OkI u ∧ (∀ a b, ¬ ((a = 36 ∧ (b = 45 ∨ b = 49 ∨ b = 52 ∨ b = 54 ∨ b = 55)) ∨ a = 406 ∨ a = 407 ∨ a = 408 ∨ a = 409 ∨ a = 410 ∨ a = 411) → u a b = i a b) ∧ ((0 : Int) ≤ v.toInt ∧ v.toInt ≤ 1) ∧ ((v.toInt = 1 ∧ prOK (lnL (i 403) y.toInt (y.toInt + z.toInt)) ∧ c4 u ≤ 6 ∧ exI u ∧ (u 36 45).toInt ≤ 60) ∨ (v.toInt = 0 ∧ ¬ prOK (lnL (i 403) y.toInt (y.toInt + z.toInt))))) (fun u => hwc g ka u r L d) (fun _ => []) A) ([.ref (g 36), .ref (g 403), .int y, .int z] : List Value).toArray s 0 0 A) (F0 m 44 ls []) := by
        intro fuel_lp_259
        induction fuel_lp_259 with
        | zero => intros; omega
        | succ fuel_lp_259 ih_lp_259 =>
          intro gd j1 H locs ls hm hr_gd hi_lp_259_0 hi_lp_259_1 hi_lp_259_2 hO_j1 hfr_j1 hl hH hS
          have hx45j : (0 : Int) ≤ (j1 36 45).toInt ∧ (j1 36 45).toInt ≤ 64 := hO_j1 36 45
          refine lv_iload hx hb dX12_parse_44 (lv_at hl 0 rfl) ?_
          refine lv_if_eq (tgt := 122) hx hb dX12_parse_46 (by decide) (fun c_260 => ?_) (fun c_260 => ?_)
          · skip
            have h_261 := s_eq (rfl : gd.toInt = _) (show (0 : Int32).toInt = 0 from rfl) c_260
            refine lv_iconst (v := 0) hx hb dX12_parse_122 (by decide) ?_
            refine lv_istore (lv' := [(5, .int 0), (4, .int gd), (0, .ref (g 36)), (1, .ref (g 403)), (2, .int y), (3, .int z)]) hx hb dX12_parse_123 hl (by decide) rfl (fun ls hl => ?_)
            refine lv_iconst (v := 0) hx hb dX12_parse_125 (by decide) ?_
            refine lv_istore (lv' := [(6, .int 0), (5, .int 0), (4, .int gd), (0, .ref (g 36)), (1, .ref (g 403)), (2, .int y), (3, .int z)]) hx hb dX12_parse_126 hl (by decide) rfl (fun ls hl => ?_)
            -- loop at 128
            have lp_262 : ∀ (fuel_lp_262 : Nat) (t : Int32) (f : Int32) (H : Heap) (locs : List Loc) (ls : Array Slot), (64 - f.toInt).toNat < fuel_lp_262 → (0 : Int) ≤ t.toInt ∧ t.toInt ≤ 64 → (0 : Int) ≤ f.toInt ∧ f.toInt ≤ 64 → t.toInt ≤ f.toInt ∧ f.toInt ≤ (j1 36 45).toInt → t.toInt = (cnt (j1 406) 4 f.toInt.toNat : Int) → lv_has ls 7 [(6, .int f), (5, .int t), (4, .int gd), (0, .ref (g 36)), (1, .ref (g 403)), (2, .int y), (3, .int z)] → sj_H D A (hwc g ka j1 r L d) H → va_S A s.heap H locs → W p l e (headSpec wsX12_parse ({ frames := 2, cells := 0, slots := 0, locals := 46 })).room s m ([.ref (g 36), .ref (g 403), .int y, .int z] : List Value).toArray below meth c H locs 0 0 (MQ below (sj_Qi (S := (Nat → Nat → Int32)) D (fun v u => OkI u ∧ (∀ a b, ¬ ((a = 36 ∧ (b = 45 ∨ b = 49 ∨ b = 52 ∨ b = 54 ∨ b = 55)) ∨ a = 406 ∨ a = 407 ∨ a = 408 ∨ a = 409 ∨ a = 410 ∨ a = 411) → u a b = i a b) ∧ ((0 : Int) ≤ v.toInt ∧ v.toInt ≤ 1) ∧ ((v.toInt = 1 ∧ prOK (lnL (i 403) y.toInt (y.toInt + z.toInt)) ∧ c4 u ≤ 6 ∧ exI u ∧ (u 36 45).toInt ≤ 60) ∨ (v.toInt = 0 ∧ ¬ prOK (lnL (i 403) y.toInt (y.toInt + z.toInt))))) (fun u => hwc g ka u r L d) (fun _ => []) A) ([.ref (g 36), .ref (g 403), .int y, .int z] : List Value).toArray s 0 0 A) (F0 m 128 ls []) := by
              intro fuel_lp_262
              induction fuel_lp_262 with
              | zero => intros; omega
              | succ fuel_lp_262 ih_lp_262 =>
                intro t f H locs ls hm hr_t hr_f hi_lp_262_0 hi_lp_262_1 hl hH hS
                refine lv_iload hx hb dX12_parse_128 (lv_at hl 0 rfl) ?_
                refine lv_aload_n hx hb dX12_parse_130 rfl (lv_at hl 3 rfl) ?_
                have bx_263 : (0 : Int) ≤ (j1 36 45).toInt ∧ (j1 36 45).toInt ≤ 64 := hO_j1 36 45
                refine h_geti (ci := 12) (C := RX12) (F := TX12) (N := 86) hx hb hts in12 hown hK hH (by decide) (rfl : kd 36 = 12) (by decide) rfl 45 (by decide) wd0 (fun _ h9 => h9) (by decide) rfl dX12_parse_131 ?_
                refine lv_icmp_ge (tgt := 164) hx hb dX12_parse_134 (by decide) (fun c_264 => ?_) (fun c_264 => ?_)
                · skip
                  have h_265 := s_le (rfl : (j1 36 45).toInt = _) (rfl : f.toInt = _) c_264
                  refine lv_iload hx hb dX12_parse_164 (lv_at hl 2 rfl) ?_
                  refine lv_if_eq (tgt := 180) hx hb dX12_parse_166 (by decide) (fun _ => ?_) (fun h => absurd (p_eq (rfl : gd.toInt = _) (show (0 : Int32).toInt = 0 from rfl) (by omega)) h)
                  refine lv_iconst (v := 0) hx hb dX12_parse_180 (by decide) ?_
                  have hlv_266 : (0 : Int32).toInt = 0 := rfl
                  have hpe := pt_end hi_lp_259_2 (by omega) (fun _ => by omega)
                  have hct : t.toInt = c4 j1 := by unfold c4; rw [show (j1 36 45).toInt.toNat = f.toInt.toNat by omega]; omega
                  have hV_267 : ((0 : Int32).toInt = 1 ∧ prOK (lnL (i 403) y.toInt (y.toInt + z.toInt)) ∧ c4 j1 ≤ 6 ∧ exI j1 ∧ (j1 36 45).toInt ≤ 60) ∨ ((0 : Int32).toInt = 0 ∧ ¬ prOK (lnL (i 403) y.toInt (y.toInt + z.toInt))) := (Or.inr ⟨by omega, hpe.elim (fun q => (q.2.2.resolve_left (fun q8 => by have q7 := q8.1; have q6 := q.1; omega)).2) (fun q => q.2)⟩)
                  exact sj_zret hx hb hr hlocks (by decide +kernel) hS j1 ⟨hO_j1, (fun a b ha => ((hfr_j1 a b (by omega)).trans ((up2_o _ _ (by omega)).trans ((up2_o _ _ (by omega)).trans ((up2_o _ _ (by omega)).trans ((up2_o _ _ (by omega)).trans (up2_o _ _ (by omega)))))))), ⟨by decide, by decide⟩, hV_267⟩ hH (sj_Knil hK) (Nat.le_of_ble_eq_true rfl) (Nat.le_of_ble_eq_true rfl) dX12_parse_181
                · skip
                  have h_268 := s_nle (rfl : (j1 36 45).toInt = _) (rfl : f.toInt = _) c_264
                  refine lv_iload hx hb dX12_parse_137 (lv_at hl 1 rfl) ?_
                  refine lv_aload_n hx hb dX12_parse_139 rfl (lv_at hl 3 rfl) ?_
                  refine h_getr (ci := 12) (C := RX12) (F := TX12) (N := 86) hx hb hts in12 hown hK hH (by decide) (rfl : kd 36 = 12) (by decide) rfl 46 (by decide) wd5 (fun _ h9 => h9) (by decide) rfl (t := 406) (hR 36 46 rfl) (by decide) dX12_parse_140 ?_
                  refine lv_iload hx hb dX12_parse_143 (lv_at hl 0 rfl) ?_
                  have hc_269 := cnt_or (j1 406) 4 f.toInt.toNat
                  refine h_iald hx hb hK hH (by decide) (rfl : kd 406 = 13) (s_vin (N := 64) (rfl : f.toInt = _) (rfl : ln 406 = 64) (by omega) (by omega)) dX12_parse_145 ?_
                  have ek_270 : f.toNatClampNeg = (f.toInt).toNat := (s_cl (show f.toInt = f.toInt by omega))
                  refine sj_i (y := (j1 406 (f.toInt).toNat)) (by rw [ek_270]) ?_
                  refine lv_iconst (v := 4) hx hb dX12_parse_146 (by decide) ?_
                  refine lv_icmp_ne (tgt := 154) hx hb dX12_parse_147 (by decide) (fun c_271 => ?_) (fun c_271 => ?_)
                  · skip
                    have h_272 := s_ne (rfl : (j1 406 (f.toInt).toNat).toInt = _) (show (4 : Int32).toInt = 4 from rfl) c_271
                    refine lv_iconst (v := 0) hx hb dX12_parse_154 (by decide) ?_
                    refine lv_iadd hx hb dX12_parse_155 ?_
                    obtain ⟨z_273, ez_273, hz_273⟩ := s_add (rfl : t.toInt = _) (show (0 : Int32).toInt = 0 from rfl) (by omega) (by omega)
                    refine sj_i ez_273 ?_
                    refine lv_istore (lv' := [(5, .int z_273), (6, .int f), (4, .int gd), (0, .ref (g 36)), (1, .ref (g 403)), (2, .int y), (3, .int z)]) hx hb dX12_parse_156 hl (by decide) rfl (fun ls hl => ?_)
                    obtain ⟨z_274, ez_274, hz_274⟩ := s_add (rfl : f.toInt = _) (show (1 : Int32).toInt = 1 from rfl) (by omega) (by omega)
                    refine lv_iinc (v := z_274) (lv' := [(6, .int z_274), (5, .int z_273), (4, .int gd), (0, .ref (g 36)), (1, .ref (g 403)), (2, .int y), (3, .int z)]) hx hb dX12_parse_158 hl (k := 1) rfl ez_274 (by decide) rfl (fun ls hl => ?_)
                    refine lv_goto (tgt := 128) hx hb dX12_parse_161 (by decide) ?_
                    exact ih_lp_262 z_273 z_274 _ _ ls (by omega) (by omega) (by omega) (by omega) (by rw [show (z_274).toInt.toNat = f.toInt.toNat + 1 by omega]; omega) (lv_sub hl [0, 1, 2, 3, 4, 5, 6] rfl) hH hS
                  · skip
                    have h_275 := s_eq (rfl : (j1 406 (f.toInt).toNat).toInt = _) (show (4 : Int32).toInt = 4 from rfl) c_271
                    refine lv_iconst (v := 1) hx hb dX12_parse_150 (by decide) ?_
                    refine lv_goto (tgt := 155) hx hb dX12_parse_151 (by decide) ?_
                    refine lv_iadd hx hb dX12_parse_155 ?_
                    obtain ⟨z_276, ez_276, hz_276⟩ := s_add (rfl : t.toInt = _) (show (1 : Int32).toInt = 1 from rfl) (by omega) (by omega)
                    refine sj_i ez_276 ?_
                    refine lv_istore (lv' := [(5, .int z_276), (6, .int f), (4, .int gd), (0, .ref (g 36)), (1, .ref (g 403)), (2, .int y), (3, .int z)]) hx hb dX12_parse_156 hl (by decide) rfl (fun ls hl => ?_)
                    obtain ⟨z_277, ez_277, hz_277⟩ := s_add (rfl : f.toInt = _) (show (1 : Int32).toInt = 1 from rfl) (by omega) (by omega)
                    refine lv_iinc (v := z_277) (lv' := [(6, .int z_277), (5, .int z_276), (4, .int gd), (0, .ref (g 36)), (1, .ref (g 403)), (2, .int y), (3, .int z)]) hx hb dX12_parse_158 hl (k := 1) rfl ez_277 (by decide) rfl (fun ls hl => ?_)
                    refine lv_goto (tgt := 128) hx hb dX12_parse_161 (by decide) ?_
                    exact ih_lp_262 z_276 z_277 _ _ ls (by omega) (by omega) (by omega) (by omega) (by rw [show (z_277).toInt.toNat = f.toInt.toNat + 1 by omega]; omega) (lv_sub hl [0, 1, 2, 3, 4, 5, 6] rfl) hH hS
            have hl_278 : (0 : Int32).toInt = 0 := rfl
            have hl_279 : (0 : Int32).toInt = 0 := rfl
            exact lp_262 _ 0 0 _ _ ls (Nat.lt_succ_self _) (by omega) (by omega) (by omega) (by rfl) (lv_sub hl [0, 1, 2, 3, 4, 5, 6] rfl) hH hS
          · skip
            have h_280 := s_ne (rfl : gd.toInt = _) (show (0 : Int32).toInt = 0 from rfl) c_260
            have hexj := hi_lp_259_1.resolve_left (fun q => by omega)
            have hbj := hi_lp_259_0.resolve_left (fun q => by omega)
            have hpt := hi_lp_259_2.resolve_right (fun q => by have := q.1; omega)
            have hpz := hpt.2.1
            refine lv_aload_n hx hb dX12_parse_49 rfl (lv_at hl 1 rfl) ?_
            have bx_281 : (0 : Int) ≤ (j1 36 54).toInt ∧ (j1 36 54).toInt ≤ 720 := hO_j1 36 54
            refine h_geti (ci := 12) (C := RX12) (F := TX12) (N := 86) hx hb hts in12 hown hK hH (by decide) (rfl : kd 36 = 12) (by decide) rfl 54 (by decide) wd3 (fun _ h9 => h9) (by decide) rfl dX12_parse_50 ?_
            refine lv_aload_n hx hb dX12_parse_53 rfl (lv_at hl 1 rfl) ?_
            refine h_geti (ci := 12) (C := RX12) (F := TX12) (N := 86) hx hb hts in12 hown hK hH (by decide) (rfl : kd 36 = 12) (by decide) rfl 55 (by decide) wd4 (fun _ h9 => h9) (by decide) rfl dX12_parse_54 ?_
            refine sj_i (y := z_5) ((hfr_j1 36 55 (by omega)).trans (up2_at _ _ _ _)) ?_
            refine lv_icmp_ge (tgt := 122) hx hb dX12_parse_57 (by decide) (fun c_282 => ?_) (fun c_282 => ?_)
            · skip
              have h_283 := s_le (rfl : z_5.toInt = _) (rfl : (j1 36 54).toInt = _) c_282
              refine lv_iconst (v := 0) hx hb dX12_parse_122 (by decide) ?_
              refine lv_istore (lv' := [(5, .int 0), (4, .int gd), (0, .ref (g 36)), (1, .ref (g 403)), (2, .int y), (3, .int z)]) hx hb dX12_parse_123 hl (by decide) rfl (fun ls hl => ?_)
              refine lv_iconst (v := 0) hx hb dX12_parse_125 (by decide) ?_
              refine lv_istore (lv' := [(6, .int 0), (5, .int 0), (4, .int gd), (0, .ref (g 36)), (1, .ref (g 403)), (2, .int y), (3, .int z)]) hx hb dX12_parse_126 hl (by decide) rfl (fun ls hl => ?_)
              -- loop at 128
              have lp_284 : ∀ (fuel_lp_284 : Nat) (t : Int32) (f : Int32) (H : Heap) (locs : List Loc) (ls : Array Slot), (64 - f.toInt).toNat < fuel_lp_284 → (0 : Int) ≤ t.toInt ∧ t.toInt ≤ 64 → (0 : Int) ≤ f.toInt ∧ f.toInt ≤ 64 → t.toInt ≤ f.toInt ∧ f.toInt ≤ (j1 36 45).toInt → t.toInt = (cnt (j1 406) 4 f.toInt.toNat : Int) → lv_has ls 7 [(6, .int f), (5, .int t), (4, .int gd), (0, .ref (g 36)), (1, .ref (g 403)), (2, .int y), (3, .int z)] → sj_H D A (hwc g ka j1 r L d) H → va_S A s.heap H locs → W p l e (headSpec wsX12_parse ({ frames := 2, cells := 0, slots := 0, locals := 46 })).room s m ([.ref (g 36), .ref (g 403), .int y, .int z] : List Value).toArray below meth c H locs 0 0 (MQ below (sj_Qi (S := (Nat → Nat → Int32)) D (fun v u => OkI u ∧ (∀ a b, ¬ ((a = 36 ∧ (b = 45 ∨ b = 49 ∨ b = 52 ∨ b = 54 ∨ b = 55)) ∨ a = 406 ∨ a = 407 ∨ a = 408 ∨ a = 409 ∨ a = 410 ∨ a = 411) → u a b = i a b) ∧ ((0 : Int) ≤ v.toInt ∧ v.toInt ≤ 1) ∧ ((v.toInt = 1 ∧ prOK (lnL (i 403) y.toInt (y.toInt + z.toInt)) ∧ c4 u ≤ 6 ∧ exI u ∧ (u 36 45).toInt ≤ 60) ∨ (v.toInt = 0 ∧ ¬ prOK (lnL (i 403) y.toInt (y.toInt + z.toInt))))) (fun u => hwc g ka u r L d) (fun _ => []) A) ([.ref (g 36), .ref (g 403), .int y, .int z] : List Value).toArray s 0 0 A) (F0 m 128 ls []) := by
                intro fuel_lp_284
                induction fuel_lp_284 with
                | zero => intros; omega
                | succ fuel_lp_284 ih_lp_284 =>
                  intro t f H locs ls hm hr_t hr_f hi_lp_284_0 hi_lp_284_1 hl hH hS
                  refine lv_iload hx hb dX12_parse_128 (lv_at hl 0 rfl) ?_
                  refine lv_aload_n hx hb dX12_parse_130 rfl (lv_at hl 3 rfl) ?_
                  have bx_285 : (0 : Int) ≤ (j1 36 45).toInt ∧ (j1 36 45).toInt ≤ 64 := hO_j1 36 45
                  refine h_geti (ci := 12) (C := RX12) (F := TX12) (N := 86) hx hb hts in12 hown hK hH (by decide) (rfl : kd 36 = 12) (by decide) rfl 45 (by decide) wd0 (fun _ h9 => h9) (by decide) rfl dX12_parse_131 ?_
                  refine lv_icmp_ge (tgt := 164) hx hb dX12_parse_134 (by decide) (fun c_286 => ?_) (fun c_286 => ?_)
                  · skip
                    have h_287 := s_le (rfl : (j1 36 45).toInt = _) (rfl : f.toInt = _) c_286
                    refine lv_iload hx hb dX12_parse_164 (lv_at hl 2 rfl) ?_
                    refine lv_if_eq (tgt := 180) hx hb dX12_parse_166 (by decide) (fun h => absurd h (p_ne (rfl : gd.toInt = _) (show (0 : Int32).toInt = 0 from rfl) (by omega))) (fun _ => ?_)
                    refine lv_iload hx hb dX12_parse_169 (lv_at hl 1 rfl) ?_
                    refine lv_bipush (v := 6) hx hb dX12_parse_171 (by decide) ?_
                    refine lv_icmp_gt (tgt := 180) hx hb dX12_parse_173 (by decide) (fun c_288 => ?_) (fun c_288 => ?_)
                    · skip
                      have h_289 := s_lt (show (6 : Int32).toInt = 6 from rfl) (rfl : t.toInt = _) c_288
                      refine lv_iconst (v := 0) hx hb dX12_parse_180 (by decide) ?_
                      have hlv_290 : (0 : Int32).toInt = 0 := rfl
                      have hpe := pt_end hi_lp_259_2 (by omega) (fun _ => by omega)
                      have hct : t.toInt = c4 j1 := by unfold c4; rw [show (j1 36 45).toInt.toNat = f.toInt.toNat by omega]; omega
                      have hV_291 : ((0 : Int32).toInt = 1 ∧ prOK (lnL (i 403) y.toInt (y.toInt + z.toInt)) ∧ c4 j1 ≤ 6 ∧ exI j1 ∧ (j1 36 45).toInt ≤ 60) ∨ ((0 : Int32).toInt = 0 ∧ ¬ prOK (lnL (i 403) y.toInt (y.toInt + z.toInt))) := (Or.inr ⟨by omega, hpe.elim (fun q => (q.2.2.resolve_left (fun q8 => by have q7 := q8.1; have q6 := q.1; omega)).2) (fun q => q.2)⟩)
                      exact sj_zret hx hb hr hlocks (by decide +kernel) hS j1 ⟨hO_j1, (fun a b ha => ((hfr_j1 a b (by omega)).trans ((up2_o _ _ (by omega)).trans ((up2_o _ _ (by omega)).trans ((up2_o _ _ (by omega)).trans ((up2_o _ _ (by omega)).trans (up2_o _ _ (by omega)))))))), ⟨by decide, by decide⟩, hV_291⟩ hH (sj_Knil hK) (Nat.le_of_ble_eq_true rfl) (Nat.le_of_ble_eq_true rfl) dX12_parse_181
                    · skip
                      have h_292 := s_nlt (show (6 : Int32).toInt = 6 from rfl) (rfl : t.toInt = _) c_288
                      refine lv_iconst (v := 1) hx hb dX12_parse_176 (by decide) ?_
                      refine lv_goto (tgt := 181) hx hb dX12_parse_177 (by decide) ?_
                      have hlv_293 : (1 : Int32).toInt = 1 := rfl
                      have hpe := pt_end hi_lp_259_2 (by omega) (fun _ => by omega)
                      have hct : t.toInt = c4 j1 := by unfold c4; rw [show (j1 36 45).toInt.toNat = f.toInt.toNat by omega]; omega
                      have hV_294 : ((1 : Int32).toInt = 1 ∧ prOK (lnL (i 403) y.toInt (y.toInt + z.toInt)) ∧ c4 j1 ≤ 6 ∧ exI j1 ∧ (j1 36 45).toInt ≤ 60) ∨ ((1 : Int32).toInt = 0 ∧ ¬ prOK (lnL (i 403) y.toInt (y.toInt + z.toInt))) := (Or.inl ⟨by omega, ((hpe.resolve_right (fun q => by have := q.1; omega)).2.2.resolve_right (fun q => by have := q.1; omega)).2, by omega, hi_lp_259_1.resolve_left (fun q => by omega), by have := hi_lp_259_0.resolve_left (fun q => by omega); have := (hpe.resolve_right (fun q => by have := q.1; omega)).2.1; omega⟩)
                      exact sj_zret hx hb hr hlocks (by decide +kernel) hS j1 ⟨hO_j1, (fun a b ha => ((hfr_j1 a b (by omega)).trans ((up2_o _ _ (by omega)).trans ((up2_o _ _ (by omega)).trans ((up2_o _ _ (by omega)).trans ((up2_o _ _ (by omega)).trans (up2_o _ _ (by omega)))))))), ⟨by decide, by decide⟩, hV_294⟩ hH (sj_Knil hK) (Nat.le_of_ble_eq_true rfl) (Nat.le_of_ble_eq_true rfl) dX12_parse_181
                  · skip
                    have h_295 := s_nle (rfl : (j1 36 45).toInt = _) (rfl : f.toInt = _) c_286
                    refine lv_iload hx hb dX12_parse_137 (lv_at hl 1 rfl) ?_
                    refine lv_aload_n hx hb dX12_parse_139 rfl (lv_at hl 3 rfl) ?_
                    refine h_getr (ci := 12) (C := RX12) (F := TX12) (N := 86) hx hb hts in12 hown hK hH (by decide) (rfl : kd 36 = 12) (by decide) rfl 46 (by decide) wd5 (fun _ h9 => h9) (by decide) rfl (t := 406) (hR 36 46 rfl) (by decide) dX12_parse_140 ?_
                    refine lv_iload hx hb dX12_parse_143 (lv_at hl 0 rfl) ?_
                    have hc_296 := cnt_or (j1 406) 4 f.toInt.toNat
                    refine h_iald hx hb hK hH (by decide) (rfl : kd 406 = 13) (s_vin (N := 64) (rfl : f.toInt = _) (rfl : ln 406 = 64) (by omega) (by omega)) dX12_parse_145 ?_
                    have ek_297 : f.toNatClampNeg = (f.toInt).toNat := (s_cl (show f.toInt = f.toInt by omega))
                    refine sj_i (y := (j1 406 (f.toInt).toNat)) (by rw [ek_297]) ?_
                    refine lv_iconst (v := 4) hx hb dX12_parse_146 (by decide) ?_
                    refine lv_icmp_ne (tgt := 154) hx hb dX12_parse_147 (by decide) (fun c_298 => ?_) (fun c_298 => ?_)
                    · skip
                      have h_299 := s_ne (rfl : (j1 406 (f.toInt).toNat).toInt = _) (show (4 : Int32).toInt = 4 from rfl) c_298
                      refine lv_iconst (v := 0) hx hb dX12_parse_154 (by decide) ?_
                      refine lv_iadd hx hb dX12_parse_155 ?_
                      obtain ⟨z_300, ez_300, hz_300⟩ := s_add (rfl : t.toInt = _) (show (0 : Int32).toInt = 0 from rfl) (by omega) (by omega)
                      refine sj_i ez_300 ?_
                      refine lv_istore (lv' := [(5, .int z_300), (6, .int f), (4, .int gd), (0, .ref (g 36)), (1, .ref (g 403)), (2, .int y), (3, .int z)]) hx hb dX12_parse_156 hl (by decide) rfl (fun ls hl => ?_)
                      obtain ⟨z_301, ez_301, hz_301⟩ := s_add (rfl : f.toInt = _) (show (1 : Int32).toInt = 1 from rfl) (by omega) (by omega)
                      refine lv_iinc (v := z_301) (lv' := [(6, .int z_301), (5, .int z_300), (4, .int gd), (0, .ref (g 36)), (1, .ref (g 403)), (2, .int y), (3, .int z)]) hx hb dX12_parse_158 hl (k := 1) rfl ez_301 (by decide) rfl (fun ls hl => ?_)
                      refine lv_goto (tgt := 128) hx hb dX12_parse_161 (by decide) ?_
                      exact ih_lp_284 z_300 z_301 _ _ ls (by omega) (by omega) (by omega) (by omega) (by rw [show (z_301).toInt.toNat = f.toInt.toNat + 1 by omega]; omega) (lv_sub hl [0, 1, 2, 3, 4, 5, 6] rfl) hH hS
                    · skip
                      have h_302 := s_eq (rfl : (j1 406 (f.toInt).toNat).toInt = _) (show (4 : Int32).toInt = 4 from rfl) c_298
                      refine lv_iconst (v := 1) hx hb dX12_parse_150 (by decide) ?_
                      refine lv_goto (tgt := 155) hx hb dX12_parse_151 (by decide) ?_
                      refine lv_iadd hx hb dX12_parse_155 ?_
                      obtain ⟨z_303, ez_303, hz_303⟩ := s_add (rfl : t.toInt = _) (show (1 : Int32).toInt = 1 from rfl) (by omega) (by omega)
                      refine sj_i ez_303 ?_
                      refine lv_istore (lv' := [(5, .int z_303), (6, .int f), (4, .int gd), (0, .ref (g 36)), (1, .ref (g 403)), (2, .int y), (3, .int z)]) hx hb dX12_parse_156 hl (by decide) rfl (fun ls hl => ?_)
                      obtain ⟨z_304, ez_304, hz_304⟩ := s_add (rfl : f.toInt = _) (show (1 : Int32).toInt = 1 from rfl) (by omega) (by omega)
                      refine lv_iinc (v := z_304) (lv' := [(6, .int z_304), (5, .int z_303), (4, .int gd), (0, .ref (g 36)), (1, .ref (g 403)), (2, .int y), (3, .int z)]) hx hb dX12_parse_158 hl (k := 1) rfl ez_304 (by decide) rfl (fun ls hl => ?_)
                      refine lv_goto (tgt := 128) hx hb dX12_parse_161 (by decide) ?_
                      exact ih_lp_284 z_303 z_304 _ _ ls (by omega) (by omega) (by omega) (by omega) (by rw [show (z_304).toInt.toNat = f.toInt.toNat + 1 by omega]; omega) (lv_sub hl [0, 1, 2, 3, 4, 5, 6] rfl) hH hS
              have hl_305 : (0 : Int32).toInt = 0 := rfl
              have hl_306 : (0 : Int32).toInt = 0 := rfl
              exact lp_284 _ 0 0 _ _ ls (Nat.lt_succ_self _) (by omega) (by omega) (by omega) (by rfl) (lv_sub hl [0, 1, 2, 3, 4, 5, 6] rfl) hH hS
            · skip
              have h_307 := s_nle (rfl : z_5.toInt = _) (rfl : (j1 36 54).toInt = _) c_282
              refine lv_aload_n hx hb dX12_parse_60 rfl (lv_at hl 2 rfl) ?_
              refine lv_aload_n hx hb dX12_parse_61 rfl (lv_at hl 1 rfl) ?_
              refine h_geti (ci := 12) (C := RX12) (F := TX12) (N := 86) hx hb hts in12 hown hK hH (by decide) (rfl : kd 36 = 12) (by decide) rfl 54 (by decide) wd3 (fun _ h9 => h9) (by decide) rfl dX12_parse_62 ?_
              have bx_308 : (0 : Int) ≤ (i 403 ((j1 36 54).toInt).toNat).toInt ∧ (i 403 ((j1 36 54).toInt).toNat).toInt ≤ 65535 := hO 403 ((j1 36 54).toInt).toNat
              refine h_cald hx hb hK hH (by decide) (rfl : kd 403 = 14) (s_vin (N := 720) (rfl : (j1 36 54).toInt = _) (rfl : ln 403 = 720) (by omega) (by omega)) dX12_parse_65 ?_
              have ek_309 : (j1 36 54).toNatClampNeg = ((j1 36 54).toInt).toNat := (s_cl (show (j1 36 54).toInt = (j1 36 54).toInt by omega))
              refine sj_i (y := (i 403 ((j1 36 54).toInt).toNat)) (by rw [ek_309]; exact ((hfr_j1 403 ((j1 36 54).toInt).toNat (by omega)).trans ((congrFun (up2_n _ _ (by decide)) _).trans ((congrFun (up2_n _ _ (by decide)) _).trans ((congrFun (up2_n _ _ (by decide)) _).trans ((congrFun (up2_n _ _ (by decide)) _).trans (congrFun (up2_n _ _ (by decide)) _))))))) ?_
              refine lv_istore (lv' := [(5, .int (i 403 ((j1 36 54).toInt).toNat)), (4, .int gd), (0, .ref (g 36)), (1, .ref (g 403)), (2, .int y), (3, .int z)]) hx hb dX12_parse_66 hl (by decide) rfl (fun ls hl => ?_)
              refine lv_iload hx hb dX12_parse_68 (lv_at hl 0 rfl) ?_
              refine lv_bipush (v := 123) hx hb dX12_parse_70 (by decide) ?_
              refine lv_icmp_ne (tgt := 83) hx hb dX12_parse_72 (by decide) (fun c_310 => ?_) (fun c_310 => ?_)
              · skip
                have h_311 := s_ne (rfl : (i 403 ((j1 36 54).toInt).toNat).toInt = _) (show (123 : Int32).toInt = 123 from rfl) c_310
                refine lv_iload hx hb dX12_parse_83 (lv_at hl 0 rfl) ?_
                refine lv_bipush (v := 40) hx hb dX12_parse_85 (by decide) ?_
                refine lv_icmp_ne (tgt := 98) hx hb dX12_parse_87 (by decide) (fun c_312 => ?_) (fun c_312 => ?_)
                · skip
                  have h_313 := s_ne (rfl : (i 403 ((j1 36 54).toInt).toNat).toInt = _) (show (40 : Int32).toInt = 40 from rfl) c_312
                  refine lv_iload hx hb dX12_parse_98 (lv_at hl 0 rfl) ?_
                  refine lv_bipush (v := 32) hx hb dX12_parse_100 (by decide) ?_
                  refine lv_icmp_ne (tgt := 112) hx hb dX12_parse_102 (by decide) (fun c_314 => ?_) (fun c_314 => ?_)
                  · skip
                    have h_315 := s_ne (rfl : (i 403 ((j1 36 54).toInt).toNat).toInt = _) (show (32 : Int32).toInt = 32 from rfl) c_314
                    refine lv_aload_n hx hb dX12_parse_112 rfl (lv_at hl 2 rfl) ?_
                    refine lv_aload_n hx hb dX12_parse_113 rfl (lv_at hl 3 rfl) ?_
                    have hwt_316 : (j1 36 55).toInt = (z_5 : Int32).toInt := congrArg Int32.toInt ((hfr_j1 36 55 (by omega)).trans (up2_at _ _ _ _))
                    refine x_calli (va_runV (As := [.ref (g 403)]) (rest := []) ⟨hx, hb, hml, hown, hts⟩ (m_word_W l D g ka ad j1 r L d  hO_j1 hR H.size (by first | omega | decide) (by first | omega | decide) (by first | omega | decide) (by first | omega | decide) (by first | omega | decide) hexj) (cwV 1 hts gX12_parse_X12_word rfl rfl rfl (by decide +kernel) ⟨(Nat.le_of_ble_eq_true rfl), (Nat.le_of_ble_eq_true rfl)⟩) (x_preV (q := (RX12, TX12, 86)) hH hK (q_obj (by decide) (rfl : kd 36 = 12) (by decide)) rfl gxb (gxw hE hS (x_F hH hS hA))) rfl rfl hl.1 rfl (lv_room (Nat.le_of_ble_eq_true rfl)) dX12_parse_114 ⟨(Nat.le_of_ble_eq_true rfl), (Nat.le_of_ble_eq_true rfl)⟩) hH hS hA rfl rfl (fun r_317 im_319 H locs hw_318 hH hS => ?_)
                    have hH : sj_H D A (hwc g ka im_319 r L d) H := hH
                    obtain ⟨hO_321, hfr_320, hr_322, hx2_323⟩ := hw_318
                    have hr_322 : (0 : Int) ≤ r_317.toInt ∧ r_317.toInt ≤ 1 := hr_322
                    have hu55 : (j1 36 55).toInt = y.toInt + z.toInt := by have h9 := (congrArg Int32.toInt (((hfr_j1 36 55 (by omega)).trans (up2_at _ _ _ _))) : (j1 36 55).toInt = (z_5 : Int32).toInt); omega
                    rw [show j1 403 = i 403 from funext fun b9 => ((hfr_j1 403 b9 (by omega)).trans ((up2_o _ _ (by omega)).trans ((up2_o _ _ (by omega)).trans ((up2_o _ _ (by omega)).trans ((up2_o _ _ (by omega)).trans (up2_o _ _ (by omega))))))), show (j1 36 55).toInt = (y.toInt + z.toInt) from hu55] at hx2_323
                    have hbd : r_317.toInt = 0 ∨ ((j1 36 54).toInt + 1 ≤ (im_319 36 54).toInt ∧ (im_319 36 54).toInt ≤ (y.toInt + z.toInt) ∧ (im_319 36 45).toInt - (j1 36 45).toInt ≤ (im_319 36 54).toInt - (j1 36 54).toInt ∧ (im_319 36 49).toInt - (j1 36 49).toInt ≤ (im_319 36 54).toInt - (j1 36 54).toInt ∧ (im_319 36 52).toInt - (j1 36 52).toInt ≤ (im_319 36 54).toInt - (j1 36 54).toInt) := hx2_323.elim (fun q => Or.inr ⟨q.2.2.1, q.2.2.2.1, q.2.2.2.2.1, q.2.2.2.2.2.1, q.2.2.2.2.2.2.1⟩) (fun q => Or.inl q.1)
                    have hexn : exG r_317.toInt im_319 := hx2_323.elim (fun q => Or.inr q.2.2.2.2.2.2.2.2) (fun q => Or.inl q.1)
                    refine lv_istore (lv' := [(4, .int r_317), (5, .int (i 403 ((j1 36 54).toInt).toNat)), (0, .ref (g 36)), (1, .ref (g 403)), (2, .int y), (3, .int z)]) hx hb dX12_parse_117 hl (by decide) rfl (fun ls hl => ?_)
                    refine lv_goto (tgt := 44) hx hb dX12_parse_119 (by decide) ?_
                    have hp_324 : (im_319 36 45).toInt = ((im_319 36 45) : Int32).toInt := rfl
                    have hp_325 : (im_319 36 49).toInt = ((im_319 36 49) : Int32).toInt := rfl
                    have hp_326 : (im_319 36 52).toInt = ((im_319 36 52) : Int32).toInt := rfl
                    have hp_327 : (im_319 36 54).toInt = ((im_319 36 54) : Int32).toInt := rfl
                    exact ih_lp_259 r_317 _ _ _ ls (mz_lt hm (by omega) (by omega) (by omega)) (by omega) (by omega) hexn (pt_wd hi_lp_259_2 (by omega) (by omega) (by omega) (by omega) (by omega) (by omega) (hx2_323.elim (fun q => Or.inl ⟨q.1, q.2.1, q.2.2.1, q.2.2.2.2.2.2.2.1⟩) Or.inr)) hO_321 (fun a b ha => ((hfr_320 a b (by omega)).trans (hfr_j1 a b (by omega)))) (lv_sub hl [0, 2, 3, 4, 5] rfl) hH hS
                  · skip
                    have h_328 := s_eq (rfl : (i 403 ((j1 36 54).toInt).toNat).toInt = _) (show (32 : Int32).toInt = 32 from rfl) c_314
                    refine lv_aload_n hx hb dX12_parse_105 rfl (lv_at hl 2 rfl) ?_
                    have hwt_329 : (j1 36 55).toInt = (z_5 : Int32).toInt := congrArg Int32.toInt ((hfr_j1 36 55 (by omega)).trans (up2_at _ _ _ _))
                    refine x_calli (va_runV (As := []) (rest := []) ⟨hx, hb, hml, hown, hts⟩ (m_blank l D g ka ad j1 r L d  hO_j1 hR H.size (by first | omega | decide) (by first | omega | decide) hexj) (cwV 0 hts gX12_parse_X12_blank rfl rfl rfl (by decide +kernel) ⟨(Nat.le_of_ble_eq_true rfl), (Nat.le_of_ble_eq_true rfl)⟩) (x_preV (q := (RX12, TX12, 86)) hH hK (q_obj (by decide) (rfl : kd 36 = 12) (by decide)) rfl gxb (gxw hE hS (x_F hH hS hA))) rfl rfl hl.1 rfl (lv_room (Nat.le_of_ble_eq_true rfl)) dX12_parse_106 ⟨(Nat.le_of_ble_eq_true rfl), (Nat.le_of_ble_eq_true rfl)⟩) hH hS hA rfl rfl (fun r_330 im_332 H locs hw_331 hH hS => ?_)
                    have hH : sj_H D A (hwc g ka im_332 r L d) H := hH
                    obtain ⟨hO_334, hfr_333, hr_335, hx2_336⟩ := hw_331
                    have hr_335 : (1 : Int) ≤ r_330.toInt ∧ r_330.toInt ≤ 1 := hr_335
                    have hu55 : (j1 36 55).toInt = y.toInt + z.toInt := by have h9 := (congrArg Int32.toInt (((hfr_j1 36 55 (by omega)).trans (up2_at _ _ _ _))) : (j1 36 55).toInt = (z_5 : Int32).toInt); omega
                    refine lv_goto (tgt := 117) hx hb dX12_parse_109 (by decide) ?_
                    refine lv_istore (lv' := [(4, .int r_330), (5, .int (i 403 ((j1 36 54).toInt).toNat)), (0, .ref (g 36)), (1, .ref (g 403)), (2, .int y), (3, .int z)]) hx hb dX12_parse_117 hl (by decide) rfl (fun ls hl => ?_)
                    refine lv_goto (tgt := 44) hx hb dX12_parse_119 (by decide) ?_
                    have hp_337 : (im_332 36 45).toInt = ((im_332 36 45) : Int32).toInt := rfl
                    have hp_338 : (im_332 36 49).toInt = ((j1 36 49) : Int32).toInt := congrArg Int32.toInt ((hfr_333 36 49 (by omega)))
                    have hp_339 : (im_332 36 52).toInt = ((j1 36 52) : Int32).toInt := congrArg Int32.toInt ((hfr_333 36 52 (by omega)))
                    have hp_340 : (im_332 36 54).toInt = ((im_332 36 54) : Int32).toInt := rfl
                    have hbl1 := hx2_336.1
                    have hbl2 := hx2_336.2.1
                    exact ih_lp_259 r_330 _ _ _ ls (mz_lt hm (by omega) (by omega) (by omega)) (by omega) (by omega) (Or.inr hx2_336.2.2.2) (pt_bl hi_lp_259_2 (by omega) (by omega) (by omega) (by omega) (by omega) (by omega) hx2_336.2.2.1) hO_334 (fun a b ha => ((hfr_333 a b (by omega)).trans (hfr_j1 a b (by omega)))) (lv_sub hl [0, 2, 3, 4, 5] rfl) hH hS
                · skip
                  have h_341 := s_eq (rfl : (i 403 ((j1 36 54).toInt).toNat).toInt = _) (show (40 : Int32).toInt = 40 from rfl) c_312
                  refine lv_aload_n hx hb dX12_parse_90 rfl (lv_at hl 2 rfl) ?_
                  refine lv_aload_n hx hb dX12_parse_91 rfl (lv_at hl 3 rfl) ?_
                  have hwt_342 : (j1 36 55).toInt = (z_5 : Int32).toInt := congrArg Int32.toInt ((hfr_j1 36 55 (by omega)).trans (up2_at _ _ _ _))
                  refine x_calli (va_runV (As := [.ref (g 403)]) (rest := []) ⟨hx, hb, hml, hown, hts⟩ (m_optional_W l D g ka ad j1 r L d  hO_j1 hR H.size (by first | omega | decide) (by first | omega | decide) (by first | omega | decide) (by first | omega | decide) (by first | omega | decide) hexj) (cwV 1 hts gX12_parse_X12_optional rfl rfl rfl (by decide +kernel) ⟨(Nat.le_of_ble_eq_true rfl), (Nat.le_of_ble_eq_true rfl)⟩) (x_preV (q := (RX12, TX12, 86)) hH hK (q_obj (by decide) (rfl : kd 36 = 12) (by decide)) rfl gxb (gxw hE hS (x_F hH hS hA))) rfl rfl hl.1 rfl (lv_room (Nat.le_of_ble_eq_true rfl)) dX12_parse_92 ⟨(Nat.le_of_ble_eq_true rfl), (Nat.le_of_ble_eq_true rfl)⟩) hH hS hA rfl rfl (fun r_343 im_345 H locs hw_344 hH hS => ?_)
                  have hH : sj_H D A (hwc g ka im_345 r L d) H := hH
                  obtain ⟨hO_347, hfr_346, hr_348, hx2_349⟩ := hw_344
                  have hr_348 : (0 : Int) ≤ r_343.toInt ∧ r_343.toInt ≤ 1 := hr_348
                  have hu55 : (j1 36 55).toInt = y.toInt + z.toInt := by have h9 := (congrArg Int32.toInt (((hfr_j1 36 55 (by omega)).trans (up2_at _ _ _ _))) : (j1 36 55).toInt = (z_5 : Int32).toInt); omega
                  rw [show j1 403 = i 403 from funext fun b9 => ((hfr_j1 403 b9 (by omega)).trans ((up2_o _ _ (by omega)).trans ((up2_o _ _ (by omega)).trans ((up2_o _ _ (by omega)).trans ((up2_o _ _ (by omega)).trans (up2_o _ _ (by omega))))))), show (j1 36 55).toInt = (y.toInt + z.toInt) from hu55] at hx2_349
                  have hbd : r_343.toInt = 0 ∨ ((j1 36 54).toInt + 2 ≤ (im_345 36 54).toInt ∧ (im_345 36 54).toInt ≤ (y.toInt + z.toInt) ∧ (im_345 36 45).toInt = (j1 36 45).toInt + 1 ∧ (im_345 36 49).toInt = (j1 36 49).toInt + 1 ∧ (im_345 36 52).toInt - (j1 36 52).toInt ≤ (im_345 36 54).toInt - (j1 36 54).toInt) := hx2_349.elim (fun q => Or.inr ⟨q.2.2.1, q.2.2.2.1, q.2.2.2.2.1, q.2.2.2.2.2.1, q.2.2.2.2.2.2.1⟩) (fun q => Or.inl q.1)
                  have hexn : exG r_343.toInt im_345 := hx2_349.elim (fun q => Or.inr q.2.2.2.2.2.2.2.2) (fun q => Or.inl q.1)
                  refine lv_goto (tgt := 117) hx hb dX12_parse_95 (by decide) ?_
                  refine lv_istore (lv' := [(4, .int r_343), (5, .int (i 403 ((j1 36 54).toInt).toNat)), (0, .ref (g 36)), (1, .ref (g 403)), (2, .int y), (3, .int z)]) hx hb dX12_parse_117 hl (by decide) rfl (fun ls hl => ?_)
                  refine lv_goto (tgt := 44) hx hb dX12_parse_119 (by decide) ?_
                  have hp_350 : (im_345 36 45).toInt = ((im_345 36 45) : Int32).toInt := rfl
                  have hp_351 : (im_345 36 49).toInt = ((im_345 36 49) : Int32).toInt := rfl
                  have hp_352 : (im_345 36 52).toInt = ((im_345 36 52) : Int32).toInt := rfl
                  have hp_353 : (im_345 36 54).toInt = ((im_345 36 54) : Int32).toInt := rfl
                  exact ih_lp_259 r_343 _ _ _ ls (mz_lt hm (by omega) (by omega) (by omega)) (by omega) (by omega) hexn (pt_op hi_lp_259_2 (by omega) (by omega) (by omega) (by omega) (hx2_349.elim (fun q => Or.inl ⟨q.1, q.2.1, by have := q.2.2.1; omega, q.2.2.2.2.2.2.2.1⟩) Or.inr)) hO_347 (fun a b ha => ((hfr_346 a b (by omega)).trans (hfr_j1 a b (by omega)))) (lv_sub hl [0, 2, 3, 4, 5] rfl) hH hS
              · skip
                have h_354 := s_eq (rfl : (i 403 ((j1 36 54).toInt).toNat).toInt = _) (show (123 : Int32).toInt = 123 from rfl) c_310
                refine lv_aload_n hx hb dX12_parse_75 rfl (lv_at hl 2 rfl) ?_
                refine lv_aload_n hx hb dX12_parse_76 rfl (lv_at hl 3 rfl) ?_
                have hwt_355 : (j1 36 55).toInt = (z_5 : Int32).toInt := congrArg Int32.toInt ((hfr_j1 36 55 (by omega)).trans (up2_at _ _ _ _))
                refine x_calli (va_runV (As := [.ref (g 403)]) (rest := []) ⟨hx, hb, hml, hown, hts⟩ (m_parameter_W l D g ka ad j1 r L d  hO_j1 hR H.size (by first | omega | decide) (by first | omega | decide) (by first | omega | decide) hexj) (cwV 1 hts gX12_parse_X12_parameter rfl rfl rfl (by decide +kernel) ⟨(Nat.le_of_ble_eq_true rfl), (Nat.le_of_ble_eq_true rfl)⟩) (x_preV (q := (RX12, TX12, 86)) hH hK (q_obj (by decide) (rfl : kd 36 = 12) (by decide)) rfl gxb (gxw hE hS (x_F hH hS hA))) rfl rfl hl.1 rfl (lv_room (Nat.le_of_ble_eq_true rfl)) dX12_parse_77 ⟨(Nat.le_of_ble_eq_true rfl), (Nat.le_of_ble_eq_true rfl)⟩) hH hS hA rfl rfl (fun r_356 im_358 H locs hw_357 hH hS => ?_)
                have hH : sj_H D A (hwc g ka im_358 r L d) H := hH
                obtain ⟨hO_360, hfr_359, hr_361, hx2_362⟩ := hw_357
                have hr_361 : (0 : Int) ≤ r_356.toInt ∧ r_356.toInt ≤ 1 := hr_361
                have hu55 : (j1 36 55).toInt = y.toInt + z.toInt := by have h9 := (congrArg Int32.toInt (((hfr_j1 36 55 (by omega)).trans (up2_at _ _ _ _))) : (j1 36 55).toInt = (z_5 : Int32).toInt); omega
                rw [show j1 403 = i 403 from funext fun b9 => ((hfr_j1 403 b9 (by omega)).trans ((up2_o _ _ (by omega)).trans ((up2_o _ _ (by omega)).trans ((up2_o _ _ (by omega)).trans ((up2_o _ _ (by omega)).trans (up2_o _ _ (by omega))))))), show (j1 36 55).toInt = (y.toInt + z.toInt) from hu55] at hx2_362
                have hbd : r_356.toInt = 0 ∨ ((im_358 36 54).toInt = (j1 36 54).toInt + 3 ∧ (im_358 36 54).toInt ≤ (y.toInt + z.toInt) ∧ (im_358 36 45).toInt = (j1 36 45).toInt + 1) := hx2_362.elim (fun q => Or.inr ⟨q.2.2.1, q.2.2.2.1, q.2.2.2.2.1⟩) (fun q => Or.inl q.1)
                have hexn : exG r_356.toInt im_358 := hx2_362.elim (fun q => Or.inr q.2.2.2.2.2.2) (fun q => Or.inl q.1)
                refine lv_goto (tgt := 117) hx hb dX12_parse_80 (by decide) ?_
                refine lv_istore (lv' := [(4, .int r_356), (5, .int (i 403 ((j1 36 54).toInt).toNat)), (0, .ref (g 36)), (1, .ref (g 403)), (2, .int y), (3, .int z)]) hx hb dX12_parse_117 hl (by decide) rfl (fun ls hl => ?_)
                refine lv_goto (tgt := 44) hx hb dX12_parse_119 (by decide) ?_
                have hp_363 : (im_358 36 45).toInt = ((im_358 36 45) : Int32).toInt := rfl
                have hp_364 : (im_358 36 49).toInt = ((j1 36 49) : Int32).toInt := congrArg Int32.toInt ((hfr_359 36 49 (by omega)))
                have hp_365 : (im_358 36 52).toInt = ((j1 36 52) : Int32).toInt := congrArg Int32.toInt ((hfr_359 36 52 (by omega)))
                have hp_366 : (im_358 36 54).toInt = ((im_358 36 54) : Int32).toInt := rfl
                exact ih_lp_259 r_356 _ _ _ ls (mz_lt hm (by omega) (by omega) (by omega)) (by omega) (by omega) hexn (pt_pa hi_lp_259_2 (by omega) (by omega) (by omega) (by omega) (hx2_362.elim (fun q => Or.inl ⟨q.1, q.2.1, by have := q.2.2.1; omega, q.2.2.2.2.2.1⟩) Or.inr)) hO_360 (fun a b ha => ((hfr_359 a b (by omega)).trans (hfr_j1 a b (by omega)))) (lv_sub hl [0, 2, 3, 4, 5] rfl) hH hS
      have hl_367 : (1 : Int32).toInt = 1 := rfl
      have hp_368 : ((up2 (up2 (up2 (up2 (up2 i 36 45 0) 36 49 0) 36 52 0) 36 54 y) 36 55 z_5) 36 45).toInt = (0 : Int32).toInt := congrArg Int32.toInt (((up2_k _ _ (by decide)).trans ((up2_k _ _ (by decide)).trans ((up2_k _ _ (by decide)).trans ((up2_k _ _ (by decide)).trans (up2_at _ _ _ _))))))
      have hl_369 : (0 : Int32).toInt = 0 := rfl
      have hp_370 : ((up2 (up2 (up2 (up2 (up2 i 36 45 0) 36 49 0) 36 52 0) 36 54 y) 36 55 z_5) 36 49).toInt = (0 : Int32).toInt := congrArg Int32.toInt (((up2_k _ _ (by decide)).trans ((up2_k _ _ (by decide)).trans ((up2_k _ _ (by decide)).trans (up2_at _ _ _ _)))))
      have hl_371 : (0 : Int32).toInt = 0 := rfl
      have hp_372 : ((up2 (up2 (up2 (up2 (up2 i 36 45 0) 36 49 0) 36 52 0) 36 54 y) 36 55 z_5) 36 52).toInt = (0 : Int32).toInt := congrArg Int32.toInt (((up2_k _ _ (by decide)).trans ((up2_k _ _ (by decide)).trans (up2_at _ _ _ _))))
      have hl_373 : (0 : Int32).toInt = 0 := rfl
      have hp_374 : ((up2 (up2 (up2 (up2 (up2 i 36 45 0) 36 49 0) 36 52 0) 36 54 y) 36 55 z_5) 36 54).toInt = (y : Int32).toInt := congrArg Int32.toInt (((up2_k _ _ (by decide)).trans (up2_at _ _ _ _)))
      have hp_375 : ((up2 (up2 (up2 (up2 (up2 i 36 45 0) 36 49 0) 36 52 0) 36 54 y) 36 55 z_5) 36 45).toInt = (0 : Int32).toInt := congrArg Int32.toInt (((up2_k _ _ (by decide)).trans ((up2_k _ _ (by decide)).trans ((up2_k _ _ (by decide)).trans ((up2_k _ _ (by decide)).trans (up2_at _ _ _ _))))))
      have hl_376 : (0 : Int32).toInt = 0 := rfl
      have hp_377 : ((up2 (up2 (up2 (up2 (up2 i 36 45 0) 36 49 0) 36 52 0) 36 54 y) 36 55 z_5) 36 49).toInt = (0 : Int32).toInt := congrArg Int32.toInt (((up2_k _ _ (by decide)).trans ((up2_k _ _ (by decide)).trans ((up2_k _ _ (by decide)).trans (up2_at _ _ _ _)))))
      have hl_378 : (0 : Int32).toInt = 0 := rfl
      have hp_379 : ((up2 (up2 (up2 (up2 (up2 i 36 45 0) 36 49 0) 36 52 0) 36 54 y) 36 55 z_5) 36 45).toInt = (0 : Int32).toInt := congrArg Int32.toInt (((up2_k _ _ (by decide)).trans ((up2_k _ _ (by decide)).trans ((up2_k _ _ (by decide)).trans ((up2_k _ _ (by decide)).trans (up2_at _ _ _ _))))))
      have hl_380 : (0 : Int32).toInt = 0 := rfl
      have hp_381 : ((up2 (up2 (up2 (up2 (up2 i 36 45 0) 36 49 0) 36 52 0) 36 54 y) 36 55 z_5) 36 54).toInt = (y : Int32).toInt := congrArg Int32.toInt (((up2_k _ _ (by decide)).trans (up2_at _ _ _ _)))
      have hc40 : c4 (up2 (up2 (up2 (up2 (up2 i 36 45 0) 36 49 0) 36 52 0) 36 54 y) 36 55 z_5) = 0 := by unfold c4; rw [show ((up2 (up2 (up2 (up2 (up2 i 36 45 0) 36 49 0) 36 52 0) 36 54 y) 36 55 z_5) 36 45).toInt.toNat = 0 by omega]; rfl
      exact lp_259 _ 1 _ _ _ ls (Nat.lt_succ_self _) (by omega) (by omega) (Or.inr (exI_0 (by omega) (by omega))) (pt_0 (by omega) (by omega) hc40 (by omega)) hO_6 (fun a b ha => rfl) (lv_sub hl [0, 1, 2, 3, 4] rfl) hH hS
