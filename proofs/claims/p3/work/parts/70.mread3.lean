section MR6
variable {m m' c c' : Nat → Nat → Int32} {o t o' t' : Nat} {ln k wd e : Int}
theorem MRQ_h34 (hO : OkI c) (q : QI c o t) (hc : cmW (c 3 16).toInt (c 3 15).toInt k) (hr : roomQ c k) (h : MRQ m c t) (g : hdQ c o t c' o' t' ln k) (hm : hdM m m' k) (hk : k = 3 ∨ k = 4) : MRQ m' c' t' := by
  obtain ⟨o1, o2, t1, t2⟩ := q.1
  have b6 := (rd_bx hO).1
  obtain ⟨S, W, N, O, T, G, C, U, E, F, R, L, X⟩ := h
  obtain ⟨s1, s2, s3, s4, s5, s6, s7⟩ := S
  -- the part that begins
  obtain ⟨z16, p, ep, ht, b1, b3, h15, e6, hs3, hf⟩ : (c' 3 16).toInt = 0 ∧ ∃ p : Nat, (p : Int) = 37 + (m 36 11).toInt ∧ t' = t ∧ (c' p 1).toInt = (c 3 16).toInt ∧ (c' p 3).toInt = 0 ∧ ((k = 3 ∧ (c' 3 15).toInt = 1) ∨ (k = 4 ∧ (c' 3 15).toInt = 8)) ∧ (c' 3 6).toInt = (m 36 11).toInt ∧ sm3 c c' [6, 15, 16] ∧ ∀ a : Nat, a ≠ 3 → a ≠ p → c' a = c a := by
    obtain ⟨z16, g⟩ := g
    refine ⟨z16, ?_⟩
    rcases g with ⟨hk3, ho, ht, ⟨_, p1, p2, p3, p8⟩, _, h15, hs3, hf⟩ | ⟨hk4, ho, ht, h6, ⟨_, p1, p2, p3, p8⟩, _, h15, hs3, hf⟩ | ⟨hk9, _⟩ | ⟨hk9, _⟩ | ⟨hk9, _⟩
    · have hs := (cm_st hc).2.2.1 hk3
      have z6 := (q.2.2.2.2.2.2.1 hs).1
      have h11 : (m 36 11).toInt = 0 := by unfold mqN at N; omega
      refine ⟨37, by omega, ht, p1, p3, Or.inl ⟨hk3, h15⟩, ?_, fun b hb => hs3 b (fun h9 => hb (by simp at h9 ⊢; omega)), hf⟩
      rw [sm3_t hs3 6 (by decide)]; omega
    · have hs := (cm_st hc).2.2.2.2.2.1 (Or.inl hk4)
      have h11 : (m 36 11).toInt = (c 3 6).toInt + 1 := by unfold mqN at N; omega
      exact ⟨_, by omega, ht, p1, p3, Or.inr ⟨hk4, h15⟩, by omega, fun b hb => hs3 b (fun h9 => hb (by simp at h9 ⊢; omega)), hf⟩
    · omega
    · omega
    · omega
  rcases hm with ⟨m8, m9, m10, ma, mc, m11, g36, gar⟩ | ⟨h9, _⟩ | ⟨h9, _⟩ | ⟨h9, _⟩
  · subst ht
    have b11 : 0 ≤ (m 36 11).toInt ∧ (m 36 11).toInt ≤ 4 := by
      have hr4 := hr.2.2.2.2
      have hs := (cm_st hc).2.2.1
      unfold mqN at N
      rcases hk with hk | hk
      · have := hs hk; clear hr4 hs m8 h15; omega
      · have := hr4 hk; clear hr4 hs m8 h15; omega
    have f3 : ∀ b : Nat, b ≠ 6 → b ≠ 15 → b ≠ 16 → c' 3 b = c 3 b := fun b h1 h2 h3 => hs3 b (by simp; omega)
    have f42 : ∀ s : Nat, c' (42 + s) = c (42 + s) := fun s => hf _ (by clear m8 h15 hk; omega) (by clear m8 h15 hk; omega)
    have f84 : ∀ s : Nat, c' (84 + s) = c (84 + s) := fun s => hf _ (by clear m8 h15 hk; omega) (by clear m8 h15 hk; omega)
    have f96 : ∀ s : Nat, c' (96 + 3 * s) = c (96 + 3 * s) := fun s => hf _ (by clear m8 h15 hk; omega) (by clear m8 h15 hk; omega)
    have ar : ∀ a : Nat, 379 ≤ a → a ≠ 382 → m' a = m a := fun a h1 h2 => gar a (by clear m8 h15 hk; omega) (by simp; clear m8 h15 hk; omega)
    have g18 := g36 18 (by decide)
    have g27 := g36 27 (by decide)
    have g17 := g36 17 (by decide)
    have cs : ∀ w : Int, cstep m' w = cstep m w := cstep_eq (ar 386 (by decide) (by decide)) g17
    have ep2 : p = 37 + (m 36 11).toInt.toNat := by clear m8 h15 hk; omega
    refine ⟨⟨?_, ?_, ?_, ?_, ?_, ?_, ?_⟩, Or.inl ⟨z16, m10⟩, ?_, ?_, ?_, ?_, ?_, ?_, ?_, ?_, ?_, ?_, ?_⟩
    · rw [g36 6 (by decide), f3 4 (by decide) (by decide) (by decide)]; exact s1
    · omega
    · omega
    · rw [g36 13 (by decide), f3 8 (by decide) (by decide) (by decide)]; exact s4
    · rw [g17, f3 10 (by decide) (by decide) (by decide)]; exact s5
    · rw [g36 23 (by decide), f3 12 (by decide) (by decide) (by decide)]; exact s6
    · rw [g36 26 (by decide), f3 14 (by decide) (by decide) (by decide)]; exact s7
    · exact Or.inr ⟨by omega, by omega⟩
    · exact ⟨fun z => by exfalso; clear m8 hk; omega, fun z1 z2 => by exfalso; clear m8 hk; omega⟩
    · exact ⟨fun z => by exfalso; clear m8 hk; omega, fun z1 => by exfalso; clear m8 hk; omega⟩
    · intro gg hg
      by_cases hgn : gg = (m 36 11).toInt.toNat
      · subst hgn
        rw [ma, cs, ← ep2]
        refine ⟨by omega, ?_⟩
        rw [b3]
        unfold cstep
        rw [cnt_none _ (fun k9 hk9 => ?_)]; rfl
        have U9 := U k9 (by clear m8 h15 hk; omega)
        have G0 : ∀ s : Nat, (s : Int) < (c 3 8).toInt → (s : Int) < 20 := fun s hs9 => by have := (rd_bx hO).2.1; clear m8 h15 hk U9; omega
        have := (rd_bx hO).2.1
        clear m8 h15 hk; omega
      · rw [mc gg hgn, cs, hf (37 + gg) (by clear m8 h15 hk; omega) (by clear m8 h15 hk; omega)]
        exact G gg (by clear m8 h15 hk; omega)
    · intro s hsx
      rw [f3 8 (by decide) (by decide) (by decide)] at hsx
      have C9 := C s hsx
      rw [f42, cs, ar 383 (by decide) (by decide), ar 385 (by decide) (by decide), f3 12 (by decide) (by decide) (by decide)]
      refine ⟨C9.1, C9.2.1, C9.2.2.1, ?_, C9.2.2.2.2⟩
      have := C9.2.2.2.1
      omega
    · intro k9 hk9
      rw [f3 10 (by decide) (by decide) (by decide)] at hk9
      rw [f3 8 (by decide) (by decide) (by decide), ar 386 (by decide) (by decide)]
      have U9 := U k9 hk9
      clear m8 h15 hk; omega
    · unfold mqE at E ⊢
      simp only [f3 12 (by decide) (by decide) (by decide), f3 8 (by decide) (by decide) (by decide), f42, f84, ar 390 (by decide) (by decide), ar 391 (by decide) (by decide)]; exact E
    · unfold mqF at F ⊢
      simp only [f3 12 (by decide) (by decide) (by decide), f3 14 (by decide) (by decide) (by decide), f84, ar 392 (by decide) (by decide)]; exact F
    · unfold mqR at R ⊢
      simp only [f3 14 (by decide) (by decide) (by decide), f3 10 (by decide) (by decide) (by decide), f3 12 (by decide) (by decide) (by decide), f96, ar 392 (by decide) (by decide), ar 394 (by decide) (by decide)]; exact R
    · intro hz; exfalso; clear m8 hk; omega
    · unfold mqX at X ⊢
      rw [f3 4 (by decide) (by decide) (by decide), ar 381 (by decide) (by decide), hf 6 (by decide) (by clear m8 h15 hk; omega), hf 7 (by decide) (by clear m8 h15 hk; omega)]; exact X
  · omega
  · omega
  · omega
theorem MRQ_h5 (hO : OkI c) (q : QI c o t) (hc : cmW (c 3 16).toInt (c 3 15).toInt 5) (h : MRQ m c t) (g : hdQ c o t c' o' t' ln 5) (hm : hdM m m' 5) : MRQ m' c' t' := by
  obtain ⟨o1, o2, t1, t2⟩ := q.1
  have b6 := (rd_bx hO).1
  have hs := (cm_st hc).2.2.2.1 rfl
  have hw := (cm_st hc).2.2.2.2.2.2 (by omega)
  obtain ⟨S, W, N, O, T, G, C, U, E, F, R, L, X⟩ := h
  obtain ⟨s1, s2, s3, s4, s5, s6, s7⟩ := S
  obtain ⟨z16, g⟩ := g
  rcases g with ⟨hk9, _⟩ | ⟨hk9, _⟩ | ⟨_, ho, ht, p2, pb, h15, hs3, hf⟩ | ⟨hk9, _⟩ | ⟨hk9, _⟩
  · omega
  · omega
  · rcases hm with ⟨h9, _⟩ | ⟨_, m18, m8, g36, gar⟩ | ⟨h9, _⟩ | ⟨h9, _⟩
    · omega
    · subst ht
      have h11 : (m 36 11).toInt = (c 3 6).toInt + 1 := by unfold mqN at N; omega
      have h10 : (m 36 10).toInt = 0 := by unfold mqW at W; clear hs; omega
      have f3 : ∀ b : Nat, b ≠ 15 → b ≠ 16 → c' 3 b = c 3 b := fun b h1 h2 => hs3 b (by simp; omega)
      have f42 : ∀ s : Nat, c' (42 + s) = c (42 + s) := fun s => hf _ (by clear hs; omega) (by clear hs; omega)
      have f84 : ∀ s : Nat, c' (84 + s) = c (84 + s) := fun s => hf _ (by clear hs; omega) (by clear hs; omega)
      have f96 : ∀ s : Nat, c' (96 + 3 * s) = c (96 + 3 * s) := fun s => hf _ (by clear hs; omega) (by clear hs; omega)
      have f37 : ∀ s b : Nat, s < 5 → b ≠ 2 → c' (37 + s) b = c (37 + s) b := fun s b h9 h8 => by
        by_cases h7 : 37 + s = 37 + (c 3 6).toInt.toNat
        · rw [h7]; exact pb b h8
        · rw [hf _ (by clear hs; omega) h7]
      have ar : ∀ a : Nat, 379 ≤ a → m' a = m a := fun a h1 => gar a (by clear hs; omega) (by simp)
      have g27 := g36 27 (by decide)
      have g17 := g36 17 (by decide)
      have g11 := g36 11 (by decide)
      have g10 := g36 10 (by decide)
      have cs : ∀ w : Int, cstep m' w = cstep m w := cstep_eq (ar 386 (by decide)) g17
      refine ⟨⟨?_, ?_, ?_, ?_, ?_, ?_, ?_⟩, Or.inl ⟨z16, by rw [g10]; exact h10⟩, ?_, ?_, ?_, ?_, ?_, ?_, ?_, ?_, ?_, ?_, ?_⟩
      · rw [g36 6 (by decide), f3 4 (by decide) (by decide)]; exact s1
      · omega
      · rw [g36 9 (by decide)]; omega
      · rw [g36 13 (by decide), f3 8 (by decide) (by decide)]; exact s4
      · rw [g17, f3 10 (by decide) (by decide)]; exact s5
      · rw [g36 23 (by decide), f3 12 (by decide) (by decide)]; exact s6
      · rw [g36 26 (by decide), f3 14 (by decide) (by decide)]; exact s7
      · refine Or.inr ⟨by omega, ?_⟩
        rw [g11, f3 6 (by decide) (by decide)]; exact h11
      · refine ⟨fun z => ?_, fun z1 z2 => by exfalso; omega⟩
        rw [f3 6 (by decide) (by decide)]; omega
      · exact ⟨fun z => by exfalso; omega, fun z1 => by exfalso; omega⟩
      · intro gg hg
        rw [g11] at hg
        rw [ar 382 (by decide), cs, f37 gg 1 (by clear hs; omega) (by decide), f37 gg 3 (by clear hs; omega) (by decide)]
        exact G gg hg
      · unfold mqC at C ⊢
        simp only [f42, f3 8 (by decide) (by decide), f3 12 (by decide) (by decide), g11, cs, ar 383 (by decide), ar 385 (by decide)]; exact C
      · unfold mqU at U ⊢
        simp only [f3 10 (by decide) (by decide), f3 8 (by decide) (by decide), g11, ar 386 (by decide)]; exact U
      · unfold mqE at E ⊢
        simp only [f3 12 (by decide) (by decide), f3 8 (by decide) (by decide), f42, f84, ar 390 (by decide), ar 391 (by decide)]; exact E
      · unfold mqF at F ⊢
        simp only [f3 12 (by decide) (by decide), f3 14 (by decide) (by decide), f84, ar 392 (by decide)]; exact F
      · unfold mqR at R ⊢
        simp only [f3 14 (by decide) (by decide), f3 10 (by decide) (by decide), f3 12 (by decide) (by decide), f96, ar 392 (by decide), ar 394 (by decide)]; exact R
      · intro hz; exfalso; omega
      · unfold mqX at X ⊢
        rw [f3 4 (by decide) (by decide), ar 381 (by decide), hf 6 (by decide) (by clear hs; omega), hf 7 (by decide) (by clear hs; omega)]; exact X
    · omega
    · omega
  · omega
  · omega
theorem MRQ_h6 (hO : OkI c) (q : QI c o t) (hc : cmW (c 3 16).toInt (c 3 15).toInt 6) (hr : roomQ c 6) (h : MRQ m c t) (g : hdQ c o t c' o' t' ln 6) (hm : hdM m m' 6) : MRQ m' c' t' := by
  obtain ⟨o1, o2, t1, t2⟩ := q.1
  have b6 := (rd_bx hO).1
  have b8 := (rd_bx hO).2.1
  have hs := (cm_st hc).2.2.2.2.2.1 (by omega)
  have hr6 := hr.1 rfl
  obtain ⟨S, W, N, O, T, G, C, U, E, F, R, L, X⟩ := h
  obtain ⟨s1, s2, s3, s4, s5, s6, s7⟩ := S
  obtain ⟨z16, g⟩ := g
  rcases g with ⟨hk9, _⟩ | ⟨hk9, _⟩ | ⟨hk9, _⟩ | ⟨_, ho, ht, h8, ⟨_, p1, p2, p3, p8⟩, _, p6, p7, h15, hs3, hf⟩ | ⟨hk9, _⟩
  · omega
  · omega
  · omega
  · rcases hm with ⟨h9, _⟩ | ⟨h9, _⟩ | ⟨_, m9, m10, ma, mb, mc, m18, m13, m8, g36, gar⟩ | ⟨h9, _⟩
    · omega
    · omega
    · subst ht
      have h11 : (m 36 11).toInt = (c 3 6).toInt + 1 := by unfold mqN at N; omega
      rw [s4] at ma mb mc
      have f3 : ∀ b : Nat, b ≠ 8 → b ≠ 15 → b ≠ 16 → c' 3 b = c 3 b := fun b h1 h2 h3 => hs3 b (by simp; omega)
      have f42 : ∀ s : Nat, s ≠ (c 3 8).toInt.toNat → c' (42 + s) = c (42 + s) := fun s h9 => hf _ (by omega) (by omega)
      have f84 : ∀ s : Nat, c' (84 + s) = c (84 + s) := fun s => hf _ (by omega) (by omega)
      have f96 : ∀ s : Nat, c' (96 + 3 * s) = c (96 + 3 * s) := fun s => hf _ (by omega) (by omega)
      have f37 : ∀ s : Nat, s < 5 → c' (37 + s) = c (37 + s) := fun s h9 => hf _ (by omega) (by omega)
      have ar : ∀ a : Nat, 379 ≤ a → (a < 383 ∨ 385 < a) → m' a = m a := fun a h1 h2 => gar a (by omega) (by simp; omega)
      have g27 := g36 27 (by decide)
      have g17 := g36 17 (by decide)
      have g11 := g36 11 (by decide)
      have cs : ∀ w : Int, cstep m' w = cstep m w := cstep_eq (ar 386 (by decide) (by decide)) g17
      refine ⟨⟨?_, ?_, ?_, ?_, ?_, ?_, ?_⟩, Or.inl ⟨z16, m10⟩, ?_, ?_, ?_, ?_, ?_, ?_, ?_, ?_, ?_, ?_, ?_⟩
      · rw [g36 6 (by decide), f3 4 (by decide) (by decide) (by decide)]; exact s1
      · omega
      · omega
      · omega
      · rw [g17, f3 10 (by decide) (by decide) (by decide)]; exact s5
      · rw [g36 23 (by decide), f3 12 (by decide) (by decide) (by decide)]; exact s6
      · rw [g36 26 (by decide), f3 14 (by decide) (by decide) (by decide)]; exact s7
      · refine Or.inr ⟨by omega, ?_⟩
        rw [g11, f3 6 (by decide) (by decide) (by decide)]; exact h11
      · exact ⟨fun z => by exfalso; omega, fun z1 z2 => by omega⟩
      · exact ⟨fun z => by exfalso; omega, fun z1 => by exfalso; omega⟩
      · intro gg hg
        rw [g11] at hg
        rw [ar 382 (by decide) (by decide), cs, f37 gg (by omega)]
        exact G gg hg
      · intro s hsx
        rw [cs, g11, f3 12 (by decide) (by decide) (by decide)]
        by_cases hsn : s = (c 3 8).toInt.toNat
        · subst hsn
          rw [ma, mb]
          refine ⟨by omega, by omega, ?_, by omega, by omega⟩
          rw [p3]
          unfold cstep
          rw [cnt_none _ (fun k9 hk9 => ?_)]; rfl
          have U9 := U k9 (by omega)
          omega
        · rw [(mc s hsn).1, (mc s hsn).2, f42 s hsn]
          exact C s (by omega)
      · intro k9 hk9
        rw [f3 10 (by decide) (by decide) (by decide)] at hk9
        rw [g11, ar 386 (by decide) (by decide)]
        have U9 := U k9 hk9
        omega
      · intro e9 he
        rw [f3 12 (by decide) (by decide) (by decide)] at he
        rw [f84, ar 390 (by decide) (by decide), ar 391 (by decide) (by decide)]
        have E9 := E e9 he
        have E8 := E9.2.1
        refine ⟨E9.1, by omega, fun s hsx => ?_⟩
        by_cases hsn : s = (c 3 8).toInt.toNat
        · subst hsn
          rw [p7]; refine ⟨fun h9 => ?_, fun h9 => ?_⟩ <;> (exfalso; omega)
        · rw [f42 s hsn]; exact E9.2.2 s (by omega)
      · unfold mqF at F ⊢
        simp only [f3 12 (by decide) (by decide) (by decide), f3 14 (by decide) (by decide) (by decide), f84, ar 392 (by decide) (by decide)]; exact F
      · unfold mqR at R ⊢
        simp only [f3 14 (by decide) (by decide) (by decide), f3 10 (by decide) (by decide) (by decide), f3 12 (by decide) (by decide) (by decide), f96, ar 392 (by decide) (by decide), ar 394 (by decide) (by decide)]; exact R
      · intro hz; exfalso; omega
      · unfold mqX at X ⊢
        rw [f3 4 (by decide) (by decide) (by decide), ar 381 (by decide) (by decide), hf 6 (by decide) (by omega), hf 7 (by decide) (by omega)]; exact X
    · omega
  · omega
theorem MRQ_h7 (hO : OkI c) (q : QI c o t) (hc : cmW (c 3 16).toInt (c 3 15).toInt 7) (hr : roomQ c 7) (h : MRQ m c t) (g : hdQ c o t c' o' t' ln 7) (hm : hdM m m' 7) : MRQ m' c' t' := by
  obtain ⟨o1, o2, t1, t2⟩ := q.1
  have b6 := (rd_bx hO).1
  have b8 := (rd_bx hO).2.1
  have b12 := (rd_bx hO).2.2.2.1
  have b10 := (rd_bx hO).2.2.1
  have b14 := (rd_bx hO).2.2.2.2.1
  have hs := (cm_st hc).2.2.2.2.1 rfl
  have hr7 := hr.2.2.2.1 rfl
  have g2 := q.2.2.1 (by omega) (by omega)
  have bo8 : 0 ≤ (c o 8).toInt := by
    have hb := hO o 8
    rw [bx_part (by clear hs; omega) (by clear hs; omega) 8] at hb
    exact hb.1
  obtain ⟨S, W, N, O, T, G, C, U, E, F, R, L, X⟩ := h
  obtain ⟨s1, s2, s3, s4, s5, s6, s7⟩ := S
  obtain ⟨z16, g⟩ := g
  rcases g with ⟨hk9, _⟩ | ⟨hk9, _⟩ | ⟨hk9, _⟩ | ⟨hk9, _⟩ | ⟨_, ho, ht, h12, ⟨_, p1, p2, p3, p8⟩, _, oo8, oo, h15, hs3, hf⟩
  · omega
  · omega
  · omega
  · omega
  · rcases hm with ⟨h9, _⟩ | ⟨h9, _⟩ | ⟨h9, _⟩ | ⟨_, m9, m10, ma, mb, mc, m27, m23, m8, g36, gar⟩
    · omega
    · omega
    · omega
    · subst ho
      have O2 := O.2 (by omega) (by omega)
      have h11 : (m 36 11).toInt = (c 3 6).toInt + 1 := by unfold mqN at N; omega
      rw [s6] at ma mb mc
      have f3 : ∀ b : Nat, b ≠ 12 → b ≠ 15 → b ≠ 16 → c' 3 b = c 3 b := fun b h1 h2 h3 => hs3 b (by simp; omega)
      have f42 : ∀ s b : Nat, s < 12 → b ≠ 8 → c' (42 + s) b = c (42 + s) b := fun s b h9 h8 => by
        by_cases h7 : 42 + s = o'
        · rw [h7]; exact oo b h8
        · rw [hf _ (by clear hs; omega) (by clear hs; omega) h7]
      have f84 : ∀ s : Nat, s ≠ (c 3 12).toInt.toNat → c' (84 + s) = c (84 + s) := fun s h9 => hf _ (by clear hs; omega) (by clear hs; omega) (by clear hs; omega)
      have f96 : ∀ s : Nat, c' (96 + 3 * s) = c (96 + 3 * s) := fun s => hf _ (by clear hs; omega) (by clear hs; omega) (by clear hs; omega)
      have f37 : ∀ s : Nat, s < 5 → c' (37 + s) = c (37 + s) := fun s h9 => hf _ (by clear hs; omega) (by clear hs; omega) (by clear hs; omega)
      have ar : ∀ a : Nat, 379 ≤ a → (a < 390 ∨ 391 < a) → m' a = m a := fun a h1 h2 => gar a (by clear hs; omega) (by simp; clear hs; omega)
      have g18 := g36 18 (by decide)
      have g17 := g36 17 (by decide)
      have g11 := g36 11 (by decide)
      have cs : ∀ w : Int, cstep m' w = cstep m w := cstep_eq (ar 386 (by decide) (by decide)) g17
      clear hs
      refine ⟨⟨?_, ?_, ?_, ?_, ?_, ?_, ?_⟩, Or.inl ⟨z16, m10⟩, ?_, ?_, ?_, ?_, ?_, ?_, ?_, ?_, ?_, ?_, ?_⟩
      · rw [g36 6 (by decide), f3 4 (by decide) (by decide) (by decide)]; exact s1
      · omega
      · omega
      · rw [g36 13 (by decide), f3 8 (by decide) (by decide) (by decide)]; exact s4
      · rw [g17, f3 10 (by decide) (by decide) (by decide)]; exact s5
      · omega
      · rw [g36 26 (by decide), f3 14 (by decide) (by decide) (by decide)]; exact s7
      · refine Or.inr ⟨by omega, ?_⟩
        rw [g11, f3 6 (by decide) (by decide) (by decide)]; exact h11
      · refine ⟨fun z => by exfalso; omega, fun z1 z2 => ?_⟩
        rw [g18, f3 8 (by decide) (by decide) (by decide)]; exact O2
      · exact ⟨fun z => by exfalso; omega, fun z1 => by omega⟩
      · intro gg hg
        rw [g11] at hg
        rw [ar 382 (by decide) (by decide), cs, f37 gg (by omega)]
        exact G gg hg
      · intro s hsx
        rw [f3 8 (by decide) (by decide) (by decide)] at hsx
        have C9 := C s hsx
        have hs12 : s < 12 := by omega
        rw [cs, g11, f42 s 1 hs12 (by decide), f42 s 6 hs12 (by decide), f42 s 7 hs12 (by decide), f42 s 3 hs12 (by decide), ar 383 (by decide) (by decide), ar 385 (by decide) (by decide)]
        refine ⟨C9.1, C9.2.1, C9.2.2.1, C9.2.2.2.1, ?_⟩
        have C8 := C9.2.2.2.2
        by_cases h7 : 42 + s = o'
        · rw [h7, oo8, ← h7]; rw [h7] at C8 ⊢; omega
        · rw [hf _ (by omega) (by omega) h7]; omega
      · unfold mqU at U ⊢
        simp only [f3 10 (by decide) (by decide) (by decide), f3 8 (by decide) (by decide) (by decide), g11, ar 386 (by decide) (by decide)]; exact U
      · intro e9 he
        rw [f3 8 (by decide) (by decide) (by decide)]
        by_cases hen : e9 = (c 3 12).toInt.toNat
        · subst hen
          rw [ma, mb, p1]
          refine ⟨s3, by omega, fun s hsx => ?_⟩
          have C9 := (C s hsx).2.2.2.2
          rw [f42 s 7 (by omega) (by decide)]
          by_cases h7 : 42 + s = o'
          · rw [h7, oo8]; refine ⟨fun h9 => ?_, fun h9 => ?_⟩ <;> omega
          · rw [hf _ (by omega) (by omega) h7]; refine ⟨fun h9 => ?_, fun h9 => ?_⟩ <;> (exfalso; omega)
        · have E9 := E e9 (by omega)
          rw [f84 e9 hen, (mc e9 hen).1, (mc e9 hen).2]
          refine ⟨E9.1, E9.2.1, fun s hsx => ?_⟩
          have E8 := E9.2.2 s hsx
          rw [f42 s 7 (by clear E8; omega) (by decide)]
          by_cases h7 : 42 + s = o'
          · rw [h7] at E8 ⊢; rw [oo8, E8]; refine ⟨fun h9 => ?_, fun h9 => ?_⟩ <;> (clear E8; omega)
          · rw [hf _ (by clear E8; omega) (by clear E8; omega) h7]; exact E8
      · intro e9 he
        rw [f3 14 (by decide) (by decide) (by decide), ar 392 (by decide) (by decide)]
        by_cases hen : e9 = (c 3 12).toInt.toNat
        · subst hen
          rw [p2, p3]
          refine ⟨by omega, fun k9 hk9 => ?_⟩
          have R9 := (R k9 hk9).2.1
          refine ⟨fun h9 => ?_, fun h9 => ?_⟩ <;> (exfalso; omega)
        · rw [f84 e9 hen]; exact F e9 (by omega)
      · intro k9 hk9
        rw [f3 14 (by decide) (by decide) (by decide)] at hk9
        have R9 := R k9 hk9
        rw [f3 10 (by decide) (by decide) (by decide), f96, ar 392 (by decide) (by decide), ar 394 (by decide) (by decide)]
        refine ⟨R9.1, ?_, R9.2.2⟩
        have := R9.2.1
        omega
      · intro hz; exfalso; omega
      · unfold mqX at X ⊢
        rw [f3 4 (by decide) (by decide) (by decide), ar 381 (by decide) (by decide), hf 6 (by decide) (by omega) (by omega), hf 7 (by decide) (by omega) (by omega)]; exact X
theorem MRQ_hd (hO : OkI c) (q : QI c o t) (hc : cmW (c 3 16).toInt (c 3 15).toInt k) (hr : roomQ c k) (h : MRQ m c t) (g : hdQ c o t c' o' t' ln k) (hm : hdM m m' k) : MRQ m' c' t' := by
  have hg := g.2
  by_cases h5 : k = 5
  · subst h5; exact MRQ_h5 hO q hc h g hm
  · by_cases h6 : k = 6
    · subst h6; exact MRQ_h6 hO q hc hr h g hm
    · by_cases h7 : k = 7
      · subst h7; exact MRQ_h7 hO q hc hr h g hm
      · refine MRQ_h34 hO q hc hr h g hm ?_
        rcases hg with ⟨h9, _⟩ | ⟨h9, _⟩ | ⟨h9, _⟩ | ⟨h9, _⟩ | ⟨h9, _⟩ <;> omega
end MR6
