section MR5
variable {m m' c c' : Nat → Nat → Int32} {o t o' t' : Nat} {ln k wd e : Int}
theorem MRQ_rw (hO : OkI c) (q : QI c o t) (hc : cmW (c 3 16).toInt (c 3 15).toInt 2) (h : MRQ m c t) (g : rwQ c o t c' o' t' ln wd) (hm : rwM m m' wd) : MRQ m' c' t' := by
  obtain ⟨o1, o2, t1, t2⟩ := q.1
  have hs := (cm_st hc).1 rfl
  have gr := QI_row q hs
  have b14 := (rd_bx hO).2.2.2.2.1
  have b12 := (rd_bx hO).2.2.2.1
  have bt3 : 0 ≤ (c t 3).toInt := by
    have hb := hO t 3
    rw [bx_part (by clear hs; omega) (by clear hs; omega) 3] at hb
    exact hb.1
  obtain ⟨S, W, N, O, T, G, C, U, E, F, R, L, X⟩ := h
  obtain ⟨s1, s2, s3, s4, s5, s6, s7⟩ := S
  obtain ⟨ho, ht, h14, tt3, tt, jw, jl, h15, hs3, hf⟩ := g
  obtain ⟨m26, m8, ma, mb, mc, g36, gar⟩ := hm
  subst ho; subst ht
  have f3 : ∀ b : Nat, b ≠ 14 → b ≠ 15 → c' 3 b = c 3 b := fun b h1 h2 => hs3 b (by simp; omega)
  have f42 : ∀ s : Nat, s < 12 → c' (42 + s) = c (42 + s) := fun s h9 => hf _ (by clear hs h15 m8; omega) (by clear hs h15 m8; omega) (by clear hs h15 m8; omega)
  have f37 : ∀ s : Nat, s < 5 → c' (37 + s) = c (37 + s) := fun s h9 => hf _ (by clear hs h15 m8; omega) (by clear hs h15 m8; omega) (by clear hs h15 m8; omega)
  have f84 : ∀ s : Nat, s < 12 → t' ≠ 84 + s → c' (84 + s) = c (84 + s) := fun s h9 h8 => hf _ (by clear hs h15 m8; omega) (fun h7 => h8 h7.symm) (by clear hs h15 m8; omega)
  have f84b : ∀ s b : Nat, s < 12 → b ≠ 3 → c' (84 + s) b = c (84 + s) b := fun s b h9 h8 => by
    by_cases h7 : t' = 84 + s
    · rw [← h7]; exact tt b h8
    · rw [f84 s h9 h7]
  have f96 : ∀ s : Nat, (s : Int) < (c 3 14).toInt → c' (96 + 3 * s) = c (96 + 3 * s) := fun s h9 => hf _ (by clear hs h15 m8; omega) (by clear hs h15 m8; omega) (by clear hs h15 m8; omega)
  have ar : ∀ a : Nat, 379 ≤ a → a < 392 → m' a = m a := fun a h1 h2 => gar a (by clear hs h15 m8; omega) (by simp; clear hs h15 m8; omega)
  have g11 := g36 11 (by decide)
  have g18 := g36 18 (by decide)
  have g27 := g36 27 (by decide)
  have g17 := g36 17 (by decide)
  have g10 := g36 10 (by decide)
  have cs : ∀ w : Int, cstep m' w = cstep m w := cstep_eq (ar 386 (by decide) (by decide)) g17
  rw [s7] at ma mb mc
  have bg : (m 36 11).toInt ≤ 5 := by have := (rd_bx hO).1; unfold mqN at N; clear hs h15 m8; omega
  have bsc := (rd_bx hO).2.1
  have eL : ∀ k : Nat, k ≠ (c 3 14).toInt.toNat → m' 392 k = m 392 k := fun k hk => (mc k hk).1
  have h27 : (((c 3 15).toInt = 3 ∨ (c 3 15).toInt = 5) ∧ (m 36 27).toInt = (c 3 10).toInt - 1 ∧ (t' : Int) = 53 + (c 3 10).toInt ∧ 1 ≤ (c 3 10).toInt) ∨ (((c 3 15).toInt = 6 ∨ (c 3 15).toInt = 7) ∧ (m 36 27).toInt = 99 + (c 3 12).toInt ∧ (t' : Int) = 83 + (c 3 12).toInt ∧ 1 ≤ (c 3 12).toInt) := by
    rcases hs with h9 | h9 | h9 | h9
    · have g4 := q.2.2.2.2.1 (Or.inl h9); exact Or.inl ⟨Or.inl h9, T.1 (Or.inl h9), g4.1, g4.2.1⟩
    · have g4 := q.2.2.2.2.1 (Or.inr h9); exact Or.inl ⟨Or.inr h9, T.1 (Or.inr h9), g4.1, g4.2.1⟩
    · have g4 := q.2.2.2.2.2.1 (Or.inl h9); exact Or.inr ⟨Or.inl h9, T.2 (Or.inl h9), g4.1, g4.2.1⟩
    · have g4 := q.2.2.2.2.2.1 (Or.inr h9); exact Or.inr ⟨Or.inr h9, T.2 (Or.inr h9), g4.1, g4.2.1⟩
  have b10 := (rd_bx hO).2.2.1
  refine ⟨⟨?_, ?_, ?_, ?_, ?_, ?_, ?_⟩, ?_, ?_, ?_, ?_, ?_, ?_, ?_, ?_, ?_, ?_, ?_, ?_⟩
  · rw [g36 6 (by decide), f3 4 (by decide) (by decide)]; exact s1
  · clear gr h27; omega
  · rw [g36 9 (by decide), f3 16 (by decide) (by decide)]; exact s3
  · rw [g36 13 (by decide), f3 8 (by decide) (by decide)]; exact s4
  · rw [g17, f3 10 (by decide) (by decide)]; exact s5
  · rw [g36 23 (by decide), f3 12 (by decide) (by decide)]; exact s6
  · omega
  · unfold mqW at W ⊢; rw [f3 16 (by decide) (by decide), g10]; exact W
  · unfold mqN at N ⊢
    rw [f3 6 (by decide) (by decide), g11]
    clear gr h27 m8; omega
  · unfold mqO at O ⊢
    rw [f3 6 (by decide) (by decide), f3 8 (by decide) (by decide), g18]
    refine ⟨fun z => O.1 (by clear gr h27 m8; omega), fun z1 z2 => O.2 (by clear gr h27 m8; omega) (by clear gr h27 m8; omega)⟩
  · unfold mqT at T ⊢
    rw [f3 10 (by decide) (by decide), f3 12 (by decide) (by decide), g27]
    refine ⟨fun z => T.1 (by clear gr h27 m8; omega), fun z1 => T.2 (by clear gr h27 m8; omega)⟩
  · intro gg hg
    rw [g11] at hg
    rw [f37 gg (by clear hs h15 m8 h27; omega), ar 382 (by decide) (by decide), cs]
    exact G gg hg
  · intro s hsx
    rw [f3 8 (by decide) (by decide)] at hsx
    rw [f42 s (by clear hs h15 m8 h27; omega), g11, cs, ar 383 (by decide) (by decide), ar 385 (by decide) (by decide), f3 12 (by decide) (by decide)]
    exact C s hsx
  · unfold mqU at U ⊢
    rw [f3 10 (by decide) (by decide), f3 8 (by decide) (by decide), g11, ar 386 (by decide) (by decide)]; exact U
  · intro e9 he
    rw [f3 12 (by decide) (by decide)] at he
    rw [f84b e9 1 (by clear hs h15 m8 h27; omega) (by decide), ar 390 (by decide) (by decide), ar 391 (by decide) (by decide), f3 8 (by decide) (by decide)]
    have E9 := E e9 he
    refine ⟨E9.1, E9.2.1, fun s hsx => ?_⟩
    rw [f42 s (by clear hs h15 m8 h27; omega)]; exact E9.2.2 s hsx
  · intro e9 he
    rw [f3 12 (by decide) (by decide)] at he
    have F9 := F e9 he
    have he12 : e9 < 12 := by clear hs h15 m8 h27; omega
    rw [f84b e9 2 he12 (by decide)]
    by_cases h7 : t' = 84 + e9
    · have e3 : (c' (84 + e9) 3).toInt = (c (84 + e9) 3).toInt + 1 := by rw [← h7]; exact tt3
      have gr2 : (c (84 + e9) 2).toInt + (c (84 + e9) 3).toInt = (c 3 14).toInt := by rw [← h7]; exact gr
      have hr27 : (m 36 27).toInt = 100 + (e9 : Int) := by clear hs h15 m8; omega
      refine ⟨by clear hs h15 m8 h27; omega, fun k hk => ?_⟩
      by_cases hkn : k = (c 3 14).toInt.toNat
      · subst hkn; rw [ma, hr27]; refine ⟨fun _ => ?_, fun _ => rfl⟩; rw [h7] at bt3; clear hs h15 m8 h27; omega
      · have F8 := F9.2 k (by clear hs h15 m8 h27; omega)
        rw [eL k hkn, F8]; clear hs h15 m8 h27 F8; omega
    · rw [f84 e9 he12 h7]
      have hr27 : (m 36 27).toInt ≠ 100 + (e9 : Int) := by clear hs h15 m8; omega
      have F7 := F9.1
      refine ⟨by clear hs h15 m8 h27; omega, fun k hk => ?_⟩
      by_cases hkn : k = (c 3 14).toInt.toNat
      · subst hkn; rw [ma]; exact ⟨fun h9 => absurd h9 hr27, fun h9 => by exfalso; clear hs h15 m8 h27 hr27; omega⟩
      · have F8 := F9.2 k (by clear hs h15 m8 h27; omega)
        rw [eL k hkn]; exact F8
  · intro k hk
    rw [f3 12 (by decide) (by decide), f3 10 (by decide) (by decide)]
    by_cases hkn : k = (c 3 14).toInt.toNat
    · subst hkn
      rw [ma, mb, jw]
      refine ⟨rfl, ?_, ?_⟩ <;> (clear hs h15 m8; omega)
    · rw [eL k hkn, (mc k hkn).2, f96 k (by clear hs h15 m8 h27; omega)]
      exact R k (by clear hs h15 m8 h27; omega)
  · intro hz k hk
    have hz2 : (c 3 15).toInt = 3 ∨ (c 3 15).toInt = 5 := by clear gr h27 m8; omega
    rw [g27, tt 2 (by decide)]
    by_cases hkn : k = (c 3 14).toInt.toNat
    · subst hkn
      rw [ma]; refine ⟨fun _ => ?_, fun _ => rfl⟩; clear hs h15 m8 h27; omega
    · rw [eL k hkn]; exact L hz2 k (by clear hs h15 m8 h27; omega)
  · unfold mqX at X ⊢
    rw [f3 4 (by decide) (by decide), ar 381 (by decide) (by decide), hf 6 (by decide) (by clear hs h15 m8 h27; omega) (by clear hs h15 m8 h27; omega), hf 7 (by decide) (by clear hs h15 m8 h27; omega) (by clear hs h15 m8 h27; omega)]; exact X
theorem cstep_s (n : Nat) (h17 : (m 36 17).toInt = (n : Int)) (h' : (m' 36 17).toInt = (n : Int) + 1) (he : ∀ k : Nat, k ≠ n → m' 386 k = m 386 k) (w : Int) : ((m' 386 n).toInt = w ∧ cstep m' w = cstep m w + 1) ∨ ((m' 386 n).toInt ≠ w ∧ cstep m' w = cstep m w) := by
  have h1 := cnt_or (m' 386) w n
  have h2 := cnt_ext (f := m' 386) (h := m 386) (w := w) n (fun k hk => he k (by omega))
  unfold cstep
  rw [show (m' 36 17).toInt.toNat = n + 1 by omega, show (m 36 17).toInt.toNat = n by omega, ← h2]
  omega
theorem MRQ_st (hO : OkI c) (q : QI c o t) (hc : cmW (c 3 16).toInt (c 3 15).toInt 8) (hr : roomQ c 8) (h : MRQ m c t) (g : stQ c o c' o' t' ln) (hm : stM m m') : MRQ m' c' t' := by
  obtain ⟨o1, o2, t1, t2⟩ := q.1
  have hs := (cm_st hc).2.1 rfl
  have hr2 := hr.2.1 rfl
  have b14 := (rd_bx hO).2.2.2.2.1
  have b12 := (rd_bx hO).2.2.2.1
  have b10 := (rd_bx hO).2.2.1
  have bsc := (rd_bx hO).2.1
  obtain ⟨S, W, N, O, T, G, C, U, E, F, R, L, X⟩ := h
  obtain ⟨s1, s2, s3, s4, s5, s6, s7⟩ := S
  obtain ⟨ho, ht, h10, ⟨_, _, p2, p3, p8⟩, _, oo3, oo, h15, hs3, hf⟩ := g
  obtain ⟨m17, m27, m8, ma, mc, g36, gar⟩ := hm
  subst ho
  have f3 : ∀ b : Nat, b ≠ 10 → b ≠ 15 → c' 3 b = c 3 b := fun b h1 h2 => hs3 b (by simp; omega)
  have f42 : ∀ s b : Nat, s < 12 → b ≠ 3 → c' (42 + s) b = c (42 + s) b := fun s b h9 h8 => by
    by_cases h7 : 42 + s = o'
    · rw [h7]; exact oo b h8
    · rw [hf _ (by clear hs h15 m8; omega) (by clear hs h15 m8; omega) h7]
  have f37 : ∀ s b : Nat, s < 5 → b ≠ 3 → c' (37 + s) b = c (37 + s) b := fun s b h9 h8 => by
    by_cases h7 : 37 + s = o'
    · rw [h7]; exact oo b h8
    · rw [hf _ (by clear hs h15 m8; omega) (by clear hs h15 m8; omega) h7]
  have f84 : ∀ s : Nat, s < 12 → c' (84 + s) = c (84 + s) := fun s h9 => hf _ (by clear hs h15 m8; omega) (by clear hs h15 m8; omega) (by clear hs h15 m8; omega)
  have f96 : ∀ s : Nat, c' (96 + 3 * s) = c (96 + 3 * s) := fun s => hf _ (by clear hs h15 m8; omega) (by clear hs h15 m8; omega) (by clear hs h15 m8; omega)
  have ar : ∀ a : Nat, 379 ≤ a → (a < 386 ∨ 389 < a) → m' a = m a := fun a h1 h2 => gar a (by clear hs h15 m8; omega) (by simp; clear hs h15 m8; omega)
  have g11 := g36 11 (by decide)
  have g18 := g36 18 (by decide)
  have g10 := g36 10 (by decide)
  rw [s5] at ma mc
  have cs := cstep_s (m := m) (m' := m') (c 3 10).toInt.toNat (by clear hs h15 m8; omega) (by clear hs h15 m8; omega) mc
  have bg : (m 36 11).toInt ≤ 5 := by have := (rd_bx hO).1; unfold mqN at N; clear hs h15 m8; omega
  have h18 : (((c 3 15).toInt = 2 ∨ (c 3 15).toInt = 3) ∧ (m 36 18).toInt = 20 + (c 3 6).toInt ∧ (o' : Int) = 37 + (c 3 6).toInt ∧ (m 36 11).toInt = (c 3 6).toInt + 1) ∨ (((c 3 15).toInt = 4 ∨ (c 3 15).toInt = 5) ∧ (m 36 18).toInt = (c 3 8).toInt - 1 ∧ (o' : Int) = 41 + (c 3 8).toInt ∧ 1 ≤ (c 3 8).toInt) := by
    have hN : (c 3 15).toInt ≠ 0 → (m 36 11).toInt = (c 3 6).toInt + 1 := fun hz => by unfold mqN at N; clear hs h15 m8; omega
    rcases hs with h9 | h9 | h9 | h9
    · exact Or.inl ⟨Or.inl h9, O.1 (Or.inl h9), q.2.1 (Or.inl h9), hN (by clear hN; omega)⟩
    · exact Or.inl ⟨Or.inr h9, O.1 (Or.inr h9), q.2.1 (Or.inr h9), hN (by clear hN; omega)⟩
    · have g2 := q.2.2.1 (by clear hN; omega) (by clear hN; omega); exact Or.inr ⟨Or.inl h9, O.2 (by clear hN; omega) (by clear hN; omega), g2.1, g2.2.1⟩
    · have g2 := q.2.2.1 (by clear hN; omega) (by clear hN; omega); exact Or.inr ⟨Or.inr h9, O.2 (by clear hN; omega) (by clear hN; omega), g2.1, g2.2.1⟩
  refine ⟨⟨?_, ?_, ?_, ?_, ?_, ?_, ?_⟩, ?_, ?_, ?_, ?_, ?_, ?_, ?_, ?_, ?_, ?_, ?_, ?_⟩
  · rw [g36 6 (by decide), f3 4 (by decide) (by decide)]; exact s1
  · clear h18; omega
  · rw [g36 9 (by decide), f3 16 (by decide) (by decide)]; exact s3
  · rw [g36 13 (by decide), f3 8 (by decide) (by decide)]; exact s4
  · clear h18 hs h15 m8; omega
  · rw [g36 23 (by decide), f3 12 (by decide) (by decide)]; exact s6
  · rw [g36 26 (by decide), f3 14 (by decide) (by decide)]; exact s7
  · unfold mqW at W ⊢; rw [f3 16 (by decide) (by decide), g10]; exact W
  · unfold mqN at N ⊢
    rw [f3 6 (by decide) (by decide), g11]
    clear h18 m8; omega
  · unfold mqO
    rw [f3 6 (by decide) (by decide), f3 8 (by decide) (by decide), g18]
    refine ⟨fun z => by clear m8; omega, fun z1 z2 => by clear m8; omega⟩
  · unfold mqT
    rw [f3 12 (by decide) (by decide)]
    refine ⟨fun z => by clear m8 hs h18; omega, fun z1 => by clear m8 h18; omega⟩
  · intro gg hg
    rw [g11] at hg
    have G9 := G gg hg
    have hg5 : gg < 5 := by clear hs h15 m8 h18; omega
    rw [f37 gg 1 hg5 (by decide), ar 382 (by decide) (by decide)]
    refine ⟨G9.1, ?_⟩
    have G8 := G9.2
    rcases cs (20 + (gg : Int)) with ⟨c1, c2⟩ | ⟨c1, c2⟩
    · have h7 : 37 + gg = o' := by clear hs h15 m8; omega
      rw [c2, h7, oo3, ← h7]; clear hs h15 m8 h18; omega
    · have h7 : 37 + gg ≠ o' := by clear hs h15 m8; omega
      rw [c2, hf _ (by clear hs h15 m8 h18; omega) (by clear hs h15 m8 h18; omega) h7]; exact G8
  · intro s hsx
    rw [f3 8 (by decide) (by decide)] at hsx
    have C9 := C s hsx
    have hs12 : s < 12 := by clear hs h15 m8 h18; omega
    rw [f42 s 1 hs12 (by decide), f42 s 6 hs12 (by decide), f42 s 7 hs12 (by decide), f42 s 8 hs12 (by decide), g11, ar 383 (by decide) (by decide), ar 385 (by decide) (by decide), f3 12 (by decide) (by decide)]
    refine ⟨C9.1, C9.2.1, ?_, C9.2.2.2⟩
    have C8 := C9.2.2.1
    rcases cs (s : Int) with ⟨c1, c2⟩ | ⟨c1, c2⟩
    · have h7 : 42 + s = o' := by clear hs h15 m8; omega
      rw [c2, h7, oo3, ← h7]; clear hs h15 m8 h18; omega
    · have h7 : 42 + s ≠ o' := by clear hs h15 m8; omega
      rw [c2, hf _ (by clear hs h15 m8 h18; omega) (by clear hs h15 m8 h18; omega) h7]; exact C8
  · intro k hk
    rw [f3 8 (by decide) (by decide), g11]
    by_cases hkn : k = (c 3 10).toInt.toNat
    · subst hkn
      rw [ma]
      have := (rd_bx hO).1
      clear hs h15 m8; omega
    · rw [mc k hkn]; exact U k (by clear hs h15 m8 h18; omega)
  · intro e9 he
    rw [f3 12 (by decide) (by decide)] at he
    rw [f84 e9 (by clear hs h15 m8 h18; omega), ar 390 (by decide) (by decide), ar 391 (by decide) (by decide), f3 8 (by decide) (by decide)]
    have E9 := E e9 he
    refine ⟨E9.1, E9.2.1, fun s hsx => ?_⟩
    rw [f42 s 7 (by clear hs h15 m8 h18; omega) (by decide), f42 s 8 (by clear hs h15 m8 h18; omega) (by decide)]; exact E9.2.2 s hsx
  · intro e9 he
    rw [f3 12 (by decide) (by decide)] at he
    rw [f84 e9 (by clear hs h15 m8 h18; omega), f3 14 (by decide) (by decide), ar 392 (by decide) (by decide)]
    exact F e9 he
  · intro k hk
    rw [f3 14 (by decide) (by decide)] at hk
    have R9 := R k hk
    rw [f3 12 (by decide) (by decide), f96, ar 392 (by decide) (by decide), ar 394 (by decide) (by decide)]
    refine ⟨R9.1, R9.2.1, ?_⟩
    have R8 := R9.2.2
    clear hs h15 m8 h18; omega
  · intro hz k hk
    rw [f3 14 (by decide) (by decide)] at hk
    have R9 := R k hk
    have R8 := R9.2.2
    rw [m27, ht, p2, ar 392 (by decide) (by decide)]
    refine ⟨fun h9 => ?_, fun h9 => ?_⟩ <;> (exfalso; clear hs h15 m8 h18 R9; omega)
  · unfold mqX at X ⊢
    rw [f3 4 (by decide) (by decide), ar 381 (by decide) (by decide), hf 6 (by decide) (by clear hs h15 m8 h18; omega) (by clear hs h15 m8 h18; omega), hf 7 (by decide) (by clear hs h15 m8 h18; omega) (by clear hs h15 m8 h18; omega)]; exact X
end MR5
