/-! the reference's reading against the class's -/
theorem cnt_none {f : Nat → Int32} {w : Int} : ∀ n : Nat, (∀ k : Nat, k < n → (f k).toInt ≠ w) → cnt f w n = 0
  | 0, _ => rfl
  | n + 1, h => by
    have h1 := cnt_none n (fun k hk => h k (by omega))
    have h2 := cnt_or f w n
    have h3 := h n (by omega)
    omega
theorem cnt_ext {f h : Nat → Int32} {w : Int} : ∀ n : Nat, (∀ k : Nat, k < n → f k = h k) → cnt f w n = cnt h w n
  | 0, _ => rfl
  | n + 1, e => by
    show cnt f w n + _ = cnt h w n + _
    rw [cnt_ext n (fun k hk => e k (by omega)), e n (by omega)]
def fr3 (m m' : Nat → Nat → Int32) (P : List Nat) : Prop := ∀ b : Nat, ¬ b ∈ P → m' 36 b = m 36 b
theorem fr3_t {m m' : Nat → Nat → Int32} {P : List Nat} (h : fr3 m m' P) (b : Nat) (hb : ¬ b ∈ P) : (m' 36 b).toInt = (m 36 b).toInt := by rw [h b hb]
def fra (m m' : Nat → Nat → Int32) (P : List Nat) : Prop := ∀ a : Nat, a ≠ 36 → ¬ a ∈ P → m' a = m a
def mqS (m c : Nat → Nat → Int32) : Prop := (m 36 6).toInt = (c 3 4).toInt ∧ (m 36 8).toInt = (c 3 15).toInt ∧ (m 36 9).toInt = (c 3 16).toInt ∧ (m 36 13).toInt = (c 3 8).toInt ∧ (m 36 17).toInt = (c 3 10).toInt ∧ (m 36 23).toInt = (c 3 12).toInt ∧ (m 36 26).toInt = (c 3 14).toInt
def mqW (m c : Nat → Nat → Int32) : Prop := ((c 3 16).toInt = 0 ∧ (m 36 10).toInt = 0) ∨ ((c 3 16).toInt ≠ 0 ∧ (m 36 10).toInt = 1)
def mqN (m c : Nat → Nat → Int32) : Prop := ((c 3 15).toInt = 0 ∧ (m 36 11).toInt = 0 ∧ (c 3 6).toInt = 0) ∨ ((c 3 15).toInt ≠ 0 ∧ (m 36 11).toInt = (c 3 6).toInt + 1)
def mqO (m c : Nat → Nat → Int32) : Prop := (((c 3 15).toInt = 2 ∨ (c 3 15).toInt = 3) → (m 36 18).toInt = 20 + (c 3 6).toInt) ∧ (4 ≤ (c 3 15).toInt → (c 3 15).toInt ≤ 7 → (m 36 18).toInt = (c 3 8).toInt - 1)
def mqT (m c : Nat → Nat → Int32) : Prop := (((c 3 15).toInt = 3 ∨ (c 3 15).toInt = 5) → (m 36 27).toInt = (c 3 10).toInt - 1) ∧ (((c 3 15).toInt = 6 ∨ (c 3 15).toInt = 7) → (m 36 27).toInt = 99 + (c 3 12).toInt)
def cstep (m : Nat → Nat → Int32) (w : Int) : Int := (cnt (m 386) w (m 36 17).toInt.toNat : Int)
def mqG (m c : Nat → Nat → Int32) : Prop := ∀ g : Nat, (g : Int) < (m 36 11).toInt → (m 382 g).toInt = (c (37 + g) 1).toInt ∧ cstep m (20 + (g : Int)) = (c (37 + g) 3).toInt
def mqC (m c : Nat → Nat → Int32) : Prop := ∀ s : Nat, (s : Int) < (c 3 8).toInt → (m 383 s).toInt = (c (42 + s) 1).toInt ∧ (m 385 s).toInt = (c (42 + s) 6).toInt ∧ cstep m (s : Int) = (c (42 + s) 3).toInt ∧ (m 385 s).toInt < (m 36 11).toInt ∧ (c (42 + s) 7).toInt + (c (42 + s) 8).toInt ≤ (c 3 12).toInt
def mqU (m c : Nat → Nat → Int32) : Prop := ∀ k : Nat, (k : Int) < (c 3 10).toInt → (0 ≤ (m 386 k).toInt ∧ (m 386 k).toInt < (c 3 8).toInt) ∨ (20 ≤ (m 386 k).toInt ∧ (m 386 k).toInt < 20 + (m 36 11).toInt)
def mqE (m c : Nat → Nat → Int32) : Prop := ∀ e : Nat, (e : Int) < (c 3 12).toInt → (m 391 e).toInt = (c (84 + e) 1).toInt ∧ (0 ≤ (m 390 e).toInt ∧ (m 390 e).toInt < (c 3 8).toInt) ∧ (∀ s : Nat, (s : Int) < (c 3 8).toInt → ((m 390 e).toInt = (s : Int) ↔ ((c (42 + s) 7).toInt ≤ (e : Int) ∧ (e : Int) < (c (42 + s) 7).toInt + (c (42 + s) 8).toInt)))
def mqF (m c : Nat → Nat → Int32) : Prop := ∀ e : Nat, (e : Int) < (c 3 12).toInt → (c (84 + e) 2).toInt + (c (84 + e) 3).toInt ≤ (c 3 14).toInt ∧ ∀ k : Nat, (k : Int) < (c 3 14).toInt → ((m 392 k).toInt = 100 + (e : Int) ↔ ((c (84 + e) 2).toInt ≤ (k : Int) ∧ (k : Int) < (c (84 + e) 2).toInt + (c (84 + e) 3).toInt))
def mqR (m c : Nat → Nat → Int32) : Prop := ∀ k : Nat, (k : Int) < (c 3 14).toInt → (m 394 k).toInt = (c (96 + 3 * k) 2).toInt ∧ (m 392 k).toInt < 100 + (c 3 12).toInt ∧ ((m 392 k).toInt < (c 3 10).toInt ∨ 100 ≤ (m 392 k).toInt)
def mqL (m c : Nat → Nat → Int32) (t : Nat) : Prop := ((c 3 15).toInt = 3 ∨ (c 3 15).toInt = 5) → ∀ k : Nat, (k : Int) < (c 3 14).toInt → ((m 392 k).toInt = (m 36 27).toInt ↔ (c t 2).toInt ≤ (k : Int))
def mqX (m c : Nat → Nat → Int32) : Prop := ∀ j : Nat, (j : Int) < (c 3 4).toInt → (m 381 (2 * j)).toInt = (c 6 j).toInt ∧ (m 381 (2 * j + 1)).toInt = (c 7 j).toInt
/-- the reference's numbers say what the class's parts say -/
def MRQ (m c : Nat → Nat → Int32) (t : Nat) : Prop := mqS m c ∧ mqW m c ∧ mqN m c ∧ mqO m c ∧ mqT m c ∧ mqG m c ∧ mqC m c ∧ mqU m c ∧ mqE m c ∧ mqF m c ∧ mqR m c ∧ mqL m c t ∧ mqX m c
section MR4
variable {m m' c c' : Nat → Nat → Int32} {o t o' t' : Nat} {ln k wd e : Int}
theorem cstep_eq (h : m' 386 = m 386) (h2 : m' 36 17 = m 36 17) (w : Int) : cstep m' w = cstep m w := by unfold cstep; rw [h, h2]
/-- what the reference does with an error, tags, a ROW, a STEP, a head -/
def erM (m m' : Nat → Nat → Int32) (ln e : Int) : Prop := ((m 36 6).toInt = 20 ∧ m' = m) ∨ ((m 36 6).toInt ≠ 20 ∧ (m' 36 6).toInt = (m 36 6).toInt + 1 ∧ (m' 381 (2 * (m 36 6).toInt.toNat)).toInt = ln ∧ (m' 381 (2 * (m 36 6).toInt.toNat + 1)).toInt = e ∧ (∀ k : Nat, k ≠ 2 * (m 36 6).toInt.toNat → k ≠ 2 * (m 36 6).toInt.toNat + 1 → m' 381 k = m 381 k) ∧ fr3 m m' [6] ∧ fra m m' [381])
def tgM (m m' : Nat → Nat → Int32) (T : Int32) : Prop := m' 36 9 = m 36 9 ||| T ∧ (m' 36 10).toInt = 1 ∧ fr3 m m' [9, 10] ∧ fra m m' []
def rwM (m m' : Nat → Nat → Int32) (wd : Int) : Prop := (m' 36 26).toInt = (m 36 26).toInt + 1 ∧ (((m 36 8).toInt = 6 ∧ (m' 36 8).toInt = 7) ∨ ((m 36 8).toInt ≠ 6 ∧ (m' 36 8).toInt = (m 36 8).toInt)) ∧ (m' 392 (m 36 26).toInt.toNat).toInt = (m 36 27).toInt ∧ (m' 394 (m 36 26).toInt.toNat).toInt = wd ∧ (∀ k : Nat, k ≠ (m 36 26).toInt.toNat → m' 392 k = m 392 k ∧ m' 394 k = m 394 k) ∧ fr3 m m' [26, 8] ∧ fra m m' [392, 393, 394, 395, 396]
def stM (m m' : Nat → Nat → Int32) : Prop := (m' 36 17).toInt = (m 36 17).toInt + 1 ∧ (m' 36 27).toInt = (m 36 17).toInt ∧ (((m 36 8).toInt < 4 ∧ (m' 36 8).toInt = 3) ∨ (4 ≤ (m 36 8).toInt ∧ (m' 36 8).toInt = 5)) ∧ (m' 386 (m 36 17).toInt.toNat).toInt = (m 36 18).toInt ∧ (∀ k : Nat, k ≠ (m 36 17).toInt.toNat → m' 386 k = m 386 k) ∧ fr3 m m' [17, 27, 8] ∧ fra m m' [386, 387, 388, 389]
def hdM (m m' : Nat → Nat → Int32) (k : Int) : Prop :=
  (((k = 3 ∧ (m' 36 8).toInt = 1) ∨ (k = 4 ∧ (m' 36 8).toInt = 8)) ∧ (m' 36 9).toInt = 0 ∧ (m' 36 10).toInt = 0 ∧ (m' 382 (m 36 11).toInt.toNat).toInt = (m 36 9).toInt ∧ (∀ j : Nat, j ≠ (m 36 11).toInt.toNat → m' 382 j = m 382 j) ∧ (m' 36 11).toInt = (m 36 11).toInt + 1 ∧ fr3 m m' [11, 8, 9, 10] ∧ fra m m' [382]) ∨
  (k = 5 ∧ (m' 36 18).toInt = 20 + (m 36 11).toInt - 1 ∧ (m' 36 8).toInt = 2 ∧ fr3 m m' [18, 8] ∧ fra m m' []) ∨
  (k = 6 ∧ (m' 36 9).toInt = 0 ∧ (m' 36 10).toInt = 0 ∧ (m' 383 (m 36 13).toInt.toNat).toInt = (m 36 9).toInt ∧ (m' 385 (m 36 13).toInt.toNat).toInt = (m 36 11).toInt - 1 ∧ (∀ j : Nat, j ≠ (m 36 13).toInt.toNat → m' 383 j = m 383 j ∧ m' 385 j = m 385 j) ∧ (m' 36 18).toInt = (m 36 13).toInt ∧ (m' 36 13).toInt = (m 36 13).toInt + 1 ∧ (m' 36 8).toInt = 4 ∧ fr3 m m' [13, 18, 8, 9, 10] ∧ fra m m' [383, 384, 385]) ∨
  (k = 7 ∧ (m' 36 9).toInt = 0 ∧ (m' 36 10).toInt = 0 ∧ (m' 391 (m 36 23).toInt.toNat).toInt = (m 36 9).toInt ∧ (m' 390 (m 36 23).toInt.toNat).toInt = (m 36 13).toInt - 1 ∧ (∀ j : Nat, j ≠ (m 36 23).toInt.toNat → m' 391 j = m 391 j ∧ m' 390 j = m 390 j) ∧ (m' 36 27).toInt = 100 + (m 36 23).toInt ∧ (m' 36 23).toInt = (m 36 23).toInt + 1 ∧ (m' 36 8).toInt = 6 ∧ fr3 m m' [23, 27, 8, 9, 10] ∧ fra m m' [390, 391])
theorem MRQ_er (h : MRQ m c t) (g : addE c c' ln e) (hm : erM m m' ln e) (h0 : 0 ≤ (c 3 4).toInt) (ht : 54 ≤ t) : MRQ m' c' t := by
  obtain ⟨S, W, N, O, T, G, C, U, E, F, R, L, X⟩ := h
  obtain ⟨ge, gf⟩ := g
  have f3 : ∀ b : Nat, b ≠ 4 → c' 3 b = c 3 b := fun b hb => gf 3 b (by omega) (by omega) (by omega)
  have fr : ∀ a : Nat, 8 ≤ a → c' a = c a := fun a ha => funext fun b => gf a b (by omega) (by omega) (by omega)
  have f42 : ∀ s : Nat, c' (42 + s) = c (42 + s) := fun s => fr _ (by omega)
  have f37 : ∀ s : Nat, c' (37 + s) = c (37 + s) := fun s => fr _ (by omega)
  have f84 : ∀ s : Nat, c' (84 + s) = c (84 + s) := fun s => fr _ (by omega)
  have f96 : ∀ s : Nat, c' (96 + 3 * s) = c (96 + 3 * s) := fun s => fr _ (by omega)
  obtain ⟨s1, s2, s3, s4, s5, s6, s7⟩ := S
  have hK : (m' 36 6).toInt = (c' 3 4).toInt ∧ fr3 m m' [6] ∧ (∀ a : Nat, 382 ≤ a → m' a = m a) ∧ mqX m' c' := by
    rcases hm with ⟨h20, hm⟩ | ⟨h20, m6, ma, mb, mc, g36, gar⟩
    · subst hm
      rcases ge with ⟨_, e4, e6, e7⟩ | ⟨hlt, _⟩
      · refine ⟨by rw [e4]; exact s1, fun _ _ => rfl, fun _ _ => rfl, ?_⟩
        unfold mqX at X ⊢; rw [e4, e6, e7]; exact X
      · omega
    · rcases ge with ⟨heq, _⟩ | ⟨_, e4, ea, eb, ec⟩
      · omega
      rw [s1] at ma mb mc
      refine ⟨by omega, g36, fun a ha => gar a (by omega) (by simp; omega), fun j hj => ?_⟩
      by_cases hj2 : j = (c 3 4).toInt.toNat
      · subst hj2; exact ⟨by rw [ma, ea], by rw [mb, eb]⟩
      · rw [mc _ (by omega) (by omega), mc _ (by omega) (by omega), (ec j hj2).1, (ec j hj2).2]
        exact X j (by omega)
  obtain ⟨k6, g36, ar, X'⟩ := hK
  have g10 := g36 10 (by decide)
  have g11 := g36 11 (by decide)
  have g18 := g36 18 (by decide)
  have g27 := g36 27 (by decide)
  have g17 := g36 17 (by decide)
  have cs : ∀ w : Int, cstep m' w = cstep m w := cstep_eq (ar 386 (by decide)) g17
  unfold mqW at W; unfold mqN at N; unfold mqO at O; unfold mqT at T; unfold mqG at G; unfold mqC at C; unfold mqU at U; unfold mqE at E; unfold mqF at F; unfold mqR at R; unfold mqL at L
  refine ⟨⟨k6, ?_, ?_, ?_, ?_, ?_, ?_⟩, ?_, ?_, ?_, ?_, ?_, ?_, ?_, ?_, ?_, ?_, ?_, X'⟩
  · rw [g36 8 (by decide), f3 15 (by decide)]; exact s2
  · rw [g36 9 (by decide), f3 16 (by decide)]; exact s3
  · rw [g36 13 (by decide), f3 8 (by decide)]; exact s4
  · rw [g17, f3 10 (by decide)]; exact s5
  · rw [g36 23 (by decide), f3 12 (by decide)]; exact s6
  · rw [g36 26 (by decide), f3 14 (by decide)]; exact s7
  · unfold mqW; rw [f3 16 (by decide), g10]; exact W
  · unfold mqN; rw [f3 15 (by decide), f3 6 (by decide), g11]; exact N
  · unfold mqO; rw [f3 15 (by decide), f3 6 (by decide), f3 8 (by decide), g18]; exact O
  · unfold mqT; rw [f3 15 (by decide), f3 10 (by decide), f3 12 (by decide), g27]; exact T
  · unfold mqG; simp only [f37, g11, cs, ar 382 (by decide)]; exact G
  · unfold mqC; simp only [f42, f3 8 (by decide), f3 12 (by decide), g11, cs, ar 383 (by decide), ar 385 (by decide)]; exact C
  · unfold mqU; simp only [f3 10 (by decide), f3 8 (by decide), g11, ar 386 (by decide)]; exact U
  · unfold mqE; simp only [f3 12 (by decide), f3 8 (by decide), f42, f84, ar 390 (by decide), ar 391 (by decide)]; exact E
  · unfold mqF; simp only [f3 12 (by decide), f3 14 (by decide), f84, ar 392 (by decide)]; exact F
  · unfold mqR; simp only [f3 14 (by decide), f3 10 (by decide), f3 12 (by decide), f96, ar 392 (by decide), ar 394 (by decide)]; exact R
  · unfold mqL; simp only [f3 15 (by decide), f3 14 (by decide), ar 392 (by decide), g27, fr t (by omega)]; exact L
theorem MRQ_tg {Tg : Int32} (h : MRQ m c t) (g1 : c' 3 16 = c 3 16 ||| Tg) (g2 : sm3 c c' [16]) (g3 : ∀ a : Nat, a ≠ 3 → c' a = c a) (hm : tgM m m' Tg) (hn : (c' 3 16).toInt ≠ 0) (ht : 54 ≤ t) : MRQ m' c' t := by
  obtain ⟨S, W, N, O, T, G, C, U, E, F, R, L, X⟩ := h
  obtain ⟨m9, m10, g36, gar⟩ := hm
  obtain ⟨s1, s2, s3, s4, s5, s6, s7⟩ := S
  have ar : ∀ a : Nat, a ≠ 36 → m' a = m a := fun a ha => gar a ha (by simp)
  have f42 : ∀ s : Nat, c' (42 + s) = c (42 + s) := fun s => g3 _ (by omega)
  have f37 : ∀ s : Nat, c' (37 + s) = c (37 + s) := fun s => g3 _ (by omega)
  have f84 : ∀ s : Nat, c' (84 + s) = c (84 + s) := fun s => g3 _ (by omega)
  have f96 : ∀ s : Nat, c' (96 + 3 * s) = c (96 + 3 * s) := fun s => g3 _ (by omega)
  have g11 := g36 11 (by decide)
  have g18 := g36 18 (by decide)
  have g27 := g36 27 (by decide)
  have g17 := g36 17 (by decide)
  have cs : ∀ w : Int, cstep m' w = cstep m w := cstep_eq (ar 386 (by decide)) g17
  have f3 : ∀ b : Nat, b ≠ 16 → c' 3 b = c 3 b := fun b hb => g2 b (by simp; omega)
  unfold mqN at N; unfold mqO at O; unfold mqT at T; unfold mqG at G; unfold mqC at C; unfold mqU at U; unfold mqE at E; unfold mqF at F; unfold mqR at R; unfold mqL at L; unfold mqX at X
  refine ⟨⟨?_, ?_, ?_, ?_, ?_, ?_, ?_⟩, Or.inr ⟨hn, m10⟩, ?_, ?_, ?_, ?_, ?_, ?_, ?_, ?_, ?_, ?_, ?_⟩
  · rw [g36 6 (by decide), f3 4 (by decide)]; exact s1
  · rw [g36 8 (by decide), f3 15 (by decide)]; exact s2
  · rw [m9, g1, show m 36 9 = c 3 16 from Int32.toInt_inj.mp s3]
  · rw [g36 13 (by decide), f3 8 (by decide)]; exact s4
  · rw [g17, f3 10 (by decide)]; exact s5
  · rw [g36 23 (by decide), f3 12 (by decide)]; exact s6
  · rw [g36 26 (by decide), f3 14 (by decide)]; exact s7
  · unfold mqN; rw [f3 15 (by decide), f3 6 (by decide), g11]; exact N
  · unfold mqO; rw [f3 15 (by decide), f3 6 (by decide), f3 8 (by decide), g18]; exact O
  · unfold mqT; rw [f3 15 (by decide), f3 10 (by decide), f3 12 (by decide), g27]; exact T
  · unfold mqG; simp only [f37, g11, cs, ar 382 (by decide)]; exact G
  · unfold mqC; simp only [f42, f3 8 (by decide), f3 12 (by decide), g11, cs, ar 383 (by decide), ar 385 (by decide)]; exact C
  · unfold mqU; simp only [f3 10 (by decide), f3 8 (by decide), g11, ar 386 (by decide)]; exact U
  · unfold mqE; simp only [f3 12 (by decide), f3 8 (by decide), f42, f84, ar 390 (by decide), ar 391 (by decide)]; exact E
  · unfold mqF; simp only [f3 12 (by decide), f3 14 (by decide), f84, ar 392 (by decide)]; exact F
  · unfold mqR; simp only [f3 14 (by decide), f3 10 (by decide), f3 12 (by decide), f96, ar 392 (by decide), ar 394 (by decide)]; exact R
  · unfold mqL; simp only [f3 15 (by decide), f3 14 (by decide), ar 392 (by decide), g27, g3 t (by omega)]; exact L
  · unfold mqX; rw [f3 4 (by decide), ar 381 (by decide), g3 6 (by decide), g3 7 (by decide)]; exact X
end MR4
