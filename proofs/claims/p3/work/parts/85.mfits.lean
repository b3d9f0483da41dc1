/-! how the reference fits an expression to a text -/
def inB (i : Nat → Nat → Int32) (k : Int) : Int := if k < (i 36 40).toInt then (i 402 k.toNat).toInt else 10
theorem inB_or (i : Nat → Nat → Int32) (k : Int) : (k < (i 36 40).toInt ∧ inB i k = (i 402 k.toNat).toInt) ∨ ((i 36 40).toInt ≤ k ∧ inB i k = 10) := by
  unfold inB
  by_cases h : k < (i 36 40).toInt
  · rw [if_pos h]; exact Or.inl ⟨h, rfl⟩
  · rw [if_neg h]; exact Or.inr ⟨by omega, rfl⟩
/-- how far something holds, from 0 on -/
def runR (P : Int → Prop) (v : Int) : Prop := 0 ≤ v ∧ (∀ j : Int, 0 ≤ j → j < v → P j) ∧ ¬ P v
theorem runR_u {P : Int → Prop} {v w : Int} (h : runR P v) (g : runR P w) : v = w := by
  rcases Int.lt_trichotomy v w with q | q | q
  · exact absurd (g.2.1 v h.1 q) h.2.2
  · exact q
  · exact absurd (h.2.1 w g.1 q) g.2.2
def dgP (i : Nat → Nat → Int32) (k j : Int) : Prop := 48 ≤ inB i (k + j) ∧ inB i (k + j) ≤ 57
def dgR (i : Nat → Nat → Int32) (k v : Int) : Prop := runR (dgP i k) v
/-- as far as something holds: so far -/
def soF (P : Int → Prop) (v : Int) : Prop := ∀ j : Int, 0 ≤ j → j < v → P j
theorem soF_0 {P : Int → Prop} {v : Int} (h : v = 0) : soF P v := fun j h0 h1 => by omega
theorem soF_s {P : Int → Prop} {v w : Int} (h : soF P v) (hw : w = v + 1) (g : P v) : soF P w := fun j h0 h1 => by
  by_cases e : j = v
  · subst e; exact g
  · exact h j h0 (by omega)
theorem dg_le {i : Nat → Nat → Int32} {k v : Int} (h : soF (dgP i k) v) (h0 : 0 ≤ v) : v = 0 ∨ k + v ≤ (i 36 40).toInt := by
  by_cases e : v = 0
  · exact Or.inl e
  · refine Or.inr ?_
    have h1 := h (v - 1) (by omega) (by omega)
    unfold dgP at h1
    rcases inB_or i (k + (v - 1)) with h2 | h2 <;> omega
def wP (i : Nat → Nat → Int32) (k j : Int) : Prop := k + j < (i 36 40).toInt ∧ (i 402 (k + j).toNat).toInt ≠ 32
def sP (i : Nat → Nat → Int32) (k j : Int) : Prop := k + 1 + j < (i 36 40).toInt ∧ (i 402 (k + 1 + j).toNat).toInt ≠ 34
def mnB (i : Nat → Nat → Int32) (k : Int) : Int := if inB i k = 45 then 1 else 0
theorem mnB_or (i : Nat → Nat → Int32) (k : Int) : (inB i k = 45 ∧ mnB i k = 1) ∨ (inB i k ≠ 45 ∧ mnB i k = 0) := by
  unfold mnB
  by_cases h : inB i k = 45
  · rw [if_pos h]; exact Or.inl ⟨h, rfl⟩
  · rw [if_neg h]; exact Or.inr ⟨h, rfl⟩
/-- the most characters that a parameter stands for -/
def moR (i : Nat → Nat → Int32) (kd_ k v : Int) : Prop :=
  (kd_ = 119 ∧ runR (wP i k) v) ∨
  (kd_ = 115 ∧ ((inB i k ≠ 34 ∧ v = 0) ∨ (inB i k = 34 ∧ ∃ n : Int, runR (sP i k) n ∧ ((k + 1 + n < (i 36 40).toInt ∧ v = n + 2) ∨ ((i 36 40).toInt ≤ k + 1 + n ∧ v = 0))))) ∨
  (kd_ ≠ 119 ∧ kd_ ≠ 115 ∧ ∃ n : Int, dgR i (k + mnB i k) n ∧ ((kd_ = 105 ∧ ((n = 0 ∧ v = 0) ∨ (n ≠ 0 ∧ n < 9 ∧ v = mnB i k + n) ∨ (9 ≤ n ∧ v = mnB i k + 9))) ∨
    (kd_ ≠ 105 ∧ (((n < 1 ∨ 6 < n ∨ inB i (k + mnB i k + n) ≠ 46) ∧ v = 0) ∨ ((1 ≤ n ∧ n ≤ 6 ∧ inB i (k + mnB i k + n) = 46) ∧ ∃ b : Int, dgR i (k + mnB i k + n + 1) b ∧ ((b = 0 ∧ v = 0) ∨ (b ≠ 0 ∧ b < 3 ∧ v = mnB i k + n + 1 + b) ∨ (3 ≤ b ∧ v = mnB i k + n + 1 + 3)))))))
theorem moR_u {i : Nat → Nat → Int32} {q k v w : Int} (h : moR i q k v) (g : moR i q k w) : v = w := by
  rcases h with ⟨h1, h⟩ | ⟨h1, h⟩ | ⟨h1, h2, n, hn, h⟩ <;> rcases g with ⟨g1, g⟩ | ⟨g1, g⟩ | ⟨g1, g2, m, gm, g⟩ <;> first | (exfalso; clear h g; omega) | skip
  · exact runR_u h g
  · rcases h with ⟨ha, h⟩ | ⟨ha, n, hn, h⟩ <;> rcases g with ⟨ga, g⟩ | ⟨ga, m, gm, g⟩
    · omega
    · exfalso; clear h g; omega
    · exfalso; clear h g; omega
    · have := runR_u hn gm; subst this; omega
  · have e := runR_u hn gm
    subst e
    rcases h with ⟨ha, h⟩ | ⟨ha, h⟩ <;> rcases g with ⟨ga, g⟩ | ⟨ga, g⟩
    · omega
    · exact absurd ha ga
    · exact absurd ga ha
    · rcases h with ⟨hb, h⟩ | ⟨hb, b, hc, h⟩ <;> rcases g with ⟨gb, g⟩ | ⟨gb, d, gc, g⟩
      · omega
      · exfalso; clear h g; omega
      · exfalso; clear h g; omega
      · have e := runR_u hc gc
        subst e
        clear hb gb
        omega
/-- the bounds of it, and where the point of a {d} stands -/
theorem moR_b {i : Nat → Nat → Int32} {q k v : Int} (h : moR i q k v) (h0 : 0 ≤ k) : 0 ≤ v ∧ (v ≠ 0 → k + v ≤ (i 36 40).toInt) := by
  have hm := mnB_or i k
  rcases h with ⟨h1, h⟩ | ⟨h1, h⟩ | ⟨h1, h2, n, hn, h⟩
  · refine ⟨h.1, fun hv => ?_⟩
    have h3 := (h.2.1 (v - 1) (by have := h.1; omega) (by omega)).1
    omega
  · rcases h with ⟨_, h⟩ | ⟨_, n, hn, h⟩
    · exact ⟨by omega, fun hv => by omega⟩
    · have := hn.1; exact ⟨by omega, fun hv => by omega⟩
  · have n0 := hn.1
    have hl := dg_le (v := n) hn.2.1 n0
    rcases h with ⟨_, h⟩ | ⟨_, h⟩
    · exact ⟨by omega, fun hv => by omega⟩
    · rcases h with ⟨_, h⟩ | ⟨_, b, hb, h⟩
      · exact ⟨by omega, fun hv => absurd h hv⟩
      · have b0 := hb.1
        have hl2 := dg_le (v := b) hb.2.1 b0
        exact ⟨by omega, fun hv => by omega⟩
/-- the least -/
def leR (i : Nat → Nat → Int32) (q k m v : Int) : Prop := (q = 115 ∧ v = m) ∨ (q = 119 ∧ v = 1) ∨ (q = 105 ∧ v = mnB i k + 1) ∨ (q ≠ 115 ∧ q ≠ 119 ∧ q ≠ 105 ∧ ∃ n : Int, dgR i (k + mnB i k) n ∧ v = mnB i k + n + 2)
theorem leR_u {i : Nat → Nat → Int32} {q k m v w : Int} (h : leR i q k m v) (g : leR i q k m w) : v = w := by
  rcases h with ⟨h1, h⟩ | ⟨h1, h⟩ | ⟨h1, h⟩ | ⟨h1, h2, h3, n, hn, h⟩ <;> rcases g with ⟨g1, g⟩ | ⟨g1, g⟩ | ⟨g1, g⟩ | ⟨g1, g2, g3, n2, gn, g⟩ <;> first | omega | (have := runR_u hn gn; subst this; omega)
/-- a text of the expression stands at k -/
def sdB (i : Nat → Nat → Int32) (t : Int) (k : Int) : Prop := k + (i 410 t.toNat).toInt ≤ (i 36 40).toInt ∧ ∀ j : Nat, (j : Int) < (i 410 t.toNat).toInt → (i 402 (k + (j : Int)).toNat).toInt = (i 411 ((i 409 t.toNat).toInt + (j : Int)).toNat).toInt
def endR (i : Nat → Nat → Int32) (p k w v : Int) : Prop :=
  ((i 406 p.toNat).toInt = 1 ∧ ((0 < w ∧ v = -2) ∨ (w ≤ 0 ∧ inB i k = (i 407 p.toNat).toInt ∧ v = k + 1) ∨ (w ≤ 0 ∧ inB i k ≠ (i 407 p.toNat).toInt ∧ v = -1))) ∨
  ((i 406 p.toNat).toInt = 2 ∧ ((1 < w ∧ v = -2) ∨ (w = 1 ∧ v = k) ∨ (w < 1 ∧ sdB i (i 407 p.toNat).toInt k ∧ v = k + (i 410 (i 407 p.toNat).toInt.toNat).toInt) ∨ (w < 1 ∧ ¬ sdB i (i 407 p.toNat).toInt k ∧ v = -1))) ∨
  ((i 406 p.toNat).toInt = 3 ∧ (((i 408 p.toNat).toInt ≤ w ∧ v = -2) ∨ (w < (i 408 p.toNat).toInt ∧ sdB i ((i 407 p.toNat).toInt + w) k ∧ v = k + (i 410 ((i 407 p.toNat).toInt + w).toNat).toInt) ∨ (w < (i 408 p.toNat).toInt ∧ ¬ sdB i ((i 407 p.toNat).toInt + w) k ∧ v = -1))) ∨
  ((i 406 p.toNat).toInt ≠ 1 ∧ (i 406 p.toNat).toInt ≠ 2 ∧ (i 406 p.toNat).toInt ≠ 3 ∧ ∃ m : Int, moR i (i 407 p.toNat).toInt k m ∧ ((m = 0 ∧ v = -2) ∨ (m ≠ 0 ∧ ∃ l : Int, leR i (i 407 p.toNat).toInt k m l ∧ ((m - w < l ∧ v = -2) ∨ (l ≤ m - w ∧ v = k + m - w)))))
theorem endR_u {i : Nat → Nat → Int32} {p k w v u : Int} (h : endR i p k w v) (g : endR i p k w u) : v = u := by
  rcases h with ⟨h0, h⟩ | ⟨h0, h⟩ | ⟨h0, h⟩ | ⟨h0, h0b, h0c, m, hm, h⟩ <;> rcases g with ⟨g0, g⟩ | ⟨g0, g⟩ | ⟨g0, g⟩ | ⟨g0, g0b, g0c, m2, gm, g⟩ <;> first | (exfalso; clear h g; omega) | skip
  · omega
  · rcases h with ⟨a, h⟩ | ⟨a, h⟩ | ⟨a, b, h⟩ | ⟨a, b, h⟩ <;> rcases g with ⟨c, g⟩ | ⟨c, g⟩ | ⟨c, d, g⟩ | ⟨c, d, g⟩ <;> first | omega | exact absurd b d | exact absurd d b
  · rcases h with ⟨a, h⟩ | ⟨a, b, h⟩ | ⟨a, b, h⟩ <;> rcases g with ⟨c, g⟩ | ⟨c, d, g⟩ | ⟨c, d, g⟩ <;> first | omega | exact absurd b d | exact absurd d b
  · have e := moR_u hm gm
    subst e
    rcases h with ⟨a, h⟩ | ⟨a, l, hl, h⟩ <;> rcases g with ⟨c, g⟩ | ⟨c, l2, gl, g⟩
    · omega
    · exact absurd a c
    · exact absurd c a
    · have e := leR_u hl gl
      subst e
      omega
/-- a bit of a row of bits -/
def bitP (x : Int64) (e : Int32) : Prop := (x.toUInt64.toNat >>> e.toInt.toNat) % 2 = 1
/-- the first way of a part at a place from which the rest fits; none -/
def wyR (i : Nat → Nat → Int32) (B : Int → Prop) (p k w : Int) : Prop := 0 ≤ w ∧ (∃ e : Int, endR i p k w e ∧ 0 ≤ e ∧ B e) ∧ ∀ u : Int, 0 ≤ u → u < w → ∃ e : Int, endR i p k u e ∧ e ≠ -2 ∧ ¬ (0 ≤ e ∧ B e)
def wnR (i : Nat → Nat → Int32) (B : Int → Prop) (p k : Int) : Prop := ∃ u : Int, 0 ≤ u ∧ (∀ a : Int, 0 ≤ a → a < u → ∃ e : Int, endR i p k a e ∧ e ≠ -2 ∧ ¬ (0 ≤ e ∧ B e)) ∧ ((62 ≤ u) ∨ endR i p k u (-2))
theorem wy_no {i : Nat → Nat → Int32} {B : Int → Prop} {p k w : Int} (h : wyR i B p k w) (hw : w < 62) (g : wnR i B p k) : False := by
  obtain ⟨h0, ⟨e, he, e0, eb⟩, hl⟩ := h
  obtain ⟨u, hu0, gl, gu⟩ := g
  by_cases hwu : w < u
  · obtain ⟨e2, g1, g2, g3⟩ := gl w h0 hwu
    have := endR_u he g1
    subst this
    exact g3 ⟨e0, eb⟩
  · rcases gu with gu | gu
    · omega
    · by_cases hq : u < w
      · obtain ⟨e2, g1, g2, _⟩ := hl u hu0 hq
        exact g2 (endR_u g1 gu)
      · have : u = w := by omega
        subst this
        have := endR_u he gu
        omega
/-- the parts and texts of an expression, as parse leaves them -/
def exU (i : Nat → Nat → Int32) (p : Nat) : Prop := (i 406 p).toInt = 1 ∨ ((i 406 p).toInt = 2 ∧ 0 ≤ (i 407 p).toInt ∧ (i 407 p).toInt < (i 36 49).toInt) ∨ ((i 406 p).toInt = 3 ∧ 0 ≤ (i 407 p).toInt ∧ (i 407 p).toInt + (i 408 p).toInt ≤ (i 36 49).toInt) ∨ ((i 406 p).toInt = 4 ∧ ((i 407 p).toInt = 105 ∨ (i 407 p).toInt = 100 ∨ (i 407 p).toInt = 119 ∨ (i 407 p).toInt = 115))
def exW (i : Nat → Nat → Int32) (t : Nat) : Prop := 0 ≤ (i 409 t).toInt ∧ 0 ≤ (i 410 t).toInt ∧ (i 409 t).toInt + (i 410 t).toInt ≤ (i 36 52).toInt
def exI (i : Nat → Nat → Int32) : Prop := (∀ p : Nat, (p : Int) < (i 36 45).toInt → exU i p) ∧ (∀ t : Nat, (t : Int) < (i 36 49).toInt → exW i t)
