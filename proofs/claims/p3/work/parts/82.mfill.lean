/-! what a step's text becomes: names replaced, the reference -/
/-- a name stands at k, with > behind it -/
def nmM (f ct : Nat → Int32) (st len k : Int) (cell many : Int) : Prop := k + many < len ∧ (f (st + k + many).toNat).toInt = 62 ∧ ∀ j : Nat, (j : Int) < many → (f (st + k + (j : Int)).toNat).toInt = (ct (60 * cell + (j : Int)).toNat).toInt
def nmX (f ct cs : Nat → Int32) (st len k nm n : Int) : Prop := nmM f ct st len k (4 * nm + n) (cs (4 * nm + n).toNat).toInt
/-- the first column whose name stands there, -1 without -/
def nmR (f ct cs : Nat → Int32) (st len k nm cells v : Int) : Prop := (0 ≤ v ∧ v < cells ∧ nmX f ct cs st len k nm v ∧ ∀ n : Int, 0 ≤ n → n < v → ¬ nmX f ct cs st len k nm n) ∨ (v = -1 ∧ ∀ n : Int, 0 ≤ n → n < cells → ¬ nmX f ct cs st len k nm n)
theorem nmR_u {f ct cs : Nat → Int32} {st len k nm cells v w : Int} (h : nmR f ct cs st len k nm cells v) (g : nmR f ct cs st len k nm cells w) : v = w := by
  rcases h with ⟨h1, h2, h3, h4⟩ | ⟨h1, h2⟩ <;> rcases g with ⟨g1, g2, g3, g4⟩ | ⟨g1, g2⟩
  · rcases Int.lt_trichotomy v w with q | q | q
    · exact absurd h3 (g4 v h1 q)
    · exact q
    · exact absurd g3 (h4 w g1 q)
  · exact absurd h3 (g2 v h1 h2)
  · exact absurd g3 (h2 w g1 g2)
  · omega
/-- the columns before n don't stand there -/
def nmN (f ct cs : Nat → Int32) (st len k nm : Int) (n : Int) : Prop := ∀ a : Int, 0 ≤ a → a < n → ¬ nmX f ct cs st len k nm a
theorem nmN_s {f ct cs : Nat → Int32} {st len k nm n m : Int} (h : nmN f ct cs st len k nm n) (hm : m = n + 1) (g : ¬ nmX f ct cs st len k nm n) : nmN f ct cs st len k nm m := fun a h0 h1 => by
  by_cases e : a = n
  · subst e; exact g
  · exact h a h0 (by omega)
/-- what comes out of a text from k on -/
def flR (f ct cs : Nat → Int32) (st len nm cells rw_ : Int) : Nat → Int → List Int → Prop
  | 0, k, l => len ≤ k ∧ l = []
  | u + 1, k, l => (len ≤ k ∧ l = []) ∨ (k < len ∧ ((((nm < 0 ∨ (f (st + k).toNat).toInt ≠ 60) ∨ nmR f ct cs st len (k + 1) nm cells (-1)) ∧ ∃ t, flR f ct cs st len nm cells rw_ u (k + 1) t ∧ l = (f (st + k).toNat).toInt :: t) ∨ (0 ≤ nm ∧ (f (st + k).toNat).toInt = 60 ∧ ∃ n : Int, 0 ≤ n ∧ nmR f ct cs st len (k + 1) nm cells n ∧ ∃ t, flR f ct cs st len nm cells rw_ u (k + (2 + (cs (4 * nm + n).toNat).toInt)) t ∧ l = tgL ct (60 * (4 * rw_ + n)).toNat (cs (4 * rw_ + n).toNat).toInt.toNat ++ t)))
theorem flR_u {f ct cs : Nat → Int32} {st len nm cells rw_ : Int} : ∀ (u w : Nat) (k : Int) (l m : List Int), flR f ct cs st len nm cells rw_ u k l → flR f ct cs st len nm cells rw_ w k m → l = m
  | 0, 0, k, l, m, h, g => by rw [h.2, g.2]
  | 0, w + 1, k, l, m, h, g => by
    rcases g with ⟨_, g⟩ | ⟨g, _⟩
    · rw [h.2, g]
    · have := h.1; omega
  | u + 1, 0, k, l, m, h, g => by
    rcases h with ⟨_, h⟩ | ⟨h, _⟩
    · rw [g.2, h]
    · have := g.1; omega
  | u + 1, w + 1, k, l, m, h, g => by
    rcases h with ⟨h0, h⟩ | ⟨h0, h⟩ <;> rcases g with ⟨g0, g⟩ | ⟨g0, g⟩
    · rw [h, g]
    · omega
    · omega
    · rcases h with ⟨hc, t, ht, h⟩ | ⟨h1, h2, n, h3, h4, t, ht, h⟩ <;> rcases g with ⟨gc, s, gs, g⟩ | ⟨g1, g2, n2, g3, g4, s, gs, g⟩
      · rw [h, g, flR_u u w (k + 1) t s ht gs]
      · exfalso
        rcases hc with (hc | hc) | hc
        · omega
        · exact hc g2
        · have := nmR_u hc g4; omega
      · exfalso
        rcases gc with (gc | gc) | gc
        · omega
        · exact gc h2
        · have := nmR_u gc h4; omega
      · have e := nmR_u h4 g4
        subst e
        rw [h, g, flR_u u w _ t s ht gs]
/-- what is kept of it: 60 characters -/
def bfL (i : Nat → Nat → Int32) : List Int := tgL (i 402) 0 (i 36 40).toInt.toNat
theorem take60 {B l m : List Int} (h : ∀ R : List Int, (m ++ R).take 60 = (B ++ (l ++ R)).take 60) (R : List Int) : (m ++ R).take 60 = (B ++ (l ++ R)).take 60 := h R
/-- a character is added, where there is room -/
theorem bf_add {i u : Nat → Nat → Int32} {x : Int} (hx : ((i 36 40).toInt = 60 ∧ u = i) ∨ ((i 36 40).toInt ≠ 60 ∧ (u 36 40).toInt = (i 36 40).toInt + 1 ∧ (u 402 (i 36 40).toInt.toNat).toInt = x ∧ ∀ k : Nat, k ≠ (i 36 40).toInt.toNat → u 402 k = i 402 k)) (h0 : 0 ≤ (i 36 40).toInt) (R : List Int) : (bfL u ++ R).take 60 = (bfL i ++ (x :: R)).take 60 := by
  rcases hx with ⟨h60, hu⟩ | ⟨hn, h1, h2, h3⟩
  · subst hu
    have hl : (bfL u).length = 60 := by unfold bfL; rw [tgL_len]; omega
    rw [List.take_append_of_le_length (by omega), List.take_append_of_le_length (by omega)]
  · have e : bfL u = bfL i ++ [x] := by
      unfold bfL
      rw [show (u 36 40).toInt.toNat = (i 36 40).toInt.toNat + 1 by omega, tgL_snoc, Nat.zero_add, h2]
      congr 1
      exact tgL_ext _ _ _ (fun j hj => by rw [Nat.zero_add, h3 j (by omega)])
    rw [e, List.append_assoc]; rfl
theorem bfL_len {i : Nat → Nat → Int32} (hO : OkI i) : (bfL i).length ≤ 60 := by
  have h : (0 : Int) ≤ (i 36 40).toInt ∧ (i 36 40).toInt ≤ 60 := hO 36 40
  unfold bfL
  rw [tgL_len]; omega
/-- the text of a case's step as it is laid into the buffer -/
def ldR (i : Nat → Nat → Int32) (c : Nat) (k : Int) (l : List Int) : Prop := ∃ s : Int, stR i c k s ∧ ∃ (u : Nat) (m : List Int), flR (i 389) (i 396) (i 395) (60 * s) (i 388 s.toNat).toInt (if (i 386 s.toNat).toInt = (i 397 c).toInt then (i 399 c).toInt else -1) (i 394 (if (i 386 s.toNat).toInt = (i 397 c).toInt then (i 399 c).toInt else -1).toNat).toInt (i 398 c).toInt u 0 m ∧ l = m.take 60
theorem ldR_u {i : Nat → Nat → Int32} {c : Nat} {k : Int} {l m : List Int} (h : ldR i c k l) (g : ldR i c k m) : l = m := by
  obtain ⟨s, hs, u, l2, h, e1⟩ := h
  obtain ⟨t, ht, w, m2, g, e2⟩ := g
  have e := stR_u hs ht
  subst e
  rw [e1, e2, flR_u u w 0 l2 m2 h g]
/-- what a step's text hangs on is the same -/
def ldE (i u : Nat → Nat → Int32) : Prop := u 36 17 = i 36 17 ∧ ∀ a : Nat, 385 ≤ a → a ≤ 399 → u a = i a
theorem ldR_fr {i v : Nat → Nat → Int32} {c : Nat} {k : Int} {l : List Int} (e : ldE i v) : ldR v c k l ↔ ldR i c k l := by
  obtain ⟨e1, e2⟩ := e
  have hm : ∀ w : Int, mst v w = mst i w := fun w => by unfold mst; rw [e1, e2 386 (by decide) (by decide)]
  unfold ldR stR fdR mbg
  simp only [hm, e1, e2 385 (by decide) (by decide), e2 386 (by decide) (by decide), e2 388 (by decide) (by decide), e2 389 (by decide) (by decide), e2 394 (by decide) (by decide), e2 395 (by decide) (by decide), e2 396 (by decide) (by decide), e2 397 (by decide) (by decide), e2 398 (by decide) (by decide), e2 399 (by decide) (by decide)]
