/-! which hooks are due; what a case still takes -/
def cnl (P : Nat → Bool) : Nat → Nat
  | 0 => 0
  | n + 1 => cnl P n + (if P n = true then 1 else 0)
theorem cnl_no {P : Nat → Bool} {n : Nat} (h : P n = false) : cnl P (n + 1) = cnl P n := by
  show cnl P n + _ = _
  rw [if_neg (by rw [h]; decide)]; rfl
theorem cnl_yes {P : Nat → Bool} {n : Nat} (h : P n = true) : cnl P (n + 1) = cnl P n + 1 := by
  show cnl P n + _ = _
  rw [if_pos h]
/-- whether expression h holds for a row of tags -/
def tgH (i : Nat → Nat → Int32) (j : Nat) (x : Int32) : Bool := decide ((i (357 + 2 * j) 1).toInt = 0) || (tgV i j x == some true)
/-- an expression that is kept: without blanks, and well formed -/
def tgO (i : Nat → Nat → Int32) (j : Nat) : Prop := (∀ k : Nat, k < (i (357 + 2 * j) 1).toInt.toNat → (i (357 + 2 * j + 1) k).toInt ≠ 32) ∧ ((i (357 + 2 * j) 1).toInt = 0 ∨ tgV i j 0 ≠ none)
/-- the expressions' texts are the same -/
def tgE (i u : Nat → Nat → Int32) : Prop := ∀ t : Nat, t < 11 → u (357 + 2 * t + 1) = i (357 + 2 * t + 1) ∧ (u (357 + 2 * t) 1).toInt = (i (357 + 2 * t) 1).toInt
theorem tgE.refl (i : Nat → Nat → Int32) : tgE i i := fun _ _ => ⟨rfl, rfl⟩
theorem tgE.trans {i u w : Nat → Nat → Int32} (h1 : tgE i u) (h2 : tgE u w) : tgE i w := fun t ht => ⟨(h2 t ht).1.trans (h1 t ht).1, (h2 t ht).2.trans (h1 t ht).2⟩
theorem tgE.of {i u : Nat → Nat → Int32} (h : ∀ a, (357 ≤ a ∧ a < 379) → u a = i a) : tgE i u := fun t ht => ⟨h _ ⟨by omega, by omega⟩, by rw [h (357 + 2 * t) ⟨by omega, by omega⟩]⟩
theorem tgE.one {i u : Nat → Nat → Int32} {j : Nat} (hj : j < 11) (h : ∀ a, ¬ (a = 357 + 2 * j) → u a = i a) (h2 : (u (357 + 2 * j) 1).toInt = (i (357 + 2 * j) 1).toInt) : tgE i u := fun t ht => by
  refine ⟨h _ (by omega), ?_⟩
  by_cases q : t = j
  · subst q; exact h2
  · rw [h _ (by omega)]
theorem tgE.v {i u : Nat → Nat → Int32} (h : tgE i u) {j : Nat} (hj : j < 11) (x : Int32) : tgV u j x = tgV i j x := tgV_fr (h j hj).1 (h j hj).2
theorem tgE.h {i u : Nat → Nat → Int32} (h : tgE i u) {j : Nat} (hj : j < 11) (x : Int32) : tgH u j x = tgH i j x := by unfold tgH; rw [h.v hj, (h j hj).2]
theorem tgE.o {i u : Nat → Nat → Int32} (h : tgE i u) {j : Nat} (hj : j < 11) (ho : tgO i j) : tgO u j := by
  unfold tgO
  rw [(h j hj).1, (h j hj).2, h.v hj]; exact ho
theorem hold_tgH {i : Nat → Nat → Int32} {j : Nat} {x : Int32} {v : Int} (ho : tgO i j) (h0 : (i (357 + 2 * j) 1).toInt = 0 → v = 1) (h1 : ∀ b : Bool, (i (357 + 2 * j) 1).toInt ≠ 0 → tgV i j x = some b → v = (if b then 1 else 0)) : v = if tgH i j x = true then 1 else 0 := by
  unfold tgH
  by_cases q : (i (357 + 2 * j) 1).toInt = 0
  · rw [h0 q]; simp [q]
  · have h2 : tgV i j x ≠ none := fun h => (ho.2.resolve_left q) ((tgV_none i j x 0).mp h)
    cases h3 : tgV i j x with
    | none => exact absurd h3 h2
    | some b => rw [h1 b q h3]; cases b <;> simp [q]
/-- hook h is due before (1) or after (0) a case with these tags -/
def hdue (i : Nat → Nat → Int32) (b : Int) (x : Int32) (h : Nat) : Bool := decide ((i 33 h).toInt = b) && tgH i h x
theorem hdue_no {i : Nat → Nat → Int32} {b : Int} {x : Int32} {h : Nat} (g : (i 33 h).toInt ≠ b) : hdue i b x h = false := by unfold hdue; simp [g]
theorem hdue_v {i : Nat → Nat → Int32} {b : Int} {x : Int32} {h : Nat} (g : (i 33 h).toInt = b) : hdue i b x h = tgH i h x := by unfold hdue; simp [g]
/-- all hooks that are kept are well formed -/
def PK (i : Nat → Nat → Int32) : Prop := ∀ h : Nat, (h : Int) < (i 0 11).toInt → tgO i h
theorem PK.same {i u : Nat → Nat → Int32} (hO : OkI i) (h : PK i) (e : tgE i u) (h2 : (u 0 11).toInt = (i 0 11).toInt) : PK u := fun t ht => e.o (by have := (hO 0 11).2; have h9 : (bx 0 11).2 = 8 := rfl; omega) (h t (by omega))
theorem hdue_same {i u : Nat → Nat → Int32} (e : tgE i u) (h33 : u 33 = i 33) {h : Nat} (hh : h < 11) (b : Int) (x : Int32) : hdue u b x h = hdue i b x h := by unfold hdue; rw [h33, e.h hh]
theorem cnl_same {P Q : Nat → Bool} : ∀ n : Nat, (∀ k : Nat, k < n → P k = Q k) → cnl P n = cnl Q n
  | 0, _ => rfl
  | n + 1, h => by
    show cnl P n + _ = cnl Q n + _
    rw [cnl_same n (fun k hk => h k (by omega)), h n (by omega)]
theorem cnl_up {P : Nat → Bool} {a : Nat} : ∀ {b : Nat}, a ≤ b → cnl P a ≤ cnl P b := by
  intro b h
  induction h with
  | refl => exact Nat.le_refl _
  | step _ ih => exact Nat.le_trans ih (Nat.le_add_right _ _)
