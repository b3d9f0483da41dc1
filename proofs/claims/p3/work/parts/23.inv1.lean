/-! what always holds of the class's parts, rows, expressions and cases -/
theorem upr_o (r : Nat → Nat → Nat) {n k a b : Nat} (v : Nat) (h : ¬ (a = n ∧ b = k)) : upr r n k v a b = r a b := by
  by_cases ha : a = n
  · subst ha
    exact upr_k r v (fun q => h ⟨rfl, q⟩)
  · exact congrFun (upr_n r v ha) b
/-- a part's steps and rows, its piece of the text, its EXAMPLES -/
def PO (i : Nat → Nat → Int32) : Prop := ∀ p : Nat, 37 ≤ p → p < 96 → (p < 54 → (i p 2).toInt + (i p 3).toInt ≤ 30) ∧ (54 ≤ p → (i p 2).toInt + (i p 3).toInt ≤ 40) ∧ (i p 4).toInt + (i p 5).toInt ≤ 480 ∧ (42 ≤ p → p < 54 → (i p 7).toInt + (i p 8).toInt ≤ 12)
theorem PO_fr {i i' : Nat → Nat → Int32} (h : PO i) (f : ∀ a, (37 ≤ a ∧ a < 96) → i' a = i a) : PO i' := fun p h1 h2 => by rw [f p ⟨h1, h2⟩]; exact h p h1 h2
/-- a cell's place and length -/
def PW (i : Nat → Nat → Int32) : Prop := ∀ j c : Nat, j < 40 → c < 4 → (i (96 + 3 * j + 1) c).toInt + (i (96 + 3 * j + 2) c).toInt ≤ 480
theorem PW_fr {i i' : Nat → Nat → Int32} (h : PW i) (f : ∀ a, (96 ≤ a ∧ a < 216) → i' a = i a) : PW i' := fun j c h1 h2 => by rw [f (96 + 3 * j + 1) ⟨by omega, by omega⟩, f (96 + 3 * j + 2) ⟨by omega, by omega⟩]; exact h j c h1 h2
/-- the first choice of an expression begins at 0 -/
def PX (i : Nat → Nat → Int32) : Prop := ∀ j : Nat, j < 13 → (i (240 + 9 * j + 2) 0).toInt = 0
theorem PX_fr {i i' : Nat → Nat → Int32} (h : PX i) (f : ∀ a, (240 ≤ a ∧ a < 357) → i' a = i a) : PX i' := fun j h1 => by rw [f (240 + 9 * j + 2) ⟨by omega, by omega⟩]; exact h j h1
/-- what the cases name -/
def PC (i : Nat → Nat → Int32) (r : Nat → Nat → Nat) : Prop := ∀ c : Nat, c < 24 → ((c : Int) < (i 13 4).toInt → 42 ≤ r (216 + 1 * c) 0 ∧ r (216 + 1 * c) 0 < 54) ∧ ((¬ r (216 + 1 * c) 1 < nK ∧ ¬ r (216 + 1 * c) 2 < nK) ∨ ((∃ j, j < 40 ∧ r (216 + 1 * c) 1 = 96 + 3 * j) ∧ (∃ j, j < 40 ∧ r (216 + 1 * c) 2 = 96 + 3 * j)))
theorem PC_fr {i i' : Nat → Nat → Int32} {r r' : Nat → Nat → Nat} (h : PC i r) (f : ∀ a, (a = 13) → i' a = i a) (f2 : ∀ a b, (216 ≤ a ∧ a < 240) → r' a b = r a b) : PC i' r' := fun c h1 => by rw [f 13 rfl, f2 (216 + 1 * c) 0 ⟨by omega, by omega⟩, f2 (216 + 1 * c) 1 ⟨by omega, by omega⟩, f2 (216 + 1 * c) 2 ⟨by omega, by omega⟩]; exact h c h1
/-- how many steps stand before a SCENARIO's own; how many a case of it has; which of all steps a step of it is -/
def bgc (i : Nat → Nat → Int32) (q : Nat) : Int := (i 37 3).toInt + (if (i q 6).toInt = 0 then 0 else (i (37 + 1 * (i q 6).toInt.toNat) 3).toInt)
def scn (i : Nat → Nat → Int32) (q : Nat) : Int := if (i q 3).toInt = 0 then 0 else bgc i q + (i q 3).toInt
def stp (i : Nat → Nat → Int32) (q : Nat) (y : Int) : Int := if y < (i 37 3).toInt then (i 37 2).toInt + y else if y < bgc i q then (i (37 + 1 * (i q 6).toInt.toNat) 2).toInt + y - (i 37 3).toInt else (i q 2).toInt + y - bgc i q
theorem bgc_or (i : Nat → Nat → Int32) (q : Nat) : ((i q 6).toInt = 0 ∧ bgc i q = (i 37 3).toInt) ∨ ((i q 6).toInt ≠ 0 ∧ bgc i q = (i 37 3).toInt + (i (37 + 1 * (i q 6).toInt.toNat) 3).toInt) := by
  unfold bgc
  by_cases h : (i q 6).toInt = 0
  · rw [if_pos h]; exact Or.inl ⟨h, by omega⟩
  · rw [if_neg h]; exact Or.inr ⟨h, rfl⟩
theorem scn_or (i : Nat → Nat → Int32) (q : Nat) : ((i q 3).toInt = 0 ∧ scn i q = 0) ∨ ((i q 3).toInt ≠ 0 ∧ scn i q = bgc i q + (i q 3).toInt) := by
  unfold scn
  by_cases h : (i q 3).toInt = 0
  · rw [if_pos h]; exact Or.inl ⟨h, rfl⟩
  · rw [if_neg h]; exact Or.inr ⟨h, rfl⟩
theorem stp_or (i : Nat → Nat → Int32) (q : Nat) (y : Int) : (y < (i 37 3).toInt ∧ stp i q y = (i 37 2).toInt + y) ∨ ((i 37 3).toInt ≤ y ∧ y < bgc i q ∧ stp i q y = (i (37 + 1 * (i q 6).toInt.toNat) 2).toInt + y - (i 37 3).toInt) ∨ ((i 37 3).toInt ≤ y ∧ bgc i q ≤ y ∧ stp i q y = (i q 2).toInt + y - bgc i q) := by
  unfold stp
  by_cases h : y < (i 37 3).toInt
  · rw [if_pos h]; exact Or.inl ⟨h, rfl⟩
  · rw [if_neg h]
    by_cases h2 : y < bgc i q
    · rw [if_pos h2]; exact Or.inr (Or.inl ⟨by omega, h2, rfl⟩)
    · rw [if_neg h2]; exact Or.inr (Or.inr ⟨by omega, by omega, rfl⟩)
theorem bxp {i : Nat → Nat → Int32} (h : OkI i) {p : Nat} (h1 : 37 ≤ p) (h2 : p < 96) : 0 ≤ (i p 2).toInt ∧ (i p 2).toInt ≤ 40 ∧ 0 ≤ (i p 3).toInt ∧ (i p 3).toInt ≤ 40 ∧ 0 ≤ (i p 4).toInt ∧ 0 ≤ (i p 5).toInt ∧ (i p 5).toInt ≤ 60 ∧ 0 ≤ (i p 6).toInt ∧ (i p 6).toInt ≤ 4 ∧ 0 ≤ (i p 7).toInt ∧ 0 ≤ (i p 8).toInt := by
  have f := fun k => h p k
  simp only [bx_part h1 h2] at f
  exact ⟨(f 2).1, (f 2).2, (f 3).1, (f 3).2, (f 4).1, (f 5).1, (f 5).2, (f 6).1, (f 6).2, (f 7).1, (f 8).1⟩
/-- a definition that is kept has no more than 6 parameters and is well laid -/
def PD (i : Nat → Nat → Int32) : Prop := ∀ j : Nat, (j : Int) < (i 0 7).toInt → cn i j ≤ 6 ∧ mono i j
theorem PD_fr {i i' : Nat → Nat → Int32} (hO : OkI i) (h : PD i) (f : ∀ a, (a = 0 ∨ (240 ≤ a ∧ a < 357 ∧ (a - 240) % 9 ≠ 6 ∧ (a - 240) % 9 ≠ 7)) → i' a = i a) : PD i' := fun j h1 => by
  have h0 : (i 0 7).toInt ≤ 12 := (hO 0 7).2
  have e0 : i' 0 = i 0 := f 0 (Or.inl rfl)
  rw [e0] at h1
  have h2 := h j h1
  have f0 := f (240 + 9 * j) (Or.inr ⟨by omega, by omega, by omega, by omega⟩)
  refine ⟨?_, mono_same h2.2 (f (240 + 9 * j + 2) (Or.inr ⟨by omega, by omega, by omega, by omega⟩)) (f (240 + 9 * j + 4) (Or.inr ⟨by omega, by omega, by omega, by omega⟩)) (by rw [f0]) (by rw [f0])⟩
  unfold cn; rw [f (240 + 9 * j + 3) (Or.inr ⟨by omega, by omega, by omega, by omega⟩), f0]
  exact h2.1
