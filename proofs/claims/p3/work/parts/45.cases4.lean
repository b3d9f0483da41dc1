/-! the cases of a reading, in their order -/
def csP (i : Nat → Nat → Int32) (r : Nat → Nat → Nat) (L : List (Nat × Int32)) : Prop := (i 13 4).toInt = (L.length : Int) ∧ ∀ (c s : Nat) (t : Int32), L[c]? = some (s, t) → r (216 + 1 * c) 0 = 42 + s ∧ i (216 + 1 * c) 3 = t
theorem take_app {α : Type} (n : Nat) (A B : List α) : ((A.take n) ++ B).take n = (A ++ B).take n := by
  rw [List.take_append, List.take_append, List.take_take, Nat.min_self]
  congr 2
  rw [List.length_take]
  omega
theorem csP_add {i u : Nat → Nat → Int32} {r s : Nat → Nat → Nat} {L : List (Nat × Int32)} {q : Nat} {y : Int32} (hq : 42 ≤ q) (h : csP i r L) (hl : L.length ≤ 24) (e0 : ((i 13 4).toInt = 24 ∧ (u 13 4).toInt = 24) ∨ ((i 13 4).toInt < 24 ∧ (u 13 4).toInt = (i 13 4).toInt + 1)) (e2 : (i 13 4).toInt < 24 → (s (216 + 1 * (i 13 4).toInt.toNat) 0 = q ∧ u (216 + 1 * (i 13 4).toInt.toNat) 3 = y)) (e3 : ∀ c : Nat, (c : Int) < (i 13 4).toInt → (s (216 + 1 * c) 0 = r (216 + 1 * c) 0 ∧ u (216 + 1 * c) 3 = i (216 + 1 * c) 3)) : csP u s ((L ++ [(q - 42, y)]).take 24) := by
  have h1 := h.1
  have hlt : ∀ (c : Nat) (p : Nat × Int32), L[c]? = some p → c < L.length := fun c p hc => (List.getElem?_eq_some_iff.mp hc).1
  by_cases hf : L.length = 24
  · rw [List.take_append_of_le_length (by omega), List.take_of_length_le (by omega)]
    refine ⟨by omega, fun c t y hc => ?_⟩
    have h5 := hlt c _ hc
    have h4 := e3 c (by omega)
    have h6 := h.2 c t y hc
    exact ⟨h4.1.trans h6.1, h4.2.trans h6.2⟩
  · rw [List.take_of_length_le (by simp; omega)]
    refine ⟨by simp; omega, fun c t y9 hc => ?_⟩
    by_cases h9 : c < L.length
    · rw [List.getElem?_append_left h9] at hc
      have h4 := e3 c (by omega)
      have h6 := h.2 c t y9 hc
      exact ⟨h4.1.trans h6.1, h4.2.trans h6.2⟩
    · have h8 : c < (L ++ [(q - 42, y)]).length := (List.getElem?_eq_some_iff.mp hc).1
      have h7 : c = L.length := by simp at h8; omega
      subst h7
      rw [List.getElem?_append_right (Nat.le_refl _), Nat.sub_self] at hc
      simp at hc
      have h4 := e2 (by omega)
      rw [show (i 13 4).toInt.toNat = L.length by omega] at h4
      exact ⟨by omega, h4.2.trans hc.2⟩
def csE (i : Nat → Nat → Int32) (q e : Nat) (k : Nat) : List (Nat × Int32) := List.replicate k (q - 42, ortags i q (i e 1))
def csX (i : Nat → Nat → Int32) (q : Nat) : Nat → List (Nat × Int32)
  | 0 => []
  | n + 1 => csX i q n ++ csE i q (84 + 1 * ((i q 7).toInt + (n : Int)).toNat) ((i (84 + 1 * ((i q 7).toInt + (n : Int)).toNat) 3).toInt - 1).toNat
def csS (i : Nat → Nat → Int32) (s : Nat) : List (Nat × Int32) := (if (i (42 + 1 * s) 8).toInt = 0 then [(s, ortags i (42 + 1 * s) 0)] else []) ++ csX i (42 + 1 * s) (i (42 + 1 * s) 8).toInt.toNat
def csA (i : Nat → Nat → Int32) : Nat → List (Nat × Int32)
  | 0 => []
  | n + 1 => csA i n ++ csS i n
theorem csE_s (i : Nat → Nat → Int32) (q e k : Nat) : csE i q e (k + 1) = csE i q e k ++ [(q - 42, ortags i q (i e 1))] := by unfold csE; rw [List.replicate_succ']
theorem ortags_fr {i u : Nat → Nat → Int32} {q : Nat} {x : Int32} (hO : OkI i) (h1 : 37 ≤ q) (h2 : q < 96) (f : ∀ a, (37 ≤ a ∧ a < 96) → u a = i a) : ortags u q x = ortags i q x := by
  have h3 := bxp hO h1 h2
  unfold ortags
  rw [f 37 ⟨by omega, by omega⟩, f q ⟨h1, h2⟩, f (37 + 1 * (i q 6).toInt.toNat) ⟨by omega, by omega⟩]
theorem csP_len {i : Nat → Nat → Int32} {r : Nat → Nat → Nat} {L : List (Nat × Int32)} (hO : OkI i) (h : csP i r L) : L.length ≤ 24 := by
  have h1 := h.1
  have h2 : (i 13 4).toInt ≤ 24 := (hO 13 4).2
  omega
theorem PC_0 {i u : Nat → Nat → Int32} {r : Nat → Nat → Nat} (h : PC i r) (h0 : (u 13 4).toInt = 0) : PC u r := fun c hc => ⟨fun h9 => by omega, (h c hc).2⟩
theorem csP_0 {u : Nat → Nat → Int32} {r : Nat → Nat → Nat} (h0 : (u 13 4).toInt = 0) : csP u r [] := ⟨by rw [h0]; rfl, fun c s t h => by simp at h⟩
theorem csE_fr {i u : Nat → Nat → Int32} {q e k : Nat} (hO : OkI i) (h1 : 37 ≤ q) (h2 : q < 96) (h3 : 37 ≤ e) (h4 : e < 96) (f : ∀ a, (37 ≤ a ∧ a < 96) → u a = i a) : csE u q e k = csE i q e k := by unfold csE; rw [ortags_fr hO h1 h2 f, f e ⟨h3, h4⟩]
