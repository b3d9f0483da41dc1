/-! the reference's cases -/
/-- a case with a row of names has a row -/
def NR (i : Nat → Nat → Int32) : Prop := ∀ c : Nat, (i 399 c).toInt < 0 ∨ 0 ≤ (i 398 c).toInt
theorem NR_fr {i u : Nat → Nat → Int32} (h : NR i) (e1 : u 399 = i 399) (e2 : u 398 = i 398) : NR u := fun c => by rw [e1, e2]; exact h c
def mcP (m : Nat → Nat → Int32) (L : List (Nat × Int32)) : Prop := (m 36 33).toInt = (L.length : Int) ∧ ∀ (c s : Nat) (t : Int32), L[c]? = some (s, t) → (m 397 c).toInt = (s : Int) ∧ m 400 c = t
theorem mcP_len {m : Nat → Nat → Int32} {L : List (Nat × Int32)} (hO : OkI m) (h : mcP m L) : L.length ≤ 24 := by
  have h1 : (m 36 33).toInt ≤ 24 := (hO 36 33).2
  have h2 := h.1
  omega
theorem mcP_add {i u : Nat → Nat → Int32} {L : List (Nat × Int32)} {s : Nat} {y : Int32} (h : mcP i L) (hl : L.length ≤ 24) (e0 : ((i 36 33).toInt = 24 ∧ u = i) ∨ ((i 36 33).toInt < 24 ∧ (u 36 33).toInt = (i 36 33).toInt + 1 ∧ (u 397 (i 36 33).toInt.toNat).toInt = (s : Int) ∧ u 400 (i 36 33).toInt.toNat = y ∧ ∀ c : Nat, c ≠ (i 36 33).toInt.toNat → u 397 c = i 397 c ∧ u 400 c = i 400 c)) : mcP u ((L ++ [(s, y)]).take 24) := by
  have h1 := h.1
  have hlt : ∀ (c : Nat) (p : Nat × Int32), L[c]? = some p → c < L.length := fun c p hc => (List.getElem?_eq_some_iff.mp hc).1
  rcases e0 with ⟨h24, hu⟩ | ⟨h24, hc33, ha, hb, hc⟩
  · subst hu
    rw [List.take_append_of_le_length (by omega), List.take_of_length_le (by omega)]
    exact h
  · rw [List.take_of_length_le (by simp; omega)]
    refine ⟨by simp; omega, fun c t y9 hcc => ?_⟩
    by_cases h9 : c < L.length
    · rw [List.getElem?_append_left h9] at hcc
      have h4 := hc c (by omega)
      have h6 := h.2 c t y9 hcc
      exact ⟨by rw [h4.1]; exact h6.1, h4.2.trans h6.2⟩
    · have h8 : c < (L ++ [(s, y)]).length := (List.getElem?_eq_some_iff.mp hcc).1
      have h7 : c = L.length := by simp at h8; omega
      subst h7
      rw [List.getElem?_append_right (Nat.le_refl _), Nat.sub_self] at hcc
      simp at hcc
      rw [show (i 36 33).toInt.toNat = L.length by omega] at ha hb
      exact ⟨by rw [ha, hcc.1], hb.trans hcc.2⟩
theorem mcP_fr {i u : Nat → Nat → Int32} {L : List (Nat × Int32)} (h : mcP i L) (h33 : u 36 33 = i 36 33) (h397 : u 397 = i 397) (h400 : u 400 = i 400) : mcP u L := by
  unfold mcP at h ⊢
  rw [h33, h397, h400]; exact h
theorem or4 (x a b c : Int32) : x ||| a ||| b ||| c = c ||| b ||| a ||| x := by
  rw [Int32.or_comm (x ||| a ||| b) c, Int32.or_comm (x ||| a) b, Int32.or_comm x a, ← Int32.or_assoc, ← Int32.or_assoc]
def clp (a b : Int) : Nat := if a ≤ 0 then 0 else if a ≤ b then a.toNat else b.toNat
theorem clp_s (a b : Int) : (0 ≤ a ∧ a < b ∧ clp (a + 1) b = clp a b + 1 ∧ (clp a b : Int) = a) ∨ (¬ (0 ≤ a ∧ a < b) ∧ clp (a + 1) b = clp a b) := by
  unfold clp
  by_cases h1 : 0 ≤ a ∧ a < b
  · refine Or.inl ⟨h1.1, h1.2, ?_, ?_⟩
    · rw [if_neg (by omega), if_pos (by omega)]
      by_cases h2 : a ≤ 0
      · rw [if_pos h2]; omega
      · rw [if_neg h2, if_pos (by omega)]; omega
    · by_cases h2 : a ≤ 0
      · rw [if_pos h2]; omega
      · rw [if_neg h2, if_pos (by omega)]; omega
  · refine Or.inr ⟨h1, ?_⟩
    by_cases h2 : a ≤ 0
    · rw [if_pos h2]
      by_cases h3 : a + 1 ≤ 0
      · rw [if_pos h3]
      · rw [if_neg h3, if_neg (by omega)]; omega
    · rw [if_neg h2, if_neg (by omega)]
      by_cases h3 : a + 1 ≤ b
      · omega
      · rw [if_neg h3]
        by_cases h4 : a ≤ b
        · rw [if_pos h4]; omega
        · rw [if_neg h4]
theorem clp_0 {a b : Int} (h : a ≤ 0) : clp a b = 0 := by unfold clp; rw [if_pos h]
theorem clp_b {a b : Int} (h : b ≤ a) (h0 : 0 ≤ b) : clp a b = b.toNat := by
  unfold clp
  by_cases h1 : a ≤ 0
  · rw [if_pos h1]; omega
  · rw [if_neg h1]
    by_cases h2 : a ≤ b
    · rw [if_pos h2]; omega
    · rw [if_neg h2]
/-- the list while the EXAMPLES of a SCENARIO, and their rows, are gone through -/
def csM (c : Nat → Nat → Int32) (s : Nat) (e : Int) : List (Nat × Int32) := csA c s ++ csX c (42 + 1 * s) (clp (e - (c (42 + 1 * s) 7).toInt) (c (42 + 1 * s) 8).toInt)
def csR (c : Nat → Nat → Int32) (s e : Nat) (f : Int) : List (Nat × Int32) := csM c s (e : Int) ++ csE c (42 + 1 * s) (84 + 1 * e) (clp (f - (c (84 + 1 * e) 2).toInt - 1) ((c (84 + 1 * e) 3).toInt - 1))
section MC1
variable {m c : Nat → Nat → Int32} {o t : Nat} {s e k : Nat} {v : Int}
/-- the first row of some EXAMPLES -/
theorem fst_mq (hF : mqF m c) (s7 : (m 36 26).toInt = (c 3 14).toInt) (h0 : 0 ≤ (c (84 + e) 2).toInt) (he : (e : Int) < (c 3 12).toInt) (h : (v = -1 ∧ (cnt (m 392) (100 + (e : Int)) (m 36 26).toInt.toNat : Int) ≤ 0) ∨ (0 ≤ v ∧ v < (m 36 26).toInt ∧ (m 392 v.toNat).toInt = 100 + (e : Int) ∧ (cnt (m 392) (100 + (e : Int)) v.toNat : Int) = 0)) : ((c (84 + e) 3).toInt ≤ 0 ∧ v = -1) ∨ (0 < (c (84 + e) 3).toInt ∧ v = (c (84 + e) 2).toInt) := by
  have F9 := hF e he
  by_cases h3 : 0 < (c (84 + e) 3).toInt
  · refine Or.inr ⟨h3, ?_⟩
    have h2 := (F9.2 (c (84 + e) 2).toInt.toNat (by omega)).mpr ⟨by omega, by omega⟩
    rcases h with ⟨_, h⟩ | ⟨v0, v1, v2, v3⟩
    · have := cnt_pos h2 (m 36 26).toInt.toNat (by omega); omega
    · have h5 := (F9.2 v.toNat (by omega)).mp v2
      by_cases h6 : (c (84 + e) 2).toInt.toNat < v.toNat
      · have := cnt_pos h2 v.toNat h6; omega
      · omega
  · refine Or.inl ⟨by omega, ?_⟩
    rcases h with ⟨h, _⟩ | ⟨v0, v1, v2, v3⟩
    · exact h
    · have h5 := (F9.2 v.toNat (by omega)).mp v2
      omega
theorem csR_y (h : 0 ≤ (k : Int) - (c (84 + 1 * e) 2).toInt - 1 ∧ (k : Int) - (c (84 + 1 * e) 2).toInt - 1 < (c (84 + 1 * e) 3).toInt - 1) : csR c s e ((k : Int) + 1) = csR c s e (k : Int) ++ [(s, ortags c (42 + 1 * s) (c (84 + 1 * e) 1))] := by
  unfold csR
  rcases clp_s ((k : Int) - (c (84 + 1 * e) 2).toInt - 1) ((c (84 + 1 * e) 3).toInt - 1) with ⟨_, _, h1, _⟩ | ⟨h1, _⟩
  · rw [show (k : Int) + 1 - (c (84 + 1 * e) 2).toInt - 1 = (k : Int) - (c (84 + 1 * e) 2).toInt - 1 + 1 by omega, h1, csE_s, List.append_assoc, show 42 + 1 * s - 42 = s by omega]
  · exact absurd h h1
theorem csR_n (h : ¬ (0 ≤ (k : Int) - (c (84 + 1 * e) 2).toInt - 1 ∧ (k : Int) - (c (84 + 1 * e) 2).toInt - 1 < (c (84 + 1 * e) 3).toInt - 1)) : csR c s e ((k : Int) + 1) = csR c s e (k : Int) := by
  unfold csR
  rcases clp_s ((k : Int) - (c (84 + 1 * e) 2).toInt - 1) ((c (84 + 1 * e) 3).toInt - 1) with ⟨h1, h2, _⟩ | ⟨_, h1⟩
  · exact absurd ⟨h1, h2⟩ h
  · rw [show (k : Int) + 1 - (c (84 + 1 * e) 2).toInt - 1 = (k : Int) - (c (84 + 1 * e) 2).toInt - 1 + 1 by omega, h1]
theorem csR_0 (h : 0 ≤ (c (84 + 1 * e) 2).toInt) : csR c s e 0 = csM c s (e : Int) := by
  unfold csR
  rw [clp_0 (by omega)]
  show _ ++ List.replicate 0 _ = _
  rw [List.replicate_zero, List.append_nil]
/-- some EXAMPLES are done -/
theorem csM_y (hr : (c (42 + 1 * s) 7).toInt ≤ (e : Int) ∧ (e : Int) < (c (42 + 1 * s) 7).toInt + (c (42 + 1 * s) 8).toInt) (h0 : 0 ≤ (c (84 + 1 * e) 2).toInt) (h3 : 0 ≤ (c (84 + 1 * e) 3).toInt) {n : Int} (hn : (c (84 + 1 * e) 2).toInt + (c (84 + 1 * e) 3).toInt ≤ n) : csM c s ((e : Int) + 1) = csR c s e n := by
  unfold csR
  have hk : clp (n - (c (84 + 1 * e) 2).toInt - 1) ((c (84 + 1 * e) 3).toInt - 1) = ((c (84 + 1 * e) 3).toInt - 1).toNat := by
    by_cases h9 : 1 ≤ (c (84 + 1 * e) 3).toInt
    · exact clp_b (by omega) (by omega)
    · unfold clp
      by_cases h8 : n - (c (84 + 1 * e) 2).toInt - 1 ≤ 0
      · rw [if_pos h8]; omega
      · rw [if_neg h8, if_neg (by omega)]
  rw [hk]
  unfold csM
  rcases clp_s ((e : Int) - (c (42 + 1 * s) 7).toInt) (c (42 + 1 * s) 8).toInt with ⟨_, _, h1, h2⟩ | ⟨h1, _⟩
  · rw [show (e : Int) + 1 - (c (42 + 1 * s) 7).toInt = (e : Int) - (c (42 + 1 * s) 7).toInt + 1 by omega, h1]
    show csA c s ++ (csX c (42 + 1 * s) _ ++ csE c (42 + 1 * s) (84 + 1 * ((c (42 + 1 * s) 7).toInt + ((clp ((e : Int) - (c (42 + 1 * s) 7).toInt) (c (42 + 1 * s) 8).toInt : Nat) : Int)).toNat) _) = _
    rw [show ((c (42 + 1 * s) 7).toInt + ((clp ((e : Int) - (c (42 + 1 * s) 7).toInt) (c (42 + 1 * s) 8).toInt : Nat) : Int)).toNat = e by omega, List.append_assoc]
  · exact absurd ⟨by omega, by omega⟩ h1
theorem csM_n (hr : ¬ ((c (42 + 1 * s) 7).toInt ≤ (e : Int) ∧ (e : Int) < (c (42 + 1 * s) 7).toInt + (c (42 + 1 * s) 8).toInt)) : csM c s ((e : Int) + 1) = csM c s (e : Int) := by
  unfold csM
  rcases clp_s ((e : Int) - (c (42 + 1 * s) 7).toInt) (c (42 + 1 * s) 8).toInt with ⟨h1, h2, _⟩ | ⟨_, h1⟩
  · exact absurd ⟨by omega, by omega⟩ hr
  · rw [show (e : Int) + 1 - (c (42 + 1 * s) 7).toInt = (e : Int) - (c (42 + 1 * s) 7).toInt + 1 by omega, h1]
theorem csM_0 (h : 0 ≤ (c (42 + 1 * s) 7).toInt) : csM c s 0 = csA c s := by
  unfold csM
  rw [clp_0 (by omega)]
  show csA c s ++ [] = _
  rw [List.append_nil]
/-- a SCENARIO is done -/
theorem csA_y (h8 : 0 ≤ (c (42 + 1 * s) 8).toInt) {n : Int} (hn : (c (42 + 1 * s) 7).toInt + (c (42 + 1 * s) 8).toInt ≤ n) : csA c (s + 1) = if (c (42 + 1 * s) 8).toInt = 0 then csM c s n ++ [(s, ortags c (42 + 1 * s) 0)] else csM c s n := by
  unfold csM
  rw [clp_b (a := n - (c (42 + 1 * s) 7).toInt) (by omega) h8]
  show csA c s ++ ((if (c (42 + 1 * s) 8).toInt = 0 then [(s, ortags c (42 + 1 * s) 0)] else []) ++ csX c (42 + 1 * s) (c (42 + 1 * s) 8).toInt.toNat) = _
  by_cases h : (c (42 + 1 * s) 8).toInt = 0
  · rw [if_pos h, if_pos h, h]
    show csA c s ++ ([(s, ortags c (42 + 1 * s) 0)] ++ []) = csA c s ++ [] ++ [(s, ortags c (42 + 1 * s) 0)]
    rw [List.append_nil, List.append_nil]
  · rw [if_neg h, if_neg h]; rfl
end MC1
