/-! what a fit leaves: the arguments -/
theorem endR_fr {i u : Nat → Nat → Int32} (e40 : u 36 40 = i 36 40) (e : ∀ a : Nat, 402 ≤ a → a ≤ 411 → u a = i a) (p k w v : Int) : endR u p k w v ↔ endR i p k w v := by
  unfold endR moR leR sdB dgR dgP wP sP mnB inB
  simp only [e40, e 402 (by decide) (by decide), e 406 (by decide) (by decide), e 407 (by decide) (by decide), e 408 (by decide) (by decide), e 409 (by decide) (by decide), e 410 (by decide) (by decide), e 411 (by decide) (by decide)]
/-- a {d} has its point -/
def enD (i : Nat → Nat → Int32) (q k v : Int) : Prop := q = 100 → ∃ j : Int, k ≤ j ∧ j < v ∧ inB i j = 46
theorem endR_r {i : Nat → Nat → Int32} {p k w v : Int} (h : endR i p k w v) (hk : (i 406 p.toNat).toInt = 4) (hw : 0 ≤ w) (hv : 0 ≤ v) (h0 : 0 ≤ k) : v ≤ (i 36 40).toInt ∧ (((i 407 p.toNat).toInt = 105 ∨ (i 407 p.toNat).toInt = 100) → k < v) ∧ enD i (i 407 p.toNat).toInt k v := by
  rcases h with ⟨h1, _⟩ | ⟨h1, _⟩ | ⟨h1, _⟩ | ⟨_, _, _, m, hm, h⟩
  · omega
  · omega
  · omega
  · have hb := moR_b hm h0
    have hmn := mnB_or i k
    rcases h with ⟨_, h⟩ | ⟨hm0, l, hl, h⟩
    · omega
    · have hb2 := hb.2 hm0
      have hv2 : l ≤ m - w ∧ v = k + m - w := by omega
      refine ⟨by omega, fun hq => ?_, fun hq => ?_⟩
      · have : 1 ≤ l := by
          rcases hl with ⟨h1, _⟩ | ⟨h1, h2⟩ | ⟨h1, h2⟩ | ⟨_, _, _, n, hn, h2⟩
          · omega
          · omega
          · omega
          · have := hn.1; omega
        omega
      · rcases hl with ⟨h1, _⟩ | ⟨h1, h2⟩ | ⟨h1, h2⟩ | ⟨_, _, _, n, hn, h2⟩
        · omega
        · omega
        · omega
        · rcases hm with ⟨h1, _⟩ | ⟨h1, _⟩ | ⟨_, _, n2, hn2, hm⟩
          · omega
          · omega
          · have e := runR_u hn hn2
            subst e
            rcases hm with ⟨h1, _⟩ | ⟨_, hm⟩
            · omega
            · rcases hm with ⟨_, hm⟩ | ⟨hm, _⟩
              · exact absurd hm hm0
              · have := hn.1
                exact ⟨k + mnB i k + n, by omega, by omega, hm.2.2⟩
/-- the arguments lie in the text; a {d} has its point -/
def AQ (i : Nat → Nat → Int32) (B : List Int) : Prop := ∀ a : Nat, (a : Int) < (i 36 57).toInt → (((i 413 a).toInt = 105 ∨ (i 413 a).toInt = 100) → 0 ≤ (i 414 a).toInt ∧ (i 414 a).toInt < (i 415 a).toInt ∧ (i 415 a).toInt ≤ 60) ∧ ((i 413 a).toInt = 100 → ∃ j : Nat, (i 414 a).toInt ≤ (j : Int) ∧ (j : Int) < (i 415 a).toInt ∧ B.getD j 0 = 46)
theorem AQ_0 {i : Nat → Nat → Int32} {B : List Int} (h : (i 36 57).toInt = 0) : AQ i B := fun a ha => by omega
theorem AQ_s {i u : Nat → Nat → Int32} {B : List Int} {q k e : Int} (h : AQ i B) (h57 : (u 36 57).toInt = (i 36 57).toInt + 1) (h0 : 0 ≤ (i 36 57).toInt) (hk : (u 413 (i 36 57).toInt.toNat).toInt = q) (hf : q ≠ 115 → (u 414 (i 36 57).toInt.toNat).toInt = k ∧ (u 415 (i 36 57).toInt.toNat).toInt = e) (ho : ∀ a : Nat, a ≠ (i 36 57).toInt.toNat → u 413 a = i 413 a ∧ u 414 a = i 414 a ∧ u 415 a = i 415 a) (h60 : e ≤ 60) (hk0 : 0 ≤ k) (h1 : (q = 105 ∨ q = 100) → k < e) (h2 : q = 100 → ∃ j : Int, k ≤ j ∧ j < e ∧ B.getD j.toNat 0 = 46) : AQ u B := by
  intro a ha
  by_cases hq : a = (i 36 57).toInt.toNat
  · subst hq
    rw [hk]
    refine ⟨fun g => ?_, fun g => ?_⟩
    · have h9 := hf (by omega)
      have h8 := h1 g
      rw [h9.1, h9.2]; exact ⟨hk0, h8, h60⟩
    · have h9 := hf (by omega)
      obtain ⟨j, g1, g2, g3⟩ := h2 g
      rw [h9.1, h9.2]
      exact ⟨j.toNat, by omega, by omega, g3⟩
  · have h9 := ho a hq
    rw [h9.1, h9.2.1, h9.2.2]
    exact h a (by omega)
theorem bfL_g {i : Nat → Nat → Int32} {j : Int} (h0 : 0 ≤ j) (h : inB i j = 46) : (bfL i).getD j.toNat 0 = 46 := by
  rcases inB_or i j with ⟨h1, h2⟩ | ⟨_, h2⟩
  · unfold bfL
    rw [tgL_getD, if_pos (by omega), Nat.zero_add]; omega
  · omega
theorem bfL_fr {i u : Nat → Nat → Int32} (e40 : u 36 40 = i 36 40) (e : u 402 = i 402) : bfL u = bfL i := by unfold bfL; rw [e40, e]
/-- the places from which the parts from q on fit -/
def wbR (i : Nat → Nat → Int32) (L : Nat → Nat → Int64) (q : Int) : Prop := ∀ e : Int, 0 ≤ e → e ≤ 61 → ldB L q e → e ≤ (i 36 40).toInt ∧ (q < (i 36 45).toInt → ∃ w : Int, w < 62 ∧ wyR i (ldB L (q + 1)) q e w)
def wbA (i : Nat → Nat → Int32) (L : Nat → Nat → Int64) (f : Int) : Prop := ∀ q : Int, f < q → q ≤ (i 36 45).toInt → wbR i L q
theorem ldB_ne {L L' : Nat → Nat → Int64} {q : Int} (h : L' 412 q.toNat = L 412 q.toNat) : ldB L' q = ldB L q := by
  funext e
  unfold ldB; rw [h]
theorem wbR_ne {i : Nat → Nat → Int32} {L L' : Nat → Nat → Int64} {q : Int} (h : wbR i L q) (e1 : L' 412 q.toNat = L 412 q.toNat) (e2 : q < (i 36 45).toInt → L' 412 (q + 1).toNat = L 412 (q + 1).toNat) : wbR i L' q := by
  intro e h0 h1 hb
  rw [ldB_ne e1] at hb
  have h2 := h e h0 h1 hb
  refine ⟨h2.1, fun hq => ?_⟩
  rw [ldB_ne (e2 hq)]; exact h2.2 hq
theorem wbA_put {i : Nat → Nat → Int32} {L L' : Nat → Nat → Int64} {f : Int} (h : wbA i L f) (h0 : 0 ≤ f) (e : ∀ k : Nat, k ≠ f.toNat → L' 412 k = L 412 k) : wbA i L' f := fun q h1 h2 => wbR_ne (h q h1 h2) (e _ (by omega)) (fun _ => e _ (by omega))
theorem wbA_s {i : Nat → Nat → Int32} {L : Nat → Nat → Int64} {f g : Int} (h : wbA i L f) (hf : wbR i L f) (hg : g = f - 1) : wbA i L g := fun q h1 h2 => by
  by_cases e : q = f
  · subst e; exact hf
  · exact h q (by omega) h2
/-- a bit is set where a way is, and no other -/
theorem wbR_or {i : Nat → Nat → Int32} {L L' : Nat → Nat → Int64} {f k v : Int} {x y : Int64} (h : wbR i L f) (h0 : 0 ≤ f) (hx : L' 412 f.toNat = x ||| y) (hL : L 412 f.toNat = x) (e : ∀ k : Nat, k ≠ f.toNat → L' 412 k = L 412 k) (hk0 : 0 ≤ k) (hk : k ≤ (i 36 40).toInt) (hy : (v < 0 ∧ y = 0) ∨ (0 ≤ v ∧ ∀ e : Nat, e < 64 → bitS y e → e = k.toNat)) (hw : (0 ≤ v ∧ wyR i (ldB L (f + 1)) f k v) ∨ (v = -1 ∧ wnR i (ldB L (f + 1)) f k)) (hv : v ≤ 61) : wbR i L' f := by
  intro q h1 h2 hb
  have e1 : ldB L' (f + 1) = ldB L (f + 1) := ldB_ne (e _ (by omega))
  have hb2 : bitS (x ||| y) q.toNat := by unfold ldB at hb; rw [hx] at hb; exact hb
  rcases bit_or.mp hb2 with hb3 | hb3
  · have h3 := h q h1 h2 (by unfold ldB; rw [hL]; exact hb3)
    rw [e1]; exact h3
  · rcases hy with ⟨_, hy⟩ | ⟨hv0, hy⟩
    · rw [hy] at hb3; exact absurd hb3 (bit_0 _)
    · have h4 := hy q.toNat (by omega) hb3
      have h5 : q = k := by omega
      subst h5
      refine ⟨hk, fun _ => ?_⟩
      rw [e1]
      rcases hw with ⟨_, hw⟩ | ⟨hw, _⟩
      · exact ⟨v, by omega, hw⟩
      · omega
theorem wyR_fr {i u : Nat → Nat → Int32} {B : Int → Prop} {p k w : Int} (h : ∀ p k w v : Int, endR u p k w v ↔ endR i p k w v) : wyR u B p k w ↔ wyR i B p k w := by
  unfold wyR
  simp only [h]
theorem wnR_fr {i u : Nat → Nat → Int32} {B : Int → Prop} {p k : Int} (h : ∀ p k w v : Int, endR u p k w v ↔ endR i p k w v) : wnR u B p k ↔ wnR i B p k := by
  unfold wnR
  simp only [h]
