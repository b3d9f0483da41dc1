/-! cases are added -/
theorem s_or {x y z : Int32} (ez : z = x ||| y) (hx : 0 ≤ x.toInt ∧ x.toInt ≤ 65535) (hy : 0 ≤ y.toInt ∧ y.toInt ≤ 65535) : 0 ≤ z.toInt ∧ z.toInt ≤ 65535 := by
  have h1 := s_ofN (x := x) rfl hx.1 (by omega)
  have h2 := s_ofN (x := y) rfl hy.1 (by omega)
  have h3 : x.toInt.toNat ||| y.toInt.toNat < 2 ^ 16 := Nat.or_lt_two_pow (by omega) (by omega)
  have h4 : z = nI (x.toInt.toNat ||| y.toInt.toNat) := by
    rw [ez]
    rw [h1, h2, s_nIt (by omega), s_nIt (by omega), Int.toNat_natCast, Int.toNat_natCast]
    refine Int32.toBitVec_inj.mp ?_
    show BitVec.ofNat 32 _ ||| BitVec.ofNat 32 _ = BitVec.ofNat 32 _
    exact (BitVec.ofNat_or ..).symm
  rw [h4, s_nIt (by omega)]
  omega
def ortags (i : Nat → Nat → Int32) (q : Nat) (x : Int32) : Int32 := i 37 1 ||| i (37 + 1 * (i q 6).toInt.toNat) 1 ||| i q 1 ||| x
/-- PC with one case more -/
theorem PC_add {i u : Nat → Nat → Int32} {r s : Nat → Nat → Nat} {n q : Nat} (h : PC i r) (hn : (i 13 4).toInt = (n : Int)) (hu : (u 13 4).toInt = (n : Int) + 1) (hr : ∀ a b, ¬ (a = 216 + 1 * n) → s a b = r a b) (h0 : s (216 + 1 * n) 0 = q) (hq : 42 ≤ q ∧ q < 54) (h12 : (¬ s (216 + 1 * n) 1 < nK ∧ ¬ s (216 + 1 * n) 2 < nK) ∨ ((∃ j, j < 40 ∧ s (216 + 1 * n) 1 = 96 + 3 * j) ∧ (∃ j, j < 40 ∧ s (216 + 1 * n) 2 = 96 + 3 * j))) : PC u s := by
  intro c hc
  by_cases e : c = n
  · subst e
    exact ⟨fun _ => by rw [h0]; exact hq, h12⟩
  · rw [hr (216 + 1 * c) 0 (by omega), hr (216 + 1 * c) 1 (by omega), hr (216 + 1 * c) 2 (by omega)]
    exact ⟨fun h9 => (h c hc).1 (by omega), (h c hc).2⟩
