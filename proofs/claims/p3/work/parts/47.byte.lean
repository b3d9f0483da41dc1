/-! byte k of eight, as the reference reads it -/
def btM (b : Int64) (k : Nat) : Int32 := ((b >>> ((nI (8 * k)).toInt64 &&& 63)) &&& 255).toInt32
theorem btM_bits (b : Int64) {k : Nat} (hk : k < 8) : (btM b k).toBitVec = ((b.toBitVec.sshiftRight (8 * k)) &&& 255#64).setWidth 32 := by
  have e : ((nI (8 * k)).toInt64 &&& 63).toBitVec.smod 64 = BitVec.ofNat 64 (8 * k) := by
    rcases (show k = 0 ∨ k = 1 ∨ k = 2 ∨ k = 3 ∨ k = 4 ∨ k = 5 ∨ k = 6 ∨ k = 7 by omega) with rfl | rfl | rfl | rfl | rfl | rfl | rfl | rfl <;> decide +kernel
  unfold btM
  rw [Int64.toBitVec_toInt32, Int64.toBitVec_and, Int64.toBitVec_shiftRight, e, BitVec.signExtend_eq_setWidth_of_le _ (by decide)]
  rcases (show k = 0 ∨ k = 1 ∨ k = 2 ∨ k = 3 ∨ k = 4 ∨ k = 5 ∨ k = 6 ∨ k = 7 by omega) with rfl | rfl | rfl | rfl | rfl | rfl | rfl | rfl <;> rfl
theorem btC_bits (b : Int64) {k : Nat} (hk : k < 8) : (btC b k).toBitVec = (b.toBitVec >>> (8 * k)).setWidth 32 &&& 255#32 := by
  have e : ((nI (8 * k)).toInt64.toUInt64 &&& Int64.toUInt64 63).toBitVec % 64 = BitVec.ofNat 64 (8 * k) := by
    rcases (show k = 0 ∨ k = 1 ∨ k = 2 ∨ k = 3 ∨ k = 4 ∨ k = 5 ∨ k = 6 ∨ k = 7 by omega) with rfl | rfl | rfl | rfl | rfl | rfl | rfl | rfl <;> decide +kernel
  unfold btC
  rw [Int32.toBitVec_and, Int64.toBitVec_toInt32, BitVec.signExtend_eq_setWidth_of_le _ (by decide)]
  show BitVec.setWidth 32 ((b.toUInt64 >>> _).toBitVec) &&& _ = _
  rw [UInt64.toBitVec_shiftRight, e]
  rcases (show k = 0 ∨ k = 1 ∨ k = 2 ∨ k = 3 ∨ k = 4 ∨ k = 5 ∨ k = 6 ∨ k = 7 by omega) with rfl | rfl | rfl | rfl | rfl | rfl | rfl | rfl <;> rfl
theorem bt_same (b : Int64) {k : Nat} (hk : k < 8) : btM b k = btC b k := by
  refine Int32.toBitVec_inj.mp ?_
  rw [btM_bits b hk, btC_bits b hk]
  apply BitVec.eq_of_getLsbD_eq
  intro i hi
  have h255 : ∀ j : Nat, 8 ≤ j → (255#64).getLsbD j = false := by
    intro j hj
    rw [BitVec.getLsbD_ofNat]
    have : Nat.testBit 255 j = false := Nat.testBit_lt_two_pow (Nat.lt_of_lt_of_le (by decide : 255 < 2 ^ 8) (Nat.pow_le_pow_right (by decide) hj))
    rw [this, Bool.and_false]
  have h255b : ∀ j : Nat, 8 ≤ j → (255#32).getLsbD j = false := by
    intro j hj
    rw [BitVec.getLsbD_ofNat]
    have : Nat.testBit 255 j = false := Nat.testBit_lt_two_pow (Nat.lt_of_lt_of_le (by decide : 255 < 2 ^ 8) (Nat.pow_le_pow_right (by decide) hj))
    rw [this, Bool.and_false]
  rw [BitVec.getLsbD_setWidth, BitVec.getLsbD_and, BitVec.getLsbD_and, BitVec.getLsbD_setWidth]
  by_cases h8 : 8 ≤ i
  · rw [h255 i h8, h255b i h8]; simp
  · rw [BitVec.getLsbD_sshiftRight, BitVec.getLsbD_ushiftRight, if_pos (by omega)]
    have e1 : (255#64).getLsbD i = true := by
      rcases (show i = 0 ∨ i = 1 ∨ i = 2 ∨ i = 3 ∨ i = 4 ∨ i = 5 ∨ i = 6 ∨ i = 7 by omega) with rfl | rfl | rfl | rfl | rfl | rfl | rfl | rfl <;> decide
    have e2 : (255#32).getLsbD i = true := by
      rcases (show i = 0 ∨ i = 1 ∨ i = 2 ∨ i = 3 ∨ i = 4 ∨ i = 5 ∨ i = 6 ∨ i = 7 by omega) with rfl | rfl | rfl | rfl | rfl | rfl | rfl | rfl <;> decide
    rw [e1, e2]
    rw [decide_eq_false (show ¬ 64 ≤ i by omega)]
    simp
theorem btC_rng (b : Int64) (k : Nat) : 0 ≤ (btC b k).toInt ∧ (btC b k).toInt ≤ 255 := by
  have h := s_and (x := ((b.toUInt64 >>> ((nI (8 * k)).toInt64.toUInt64 &&& Int64.toUInt64 63)).toInt64).toInt32) (z := btC b k) (m := 255) (k := 8) rfl (by decide +kernel)
  omega
theorem btm_eq {b z2 z3 : Int64} {z1 z4 : Int32} {k : Nat} (hk : k < 8) (e1 : z1.toInt = 8 * (k : Int)) (e2 : z2 = b >>> (z1.toInt64 &&& 63)) (e3 : z3 = z2 &&& 255) (e4 : z4 = z3.toInt32) : z4 = btC b k := by
  have e0 : z1 = nI (8 * k) := p_eq rfl (s_nIt (by omega)) (by rw [e1]; omega)
  rw [← bt_same b hk]
  unfold btM
  rw [e4, e3, e2, e0]
