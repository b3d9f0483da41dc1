/-! bits of a long -/
def bitS (x : Int64) (e : Nat) : Prop := x.toBitVec.getLsbD e = true
theorem bit_sh (y : Int32) (e : Nat) (hy : y.toInt = (e : Int)) (he : e < 64) : (y.toInt64 &&& 63) = Int64.ofNat e := by
  have h1 := s_ofN hy (by omega) (by omega)
  rw [h1, Int.toNat_natCast]
  have h : ∀ k : Nat, k < 64 → ((nI k).toInt64 &&& 63) = Int64.ofNat k := by decide
  exact h e he
theorem bit_sr (x : Int64) (e : Nat) (he : e < 64) : (x >>> Int64.ofNat e).toBitVec = x.toBitVec.sshiftRight e := by
  rw [Int64.toBitVec_shiftRight]
  have h : ∀ k : Nat, k < 64 → ((Int64.ofNat k).toBitVec.smod 64).toNat = k := by decide
  show x.toBitVec.sshiftRight ((Int64.ofNat e).toBitVec.smod 64).toNat = _
  rw [h e he]
theorem bit_sl (x : Int64) (e : Nat) (he : e < 64) : (x <<< Int64.ofNat e).toBitVec = x.toBitVec <<< e := by
  rw [Int64.toBitVec_shiftLeft]
  have h : ∀ k : Nat, k < 64 → ((Int64.ofNat k).toBitVec.smod 64).toNat = k := by decide
  show x.toBitVec <<< ((Int64.ofNat e).toBitVec.smod 64).toNat = _
  rw [h e he]
theorem bit_and {a z : Int64} (ez : z = a &&& 1) : (z = 1 ∧ bitS a 0) ∨ (z = 0 ∧ ¬ bitS a 0) := by
  have h : z.toBitVec = a.toBitVec &&& 1#64 := by rw [ez]; rfl
  rw [BitVec.and_one_eq_setWidth_ofBool_getLsbD] at h
  unfold bitS
  cases hb : a.toBitVec.getLsbD 0 with
  | true => rw [hb] at h; exact Or.inl ⟨Int64.toBitVec_inj.mp h, rfl⟩
  | false => rw [hb] at h; exact Or.inr ⟨Int64.toBitVec_inj.mp h, by decide⟩
theorem bit_test {x z1 z2 : Int64} {y : Int32} {e : Nat} (hy : y.toInt = (e : Int)) (he : e < 64) (e1 : z1 = x >>> (y.toInt64 &&& 63)) (e2 : z2 = z1 &&& 1) : (z2 = 1 ∧ bitS x e) ∨ (z2 = 0 ∧ ¬ bitS x e) := by
  have h := bit_and e2
  have hb : bitS z1 0 ↔ bitS x e := by
    unfold bitS
    rw [e1, bit_sh y e hy he, bit_sr x e he, BitVec.getLsbD_sshiftRight]
    simp [he]
  rw [hb] at h; exact h
theorem bit_or {x y : Int64} {e : Nat} : bitS (x ||| y) e ↔ bitS x e ∨ bitS y e := by
  unfold bitS
  rw [Int64.toBitVec_or, BitVec.getLsbD_or, Bool.or_eq_true]
theorem bit_0 (e : Nat) : ¬ bitS 0 e := by
  unfold bitS
  rw [show (0 : Int64).toBitVec = 0#64 from rfl, BitVec.getLsbD_zero]; decide
theorem bit_1 {z : Int64} {y : Int32} {k e : Nat} (hy : y.toInt = (k : Int)) (hk : k < 64) (ez : z = (1 : Int64) <<< (y.toInt64 &&& 63)) : bitS z e → e = k := by
  unfold bitS
  rw [ez, bit_sh y k hy hk, bit_sl 1 k hk, show (1 : Int64).toBitVec = 1#64 from rfl, BitVec.getLsbD_shiftLeft, BitVec.getLsbD_one]
  intro h
  simp at h
  omega
theorem lc_1 {z : Int32} {a : Int64} (ez : z = if (1 : Int64) < a then 1 else if a = 1 then 0 else -1) : (a = 1 → z.toInt = 0) ∧ (a = 0 → z.toInt = -1) := by
  constructor
  · intro h; subst h; rw [ez]; rfl
  · intro h; subst h; rw [ez]; rfl
theorem lc_0 {z : Int32} {a : Int64} (ez : z = if (0 : Int64) < a then 1 else if a = 0 then 0 else -1) : (a = 1 → z.toInt = 1) ∧ (a = 0 → z.toInt = 0) := by
  constructor
  · intro h; subst h; rw [ez]; rfl
  · intro h; subst h; rw [ez]; rfl
/-- ways that don't do, up to w -/
def wlR (i : Nat → Nat → Int32) (B : Int → Prop) (p k w : Int) : Prop := ∀ a : Int, 0 ≤ a → a < w → ∃ e : Int, endR i p k a e ∧ e ≠ -2 ∧ ¬ (0 ≤ e ∧ B e)
theorem wlR_s {i : Nat → Nat → Int32} {B : Int → Prop} {p k w v e : Int} (h : wlR i B p k w) (hv : v = w + 1) (he : endR i p k w e) (h2 : e ≠ -2) (h3 : ¬ (0 ≤ e ∧ B e)) : wlR i B p k v := fun a h0 h1 => by
  by_cases q : a = w
  · subst q; exact ⟨e, he, h2, h3⟩
  · exact h a h0 (by omega)
def ldB (L : Nat → Nat → Int64) (p : Int) (e : Int) : Prop := bitS (L 412 p.toNat) e.toNat
