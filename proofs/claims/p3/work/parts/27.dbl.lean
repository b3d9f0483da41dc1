/-! doubles that are numbers -/
def dfin (x : UInt64) : Prop := ∃ s c q, FP.Core.val64 x = .fin s c q
theorem n64_iff (x : UInt64) : vf_n64 x ↔ FP.Core.val64 x ≠ .nan := by
  rw [Ne, ← FP.Core.dIsNaN_iff, FP.Core.isNaN_bits]
  unfold vf_n64
  rw [UInt64.le_iff_toNat_le, UInt64.toNat_and]
  have h1 : (0x7fffffffffffffff : UInt64).toNat = 2 ^ 63 - 1 := by decide
  have h2 : (0x7ff0000000000000 : UInt64).toNat = 9218868437227405312 := by decide
  rw [h1, h2, Nat.and_two_pow_sub_one_eq_mod]
  omega
theorem rr_ne (f : FP.Core.Fmt) (s : Bool) (a b : Nat) (e : Int) : FP.Core.roundRatio f s a b e ≠ .nan := by
  unfold FP.Core.roundRatio
  split
  · exact fun h => nomatch h
  · unfold FP.Core.roundAt FP.Core.settle FP.Core.bound
    split <;> split <;> exact fun h => nomatch h
theorem dfin_n {x : UInt64} (h : dfin x) : vf_n64 x := by
  obtain ⟨s, c, q, e⟩ := h
  rw [n64_iff, e]; exact fun h => nomatch h
theorem add_n {x y : UInt64} (hx : dfin x) (hy : dfin y) : vf_n64 (FP.dadd x y) := by
  obtain ⟨s, c, q, e⟩ := hx
  obtain ⟨t, d, r, e2⟩ := hy
  rw [n64_iff]
  show FP.Core.val64 (FP.Core.dadd x y) ≠ .nan
  rw [FP.Core.val64_dadd, e, e2]
  exact rr_ne _ _ _ _ _
theorem mul_n {x y : UInt64} (hx : dfin x) (hy : dfin y) : vf_n64 (FP.dmul x y) := by
  obtain ⟨s, c, q, e⟩ := hx
  obtain ⟨t, d, r, e2⟩ := hy
  rw [n64_iff]
  show FP.Core.val64 (FP.Core.dmul x y) ≠ .nan
  rw [FP.Core.val64_dmul, e, e2]
  exact rr_ne _ _ _ _ _
theorem lead_le (a b : Nat) : FP.Core.leading a b ≤ (a.log2 : Int) := by
  unfold FP.Core.leading
  dsimp only
  split <;> omega
theorem rr_fin {s : Bool} {a b : Nat} {e : Int} (ha : a < 2 ^ 53) (he : e ≤ 900) : ∃ t c q, FP.Core.roundRatio FP.Core.b64 s a b e = .fin t c q := by
  unfold FP.Core.roundRatio
  split
  · exact ⟨_, _, _, rfl⟩
  · rename_i h0
    have h1 := lead_le a b
    have h2 : a.log2 ≤ 52 := by
      have := (Nat.log2_lt h0).mpr ha
      omega
    have h3 : FP.Core.quantum FP.Core.b64 a b e ≤ 900 := by
      unfold FP.Core.quantum
      have e1 : FP.Core.Fmt.qmin FP.Core.b64 = -1074 := by decide
      have e2 : (FP.Core.Fmt.p FP.Core.b64 : Int) = 53 := by decide
      rw [e1, e2]
      omega
    have e3 : FP.Core.Fmt.qmax FP.Core.b64 = 971 := by decide
    unfold FP.Core.roundAt FP.Core.settle FP.Core.bound
    split
    · rw [if_pos (by omega)]; exact ⟨_, _, _, rfl⟩
    · rw [if_pos (by omega)]; exact ⟨_, _, _, rfl⟩
theorem i2d_fin (a : Int32) : ∃ s c q, FP.Core.val64 (FP.i2d a) = .fin s c q ∧ c < 2 ^ 53 ∧ (c = 0 ∨ q ≤ 40) := by
  have h := FP.Core.i2d_int a
  have hf := FP.Core.val64_fits (FP.Core.i2d a)
  unfold FP.Core.DInt at h
  cases hd : FP.Core.val64 (FP.Core.i2d a) with
  | nan => rw [hd] at h; exact h.elim
  | inf s => rw [hd] at h; exact h.elim
  | fin s c q =>
    rw [hd] at h hf
    refine ⟨s, c, q, rfl, hf.1, ?_⟩
    have h2 := FP.Core.whole_natAbs h
    have h3 := a.le_toInt
    have h4 := a.toInt_lt
    by_cases hc : c = 0
    · exact Or.inl hc
    · refine Or.inr ?_
      by_cases hq : q ≤ 40
      · exact hq
      · exfalso
        have e0 : (-q).toNat = 0 := by omega
        have e1 : q.toNat = 41 + (q.toNat - 41) := by omega
        rw [e0] at h2
        have h5 : 2 ^ q.toNat = 2 ^ 41 * 2 ^ (q.toNat - 41) := by rw [← Nat.pow_add, ← e1]
        have h6 : 1 ≤ 2 ^ (q.toNat - 41) := Nat.one_le_two_pow
        have h7 : 2 ^ 41 ≤ c * 2 ^ q.toNat := by
          rw [h5]
          calc 2 ^ 41 = 1 * (2 ^ 41 * 1) := by omega
            _ ≤ c * (2 ^ 41 * 2 ^ (q.toNat - 41)) := Nat.mul_le_mul (by omega) (Nat.mul_le_mul (Nat.le_refl _) h6)
        omega
theorem i2d_f (a : Int32) : dfin (FP.i2d a) := by
  obtain ⟨s, c, q, h, _⟩ := i2d_fin a
  exact ⟨s, c, q, h⟩
/-- 1, 10, 100 .. as the class reckons them -/
def dT : Nat → UInt64
  | 0 => 0x3ff0000000000000
  | n + 1 => FP.dmul (dT n) 4621819117588971520
def dok (x : UInt64) : Bool := match FP.Core.val64 x with
  | .fin _ d r => d != 0 && decide (-60 ≤ r)
  | _ => false
theorem dT_ok : ∀ n, n ≤ 60 → dok (dT n) = true := by decide +kernel
theorem dok_fin {x : UInt64} (h : dok x = true) : ∃ t d r, FP.Core.val64 x = .fin t d r ∧ d ≠ 0 ∧ -60 ≤ r := by
  unfold dok at h
  split at h
  · rename_i t d r e
    exact ⟨t, d, r, e, by simp at h; exact h.1, by simp at h; exact h.2⟩
  · exact absurd h (by decide)
theorem div_fin {a : Int32} {x : UInt64} (h : dok x = true) : dfin (FP.ddiv (FP.i2d a) x) := by
  obtain ⟨t, d, r, e2, hd, hr⟩ := dok_fin h
  obtain ⟨s, c, q, e1, hc, hq⟩ := i2d_fin a
  show ∃ s c q, FP.Core.val64 (FP.Core.ddiv (FP.i2d a) x) = .fin s c q
  rw [FP.Core.val64_ddiv, e1, e2]
  show ∃ s1 c1 q1, (if d = 0 then _ else FP.Core.roundRatio FP.Core.b64 (s != t) c d (q - r)) = .fin s1 c1 q1
  rw [if_neg hd]
  rcases hq with h0 | h0
  · subst h0; exact ⟨_, _, _, rfl⟩
  · exact rr_fin hc (by omega)
theorem in_fin {x : UInt64} {z w : Int32} (h1 : z = Op.cmpValue (FP.dcmp x 13965043853221167104) .l) (h2 : 0 ≤ z.toInt) (h3 : w = Op.cmpValue (FP.dcmp x 4741671816366391296) .g) (h4 : w.toInt ≤ 0) : dfin x := by
  have el : FP.Core.val64 13965043853221167104 = .fin true 8388608000000000 (-23) := by decide +kernel
  have eh : FP.Core.val64 4741671816366391296 = .fin false 8388608000000000 (-23) := by decide +kernel
  have g1 : FP.dcmp x 13965043853221167104 = FP.Core.order (FP.Core.val64 x) (FP.Core.val64 13965043853221167104) := rfl
  have g2 : FP.dcmp x 4741671816366391296 = FP.Core.order (FP.Core.val64 x) (FP.Core.val64 4741671816366391296) := rfl
  rw [g1, el] at h1
  rw [g2, eh] at h3
  cases hd : FP.Core.val64 x with
  | nan =>
    rw [hd] at h1
    have : z = -1 := h1
    rw [this] at h2
    exact absurd h2 (by decide)
  | inf s =>
    rw [hd] at h1 h3
    cases s with
    | false =>
      have : w = 1 := h3
      rw [this] at h4
      exact absurd h4 (by decide)
    | true =>
      have : z = -1 := h1
      rw [this] at h2
      exact absurd h2 (by decide)
  | fin s c q => exact ⟨s, c, q, hd⟩
theorem upf_at (d : Nat → Nat → UInt64) (n k : Nat) (v : UInt64) : upf d n k v n k = v := by unfold upf; rw [va_up_self]; unfold vf_upd; exact if_pos rfl
theorem upf_n (d : Nat → Nat → UInt64) {n k a : Nat} (v : UInt64) (h : a ≠ n) : upf d n k v a = d a := by unfold upf; exact va_up_ne _ _ h
theorem bgc_fr {i u : Nat → Nat → Int32} {q : Nat} (hO : OkI i) (h1 : 37 ≤ q) (h2 : q < 96) (f : ∀ a, (37 ≤ a ∧ a < 96) → u a = i a) : bgc u q = bgc i q := by
  have h3 := bxp hO h1 h2
  unfold bgc
  rw [f 37 ⟨by omega, by omega⟩, f q ⟨h1, h2⟩, f (37 + 1 * (i q 6).toInt.toNat) ⟨by omega, by omega⟩]
theorem scn_fr {i u : Nat → Nat → Int32} {q : Nat} (hO : OkI i) (h1 : 37 ≤ q) (h2 : q < 96) (f : ∀ a, (37 ≤ a ∧ a < 96) → u a = i a) : scn u q = scn i q := by
  unfold scn
  rw [bgc_fr hO h1 h2 f, f q ⟨h1, h2⟩]
theorem stp_fr {i u : Nat → Nat → Int32} {q : Nat} {y : Int} (hO : OkI i) (h1 : 37 ≤ q) (h2 : q < 96) (f : ∀ a, (37 ≤ a ∧ a < 96) → u a = i a) : stp u q y = stp i q y := by
  have h3 := bxp hO h1 h2
  unfold stp
  rw [bgc_fr hO h1 h2 f, f 37 ⟨by omega, by omega⟩, f q ⟨h1, h2⟩, f (37 + 1 * (i q 6).toInt.toNat) ⟨by omega, by omega⟩]
