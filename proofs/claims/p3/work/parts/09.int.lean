/-! the box of every int -/
abbrev bF : Int × Int := (-2147483648, 2147483647)
def bSL : List (List (Int × Int)) := [[bF, bF, bF, bF, bF, bF, bF, (0, 12), bF, bF, bF, (0, 8), bF, bF], [bF, (0, 480)], [(0, 65535)], [bF, (0, 1), bF, bF, (0, 20), bF, (0, 4), bF, (0, 12), bF, (0, 30), bF, (0, 12), bF, (0, 40), (0, 8), (0, 65535), bF, bF], [bF, (0, 480)], [(0, 65535)], [bF], [bF], [bF], [bF], [bF], [bF], [bF], [bF, bF, bF, bF, (0, 24)], [bF, (0, 60)], [(0, 65535)], [bF, (0, 60)], [(0, 65535)], [bF], [bF, bF, bF], [(0, 8)], [bF], [(0, 4)], [bF, (0, 3), (0, 2), bF, (0, 24), (0, 24), (0, 24), (0, 5), (0, 1), bF, (0, 2147483647)], [bF], [(0, 2), (-1, 23), (0, 2), (-1, 127), (0, 5), bF, bF, bF], [(0, 2), (-1, 23), (0, 2), (-1, 127), (0, 5), bF, bF, bF], [(0, 2), (-1, 23), (0, 2), (-1, 127), (0, 5), bF, bF, bF], [(0, 23)], [bF], [bF], [(0, 7)], [bF], [(0, 1)], [(0, 7)], [bF], [(0, 3), bF, (0, 480), bF, (0, 480), bF, (0, 20), (0, 1), (0, 8), (0, 65535), (0, 1), (0, 5), bF, (0, 12), bF, bF, bF, (0, 30), (0, 24), bF, bF, bF, bF, (0, 12), bF, bF, (0, 40), (0, 111), bF, bF, bF, bF, bF, (0, 24), bF, bF, bF, bF, bF, bF, (0, 60), (0, 12), bF, bF, bF, (0, 64), bF, bF, bF, (0, 64), bF, bF, (0, 64), bF, (0, 720), (0, 720), bF, (0, 6), bF, bF, bF, bF, bF, bF, bF, (0, 42), (0, 42), (0, 8), bF, bF, bF, bF, bF, bF, bF, bF, (0, 1), (0, 3), (0, 2), (0, 24), (0, 5), (0, 2147483647), bF, bF, bF, bF]]
def bEL : List (List (Int × Int)) := [[bF, bF, (0, 61), bF, bF, (0, 60), (0, 6), bF, bF, bF, bF], [(0, 65535)], [(0, 60)], [(0, 65535)], [(0, 61)], [bF], [(0, 61)], [(-62, 60)], [(0, 65535)]]
def bML : List (Int × Int) := [(0, 65535), (0, 65535), bF, (0, 65535), (0, 65535), bF, (0, 4), bF, bF, (0, 60), (0, 65535), bF, (0, 65535), bF, bF, (0, 4), (0, 60), (0, 65535), (0, 11), (-1, 39), (-1, 39), (0, 65535), (-1, 5), (0, 65535), (0, 65535), (0, 60), (0, 7), bF, bF, bF, bF, bF, (0, 65535), bF, (0, 65535), (0, 61), (-1, 61), (0, 65535), (0, 40), (0, 1), (0, 65535), (0, 1), (0, 7), (0, 8), bF, (0, 4), bF, bF, (-1, 23), (0, 108), (0, 5)]
def bP : List (Int × Int) := [bF, (0, 65535), (0, 40), (0, 40), (0, 480), (0, 60), (0, 4), (0, 12), (0, 12)]
def bR : List (Int × Int) := [bF, bF, (0, 4), bF]
def bC : List (Int × Int) := [bF, bF, bF, (0, 65535), (-1, 5)]
def bT : List (Int × Int) := [bF, (0, 40), (0, 127), (0, 1)]
def bx (n k : Nat) : Int × Int :=
  if n < 37 then (if kd n < 13 then (bSL.getD n []).getD k bF else (bSL.getD n []).getD 0 bF) else if n < 96 then bP.getD k bF
  else if n < 216 then (if (n - 96) % 3 = 0 then bR.getD k bF else if (n - 96) % 3 = 1 then (0, 480) else (0, 60)) else if n < 240 then bC.getD k bF
  else if n < 357 then (if (n - 240) % 9 = 0 then (bEL.getD 0 []).getD k bF else (bEL.getD ((n - 240) % 9) []).getD 0 bF)
  else if n < 379 then (if (n - 357) % 2 = 0 then bT.getD k bF else (0, 65535)) else bML.getD (n - 379) bF
def OkI (i : Nat → Nat → Int32) : Prop := ∀ n k, (bx n k).1 ≤ (i n k).toInt ∧ (i n k).toInt ≤ (bx n k).2
theorem okp {i : Nat → Nat → Int32} (h : OkI i) {n k : Nat} {v : Int32} (hv : (bx n k).1 ≤ v.toInt ∧ v.toInt ≤ (bx n k).2) : OkI (up2 i n k v) := by
  intro a b
  by_cases ha : a = n
  · subst ha
    by_cases hb : b = k
    · subst hb; rw [up2_at]; exact hv
    · rw [up2_k i v hb]; exact h a b
  · rw [up2_n i v ha]; exact h a b
theorem bx_part {n : Nat} (h1 : 37 ≤ n) (h2 : n < 96) (k : Nat) : bx n k = bP.getD k bF := by unfold bx; rw [if_neg (by omega), if_pos h2]
theorem bx_row {j : Nat} (h : j < 40) (k : Nat) : bx (96 + 3 * j) k = bR.getD k bF := by unfold bx; rw [if_neg (by omega), if_neg (by omega), if_pos (by omega), if_pos (by omega)]
theorem bx_rowa1 {j : Nat} (h : j < 40) (k : Nat) : bx (96 + 3 * j + 1) k = (0, 480) := by unfold bx; rw [if_neg (by omega), if_neg (by omega), if_pos (by omega), if_neg (by omega), if_pos (by omega)]
theorem bx_rowa2 {j : Nat} (h : j < 40) (k : Nat) : bx (96 + 3 * j + 2) k = (0, 60) := by unfold bx; rw [if_neg (by omega), if_neg (by omega), if_pos (by omega), if_neg (by omega), if_neg (by omega)]
theorem bx_case {n : Nat} (h1 : 216 ≤ n) (h2 : n < 240) (k : Nat) : bx n k = bC.getD k bF := by unfold bx; rw [if_neg (by omega), if_neg (by omega), if_neg (by omega), if_pos h2]
theorem bx_expr0 {j : Nat} (h : j < 13) (k : Nat) : bx (240 + 9 * j) k = (bEL.getD 0 []).getD k bF := by unfold bx; rw [if_neg (by omega), if_neg (by omega), if_neg (by omega), if_neg (by omega), if_pos (by omega), if_pos (by omega)]
theorem bx_expr {j t : Nat} (h : j < 13) (h0 : 1 ≤ t) (ht : t < 9) (k : Nat) : bx (240 + 9 * j + t) k = (bEL.getD t []).getD 0 bF := by unfold bx; rw [if_neg (by omega), if_neg (by omega), if_neg (by omega), if_neg (by omega), if_pos (by omega), if_neg (by omega), show (240 + 9 * j + t - 240) % 9 = t by omega]
theorem bx_tag {j : Nat} (h : j < 11) (k : Nat) : bx (357 + 2 * j) k = bT.getD k bF := by unfold bx; rw [if_neg (by omega), if_neg (by omega), if_neg (by omega), if_neg (by omega), if_neg (by omega), if_pos (by omega), if_pos (by omega)]
theorem bx_taga {j : Nat} (h : j < 11) (k : Nat) : bx (357 + 2 * j + 1) k = (0, 65535) := by unfold bx; rw [if_neg (by omega), if_neg (by omega), if_neg (by omega), if_neg (by omega), if_neg (by omega), if_pos (by omega), if_neg (by omega)]
/-! ints as integers -/
section S
variable {x y : Int32} {a b : Int}
theorem s_bm {n : Int} (h1 : -2147483648 ≤ n) (h2 : n < 2147483648) : n.bmod (2 ^ 32) = n := Int.bmod_eq_of_le (by omega) (by omega)
theorem s_add (hx : x.toInt = a) (hy : y.toInt = b) (h1 : -2147483648 ≤ a + b) (h2 : a + b < 2147483648) : ∃ z, x + y = z ∧ z.toInt = a + b := ⟨_, rfl, by rw [Int32.toInt_add, hx, hy]; exact s_bm h1 h2⟩
theorem s_sub (hx : x.toInt = a) (hy : y.toInt = b) (h1 : -2147483648 ≤ a - b) (h2 : a - b < 2147483648) : ∃ z, x - y = z ∧ z.toInt = a - b := ⟨_, rfl, by rw [Int32.toInt_sub, hx, hy]; exact s_bm h1 h2⟩
theorem s_mul (hx : x.toInt = a) (hy : y.toInt = b) (h1 : -2147483648 ≤ a * b) (h2 : a * b < 2147483648) : ∃ z, x * y = z ∧ z.toInt = a * b := ⟨_, rfl, by rw [Int32.toInt_mul, hx, hy]; exact s_bm h1 h2⟩
theorem s_neg (hx : x.toInt = a) (h1 : -2147483648 ≤ -a) (h2 : -a < 2147483648) : ∃ z, -x = z ∧ z.toInt = -a := ⟨_, rfl, by rw [Int32.toInt_neg, hx]; exact s_bm h1 h2⟩
theorem s_rem (hx : x.toInt = a) (hy : y.toInt = b) (h1 : 0 ≤ a) (h2 : 0 < b) : ∃ z, x % y = z ∧ z.toInt = a % b := ⟨_, rfl, by rw [Int32.toInt_mod, hx, hy]; exact Int.tmod_eq_emod_of_nonneg h1⟩
theorem s_div (hx : x.toInt = a) (hy : y.toInt = b) (h1 : 0 ≤ a) (h2 : 0 < b) (h3 : a < 2147483648) : ∃ z, x / y = z ∧ z.toInt = a / b := ⟨_, rfl, by
  rw [Int32.toInt_div, hx, hy, Int.tdiv_eq_ediv_of_nonneg h1]
  have h4 : 0 ≤ a / b := Int.ediv_nonneg h1 (Int.le_of_lt h2)
  have h5 : a / b ≤ a := Int.ediv_le_self b h1
  exact s_bm (by omega) (by omega)⟩
theorem s_lt (hx : x.toInt = a) (hy : y.toInt = b) (h : x < y) : a < b := by rw [← hx, ← hy]; exact Int32.lt_iff_toInt_lt.mp h
theorem s_nlt (hx : x.toInt = a) (hy : y.toInt = b) (h : ¬ x < y) : b ≤ a := by rw [← hx, ← hy]; rw [Int32.lt_iff_toInt_lt] at h; omega
theorem s_le (hx : x.toInt = a) (hy : y.toInt = b) (h : x ≤ y) : a ≤ b := by rw [← hx, ← hy]; exact Int32.le_iff_toInt_le.mp h
theorem s_nle (hx : x.toInt = a) (hy : y.toInt = b) (h : ¬ x ≤ y) : b < a := by rw [← hx, ← hy]; rw [Int32.le_iff_toInt_le] at h; omega
theorem s_eq (hx : x.toInt = a) (hy : y.toInt = b) (h : x = y) : a = b := by rw [← hx, ← hy, h]
theorem s_ne (hx : x.toInt = a) (hy : y.toInt = b) (h : ¬ x = y) : a ≠ b := fun q => h (Int32.toInt_inj.mp (by rw [hx, hy]; exact q))
theorem p_lt (hx : x.toInt = a) (hy : y.toInt = b) (h : a < b) : x < y := Int32.lt_iff_toInt_lt.mpr (by rw [hx, hy]; exact h)
theorem p_nlt (hx : x.toInt = a) (hy : y.toInt = b) (h : b ≤ a) : ¬ x < y := by rw [Int32.lt_iff_toInt_lt, hx, hy]; omega
theorem p_le (hx : x.toInt = a) (hy : y.toInt = b) (h : a ≤ b) : x ≤ y := Int32.le_iff_toInt_le.mpr (by rw [hx, hy]; exact h)
theorem p_nle (hx : x.toInt = a) (hy : y.toInt = b) (h : b < a) : ¬ x ≤ y := by rw [Int32.le_iff_toInt_le, hx, hy]; omega
theorem p_eq (hx : x.toInt = a) (hy : y.toInt = b) (h : a = b) : x = y := Int32.toInt_inj.mp (by rw [hx, hy]; exact h)
theorem p_ne (hx : x.toInt = a) (hy : y.toInt = b) (h : a ≠ b) : ¬ x = y := fun q => h (by rw [← hx, ← hy, q])
theorem s_cl (hx : x.toInt = a) : x.toNatClampNeg = a.toNat := by show x.toInt.toNat = _; rw [hx]
theorem s_vin {n N : Nat} (hx : x.toInt = a) (hN : ln n = N) (h0 : 0 ≤ a) (h1 : a < (N : Int)) : vp_in x (ln n) := by
  rw [hN]
  intro q
  rcases q with q | q
  · have h9 := s_lt hx (show (0 : Int32).toInt = 0 from rfl) q; omega
  · rw [s_cl hx] at q; omega
theorem s_rng (v : Int32) : -2147483648 ≤ v.toInt ∧ v.toInt ≤ 2147483647 := ⟨Int32.le_toInt v, Int32.toInt_le v⟩
theorem s_nz {v : Int32} (h : 0 ≤ v.toInt ∧ v.toInt ≤ 1) : narrow .boolean (.int v) = .int v := by
  rcases (show v.toInt = 0 ∨ v.toInt = 1 by omega) with h | h
  · rw [show v = 0 from Int32.toInt_inj.mp h]; rfl
  · rw [show v = 1 from Int32.toInt_inj.mp h]; rfl
theorem s_fz {v : Int32} (h : 0 ≤ v.toInt ∧ v.toInt ≤ 1) : fits .boolean (.int v) = true := by
  rcases (show v.toInt = 0 ∨ v.toInt = 1 by omega) with h | h
  · rw [show v = 0 from Int32.toInt_inj.mp h]; rfl
  · rw [show v = 1 from Int32.toInt_inj.mp h]; rfl
end S
theorem s_nIt {n : Nat} (h : n < 2147483648) : (nI n).toInt = (n : Int) := nI_toInt (by omega)
theorem s_and {x z m : Int32} {k : Nat} (ez : z = x &&& m) (hm : m.toBitVec.toNat = 2 ^ k - 1) (hk : k ≤ 30 := by decide) : 0 ≤ z.toInt ∧ z.toInt < 2 ^ k := by
  obtain ⟨j, hj, e⟩ := pk_andE x k hm
  have h9 : (2 : Nat) ^ k ≤ 2 ^ 30 := Nat.pow_le_pow_right (by decide) hk
  have h8 : z.toInt = (j : Int) := by rw [ez, e]; exact s_nIt (by omega)
  have h7 : ((2 : Int) ^ k) = ((2 ^ k : Nat) : Int) := by simp
  rw [h7, h8]; omega
theorem s_u16 (w : UInt32) : 0 ≤ (w % 65536).toInt32.toInt ∧ (w % 65536).toInt32.toInt ≤ 65535 := by
  have h : (w % 65536).toNat < 65536 := by rw [UInt32.toNat_mod]; exact Nat.mod_lt _ (by decide)
  have e : (w % 65536).toInt32 = nI (w % 65536).toNat := by
    refine Int32.toBitVec_inj.mp ?_
    refine BitVec.eq_of_toNat_eq ?_
    show (w % 65536).toBitVec.toNat = (BitVec.ofNat 32 (w % 65536).toNat).toNat
    rw [BitVec.toNat_ofNat, Nat.mod_eq_of_lt (by omega)]; rfl
  rw [e, s_nIt (by omega)]; omega
theorem s_i2c {x z : Int32} (ez : z = (x.toUInt32 % 65536).toInt32) : 0 ≤ z.toInt ∧ z.toInt ≤ 65535 := by rw [ez]; exact s_u16 _
