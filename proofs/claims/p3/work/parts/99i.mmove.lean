/-- a hook before is made: one less -/
theorem mwr_b1 {i : Nat → Nat → Int32} {c : Nat} {n m : Int} (hm : 0 ≤ mcs i c) (h0 : 0 ≤ n) (h8 : n < 8) (e : m = n + 1) (hp : mdP i 1 c n.toNat = true) : mwrF i c m = mwrF i c n - 1 := by
  have h1 := cnl_yes hp
  unfold mwrF
  rw [if_pos h8]
  by_cases q : m < 8
  · rw [if_pos q, show m.toNat = n.toNat + 1 by omega, h1]; omega
  · have q7 : n.toNat + 1 = 8 := by omega
    rw [q7] at h1
    rw [if_neg q, if_pos (by omega), if_pos (by omega), h1]; omega
/-- a step is made -/
theorem mwr_m1 {i : Nat → Nat → Int32} {c : Nat} {n m : Int} (h8 : 8 ≤ n) (hp : n - 8 < mcs i c) (h30 : mcs i c ≤ 30) (e : m = n + 1) : mwrF i c m = mwrF i c n - 1 := by
  unfold mwrF
  rw [if_neg (show ¬ m < 8 by omega), if_neg (show ¬ n < 8 by omega), if_pos (show m < 100 by omega), if_pos (show n < 100 by omega), if_pos (show m - 8 ≤ mcs i c by omega), if_pos (show n - 8 ≤ mcs i c by omega)]
  omega
/-- a hook after -/
theorem mwr_a1 {i : Nat → Nat → Int32} {c : Nat} {n m : Int} (h0 : 100 ≤ n) (h8 : n < 108) (e : m = n + 1) (hp : mdP i 0 c (107 - n).toNat = true) : mwrF i c m = mwrF i c n - 1 := by
  have h1 := cnl_yes hp
  unfold mwrF
  rw [if_neg (by omega), if_neg (by omega), if_neg (by omega), if_neg (by omega), show (108 - n).toNat = (107 - n).toNat + 1 by omega, h1, show (108 - m).toNat = (107 - n).toNat by omega]
  omega
/-- the end of a case -/
theorem mwr_e {i : Nat → Nat → Int32} {c : Nat} {n : Int} (h : n = 108) : mwrF i c n = 1 := by
  subst h
  unfold mwrF
  rw [if_neg (by decide), if_neg (by decide), show (108 - (108 : Int)).toNat = 0 by decide]
  rfl
/-- how many moves a case takes -/
def mcM (i : Nat → Nat → Int32) (c : Nat) : Int := 2 + (cnl (mdP i 1 c) 8 : Int) + mcs i c + (cnl (mdP i 0 c) 8 : Int)
theorem mwr_0 (i : Nat → Nat → Int32) (c : Nat) : mwrF i c 0 = mcM i c - 1 := by
  unfold mwrF mcM
  rw [if_pos (by decide), show cnl (mdP i 1 c) (0 : Int).toNat = 0 from rfl]
  omega
/-- what the cases from u on take that the filter lets through -/
def urS (f : Nat → Int) : Nat → Nat → Int
  | 0, _ => 0
  | n + 1, u => f u + urS f n (u + 1)
def mcf (i : Nat → Nat → Int32) (c : Nat) : Int := if mcw i c = true then mcM i c else 0
def murem (i : Nat → Nat → Int32) (u : Int) : Int := urS (mcf i) ((i 36 33).toInt - u).toNat u.toNat
theorem mur_s {i : Nat → Nat → Int32} {u v : Int} (h0 : 0 ≤ u) (h1 : u < (i 36 33).toInt) (e : v = u + 1) : murem i u = mcf i u.toNat + murem i v := by
  unfold murem
  rw [show ((i 36 33).toInt - u).toNat = ((i 36 33).toInt - v).toNat + 1 by omega, show v.toNat = u.toNat + 1 by omega]
  rfl
/-- cases that the filter holds back cost nothing -/
theorem mur_sk {i : Nat → Nat → Int32} {u : Int} (h0 : 0 ≤ u) : ∀ n : Nat, u + n ≤ (i 36 33).toInt → skD (mcw i) u (u + n) → murem i (u + n) = murem i u
  | 0, _, _ => by rw [show u + ((0 : Nat) : Int) = u by omega]
  | n + 1, hn, hs => by
    have h1 := mur_sk h0 n (by omega) ⟨by omega, fun k a b => hs.2 k a (by omega)⟩
    have h2 := mur_s (i := i) (u := u + n) (v := u + ((n + 1 : Nat) : Int)) (by omega) (by omega) (by omega)
    have h3 : mcf i (u + (n : Int)).toNat = 0 := by
      unfold mcf
      rw [hs.2 (u + (n : Int)).toNat (by omega) (by omega)]; rfl
    omega
