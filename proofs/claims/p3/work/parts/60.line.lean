/-! what a line says, and what it does to a reading -/
def hdK (d c : Int) : Int := if d = 1 then (if c = 80 then 3 else if c = 81 then 4 else if c = 72 then 5 else if c = 67 then 6 else if c = 88 then 7 else 9) else (if c = 70 then 3 else if c = 82 then 4 else if c = 66 then 5 else if c = 83 then 6 else if c = 69 then 7 else 9)
def sgK (d c : Int) : Int := if d = 1 then (if c = 68 ∨ c = 78 ∨ c = 90 ∨ c = 85 ∨ c = 42 then 8 else 9) else (if c = 71 ∨ c = 87 ∨ c = 84 ∨ c = 65 ∨ c = 42 then 8 else 9)
/-- the kind of a line: its dialect, width, first and second character -/
def kdF (d w a b : Int) : Int := if w = 0 then 0 else if a = 35 then 0 else if a = 64 then 1 else if a = 124 then 2 else if b = 58 then hdK d a else if b = 32 then sgK d a else 9
def lkd (d : Int) (l : List Int) : Int := kdF d (l.length : Int) (l.getD 0 10) (l.getD 1 10)
theorem hdK_r (d c : Int) : 3 ≤ hdK d c ∧ hdK d c ≤ 9 ∧ hdK d c ≠ 8 := by
  unfold hdK
  repeat' split
  all_goals omega
theorem sgK_r (d c : Int) : sgK d c = 8 ∨ sgK d c = 9 := by
  unfold sgK
  repeat' split
  all_goals omega
theorem kdF_r (d w a b : Int) : 0 ≤ kdF d w a b ∧ kdF d w a b ≤ 9 := by
  have h1 := hdK_r d a
  have h2 := sgK_r d a
  unfold kdF
  repeat' split
  all_goals omega
theorem tgL_len (f : Nat → Int32) : ∀ (k a : Nat), (tgL f a k).length = k
  | 0, _ => rfl
  | k + 1, a => by show (tgL f (a + 1) k).length + 1 = k + 1; rw [tgL_len f k (a + 1)]
theorem tgL_getD (f : Nat → Int32) (z : Int) : ∀ (k a j : Nat), (tgL f a k).getD j z = if j < k then (f (a + j)).toInt else z
  | 0, _, j => by rw [if_neg (by omega)]; rfl
  | k + 1, a, 0 => by rw [if_pos (by omega)]; rfl
  | k + 1, a, j + 1 => by
    show (tgL f (a + 1) k).getD j z = _
    rw [tgL_getD f z k (a + 1) j, show a + 1 + j = a + (j + 1) by omega]
    by_cases h : j < k
    · rw [if_pos h, if_pos (by omega)]
    · rw [if_neg h, if_neg (by omega)]
theorem tgL_ext {f h : Nat → Int32} : ∀ (k a b : Nat), (∀ j : Nat, j < k → (f (a + j)).toInt = (h (b + j)).toInt) → tgL f a k = tgL h b k
  | 0, _, _, _ => rfl
  | k + 1, a, b, e => by
    show (f a).toInt :: tgL f (a + 1) k = (h b).toInt :: tgL h (b + 1) k
    rw [tgL_ext k (a + 1) (b + 1) (fun j hj => by have := e (j + 1) (by omega); rw [show a + 1 + j = a + (j + 1) by omega, show b + 1 + j = b + (j + 1) by omega]; exact this), show (f a).toInt = (h b).toInt from e 0 (by omega)]
/-- the tags of a line's words, as bits; 0 if one is none -/
def bitO (s : Int32) (c : Int) : Int32 := s ||| ((1 : Int32) <<< ((nI (c - 97).toNat) &&& 31))
def tagW : List Int → Int32 → Int32
  | [], s => s
  | [x], s => if x = 32 then s else 0
  | x :: c :: u, s => if x = 32 then tagW (c :: u) s else if x = 64 ∧ 97 ≤ c ∧ c ≤ 112 ∧ u.headD 32 = 32 then tagW u (bitO s c) else 0
theorem bitO_r {s : Int32} {c : Int} (h : 0 ≤ s.toInt ∧ s.toInt ≤ 65535) (h1 : 97 ≤ c) (h2 : c ≤ 112) : 1 ≤ (bitO s c).toInt ∧ (bitO s c).toInt ≤ 65535 := by
  have e : ∀ (k : Nat), k < 16 → ((1 : Int32) <<< ((nI k) &&& 31)).toInt = ((2 ^ k : Nat) : Int) := by decide
  have h3 := e (c - 97).toNat (by omega)
  have h4 : 2 ^ (c - 97).toNat ≤ 2 ^ 15 := Nat.pow_le_pow_right (by decide) (by omega)
  have h5 : 0 < 2 ^ (c - 97).toNat := Nat.pow_pos (by decide)
  obtain ⟨y, ey⟩ : ∃ y, (1 : Int32) <<< ((nI (c - 97).toNat) &&& 31) = y := ⟨_, rfl⟩
  rw [ey] at h3
  have h6 := s_or (x := s) (y := y) rfl h (by omega)
  unfold bitO
  rw [ey]
  refine ⟨?_, h6.2⟩
  have g1 := s_ofN (x := s) rfl h.1 (by omega)
  have g2 := s_ofN (x := y) rfl (by omega) (by omega)
  have g3 : s.toInt.toNat ||| y.toInt.toNat < 2 ^ 16 := Nat.or_lt_two_pow (by omega) (by omega)
  have g5 : y.toInt.toNat ≤ s.toInt.toNat ||| y.toInt.toNat := Nat.right_le_or
  have g4 : s ||| y = nI (s.toInt.toNat ||| y.toInt.toNat) := by
    rw [g1, g2, s_nIt (by omega), s_nIt (by omega), Int.toNat_natCast, Int.toNat_natCast]
    refine Int32.toBitVec_inj.mp ?_
    show BitVec.ofNat 32 _ ||| BitVec.ofNat 32 _ = BitVec.ofNat 32 _
    exact (BitVec.ofNat_or ..).symm
  rw [g4, s_nIt (by omega)]
  omega
/-- the bars of a line; how wide a row is -/
def brs : List Int → Int
  | [] => 0
  | c :: l => (if c = 124 then 1 else 0) + brs l
def wid (l : List Int) : Int := if l.getD (l.length - 1) 10 = 124 then brs l - 1 else 0
theorem brs_0 : ∀ l : List Int, 0 ≤ brs l ∧ brs l ≤ (l.length : Int)
  | [] => by decide
  | c :: l => by
    have h := brs_0 l
    show 0 ≤ (if c = 124 then 1 else 0) + brs l ∧ (if c = 124 then 1 else 0) + brs l ≤ ((l.length + 1 : Nat) : Int)
    split <;> omega
/-- what may come in a state -/
def cmS (s k : Int) : Prop := k = 1 ∨ (s = 0 ∧ k = 3) ∨ ((s = 1 ∨ s = 8) ∧ (k = 4 ∨ k = 5 ∨ k = 6 ∨ k = 9)) ∨ (s = 2 ∧ (k = 4 ∨ k = 6 ∨ k = 8 ∨ k = 9)) ∨ (s = 3 ∧ (k = 2 ∨ k = 4 ∨ k = 6 ∨ k = 8)) ∨ (s = 4 ∧ (k = 4 ∨ k = 6 ∨ k = 7 ∨ k = 8 ∨ k = 9)) ∨ (s = 5 ∧ (k = 2 ∨ k = 4 ∨ k = 6 ∨ k = 7 ∨ k = 8)) ∨ (s = 6 ∧ (k = 2 ∨ k = 4 ∨ k = 6 ∨ k = 7 ∨ k = 9)) ∨ (s = 7 ∧ (k = 2 ∨ k = 4 ∨ k = 6 ∨ k = 7))
def cmW (w s k : Int) : Prop := cmS s k ∧ (w = 0 ∨ k = 1 ∨ k = 3 ∨ k = 4 ∨ k = 6 ∨ k = 7)
def mayT (s : Int) (m : Int32) : Prop := (s = 0 ∧ m = 10) ∨ (s = 1 ∧ m = 626) ∨ (s = 2 ∧ m = 850) ∨ (s = 3 ∧ m = 342) ∨ (s = 4 ∧ m = 978) ∨ (s = 5 ∧ m = 470) ∨ (s = 6 ∧ m = 726) ∨ (s = 7 ∧ m = 214) ∨ (s = 8 ∧ m = 626)
theorem may_lit {s : Int} {m : Int32} (h : mayT s m) (k : Nat) (hk : 1 ≤ k ∧ k ≤ 9) : (((m >>> ((nI k) &&& 31)) &&& 1 = 0 ∧ ¬ cmS s k) ∨ ((m >>> ((nI k) &&& 31)) &&& 1 = 1 ∧ cmS s k)) ∧ ((((m &&& 218) >>> ((nI k) &&& 31)) &&& 1 = 0 ∧ ¬ (cmS s k ∧ ((k : Int) = 1 ∨ (k : Int) = 3 ∨ (k : Int) = 4 ∨ (k : Int) = 6 ∨ (k : Int) = 7))) ∨ (((m &&& 218) >>> ((nI k) &&& 31)) &&& 1 = 1 ∧ (cmS s k ∧ ((k : Int) = 1 ∨ (k : Int) = 3 ∨ (k : Int) = 4 ∨ (k : Int) = 6 ∨ (k : Int) = 7)))) := by
  have hk2 : k = 1 ∨ k = 2 ∨ k = 3 ∨ k = 4 ∨ k = 5 ∨ k = 6 ∨ k = 7 ∨ k = 8 ∨ k = 9 := by omega
  unfold mayT at h
  unfold cmS
  rcases h with ⟨rfl, rfl⟩ | ⟨rfl, rfl⟩ | ⟨rfl, rfl⟩ | ⟨rfl, rfl⟩ | ⟨rfl, rfl⟩ | ⟨rfl, rfl⟩ | ⟨rfl, rfl⟩ | ⟨rfl, rfl⟩ | ⟨rfl, rfl⟩ <;> rcases hk2 with rfl | rfl | rfl | rfl | rfl | rfl | rfl | rfl | rfl <;> (refine ⟨?_, ?_⟩ <;> first | exact Or.inl ⟨by decide, by omega⟩ | exact Or.inr ⟨by decide, by omega⟩)
theorem may_w {s k w : Int} {m x z1 z2 : Int32} (h : mayT s m) (hx : x.toInt = k) (hk : 1 ≤ k ∧ k ≤ 9) (hw : w = 0) (e1 : z1 = m >>> (x &&& 31)) (e2 : z2 = z1 &&& 1) : (z2.toInt = 0 ∧ ¬ cmW w s k) ∨ (z2.toInt = 1 ∧ cmW w s k) := by
  have h1 := may_lit h k.toNat (by omega)
  have h2 := s_ofN hx (by omega) (by omega)
  rw [e2, e1, h2]
  rw [show ((k.toNat : Nat) : Int) = k by omega] at h1
  rcases h1.1 with ⟨a, b⟩ | ⟨a, b⟩
  · rw [a]; exact Or.inl ⟨rfl, fun q => b q.1⟩
  · rw [a]; exact Or.inr ⟨rfl, b, Or.inl hw⟩
theorem may_v {s k w : Int} {m x z0 z1 z2 : Int32} (h : mayT s m) (hx : x.toInt = k) (hk : 1 ≤ k ∧ k ≤ 9) (hw : w ≠ 0) (e0 : z0 = m &&& 218) (e1 : z1 = z0 >>> (x &&& 31)) (e2 : z2 = z1 &&& 1) : (z2.toInt = 0 ∧ ¬ cmW w s k) ∨ (z2.toInt = 1 ∧ cmW w s k) := by
  have h1 := may_lit h k.toNat (by omega)
  have h2 := s_ofN hx (by omega) (by omega)
  rw [e2, e1, e0, h2]
  rw [show ((k.toNat : Nat) : Int) = k by omega] at h1
  rcases h1.2 with ⟨a, b⟩ | ⟨a, b⟩
  · rw [a]; exact Or.inl ⟨rfl, fun q => b ⟨q.1, by have := q.2; omega⟩⟩
  · rw [a]; exact Or.inr ⟨rfl, b.1, Or.inr b.2⟩
/-- which error a line is (0: none): its kind, its tags, its width -/
def roomQ (i : Nat → Nat → Int32) (k : Int) : Prop := (k = 6 → (i 3 8).toInt < 12) ∧ (k = 8 → (i 3 10).toInt < 30) ∧ (k = 2 → (i 3 14).toInt < 40) ∧ (k = 7 → (i 3 12).toInt < 12) ∧ (k = 4 → (i 3 6).toInt < 4)
def rowQ (i : Nat → Nat → Int32) (t : Nat) (wd : Int) : Prop := (i t 3).toInt ≤ 0 ∨ (i (96 + 3 * (i t 2).toInt.toNat) 2).toInt = wd
def erQ (i : Nat → Nat → Int32) (t : Nat) (k tg wd e : Int) : Prop :=
  (¬ cmW (i 3 16).toInt (i 3 15).toInt k ∧ e = 1) ∨ (cmW (i 3 16).toInt (i 3 15).toInt k ∧
    ((k = 1 ∧ tg = 0 ∧ e = 2) ∨ (¬ (k = 1 ∧ tg = 0) ∧
      ((k = 2 ∧ (wd < 1 ∨ 4 < wd) ∧ e = 3) ∨ (¬ (k = 2 ∧ (wd < 1 ∨ 4 < wd)) ∧
        ((k = 2 ∧ ¬ rowQ i t wd ∧ e = 4) ∨ ((k = 2 → rowQ i t wd) ∧
          ((¬ roomQ i k ∧ e = 5) ∨ (roomQ i k ∧ e = 0)))))))))
/-- an error is noted -/
def addE (i i' : Nat → Nat → Int32) (ln e : Int) : Prop := (((i 3 4).toInt = 20 ∧ i' 3 4 = i 3 4 ∧ i' 6 = i 6 ∧ i' 7 = i 7) ∨ ((i 3 4).toInt < 20 ∧ (i' 3 4).toInt = (i 3 4).toInt + 1 ∧ (i' 6 (i 3 4).toInt.toNat).toInt = ln ∧ (i' 7 (i 3 4).toInt.toNat).toInt = e ∧ ∀ k : Nat, k ≠ (i 3 4).toInt.toNat → i' 6 k = i 6 k ∧ i' 7 k = i 7 k)) ∧ ∀ a b : Nat, a ≠ 6 → a ≠ 7 → ¬ (a = 3 ∧ b = 4) → i' a b = i a b
def sm3 (i i' : Nat → Nat → Int32) (P : List Nat) : Prop := ∀ b : Nat, ¬ b ∈ P → i' 3 b = i 3 b
/-- a part as it is begun -/
def bgP (i' : Nat → Nat → Int32) (p : Nat) (ln tg fi : Int) : Prop := (i' p 0).toInt = ln ∧ (i' p 1).toInt = tg ∧ (i' p 2).toInt = fi ∧ (i' p 3).toInt = 0 ∧ (i' p 8).toInt = 0
def kp (i i' : Nat → Nat → Int32) (p : Nat) : Prop := i' p 4 = i p 4 ∧ i' p 5 = i p 5
/-- a FEATURE, RULE, BACKGROUND, SCENARIO, EXAMPLES is entered -/
def hdQ (i : Nat → Nat → Int32) (o t : Nat) (i' : Nat → Nat → Int32) (o' t' : Nat) (ln k : Int) : Prop :=
  (i' 3 16).toInt = 0 ∧ (
  (k = 3 ∧ o' = o ∧ t' = t ∧ bgP i' 37 ln (i 3 16).toInt 0 ∧ kp i i' 37 ∧ (i' 3 15).toInt = 1 ∧ sm3 i i' [15, 16] ∧ ∀ a : Nat, a ≠ 3 → a ≠ 37 → i' a = i a) ∨
  (k = 4 ∧ o' = o ∧ t' = t ∧ (i' 3 6).toInt = (i 3 6).toInt + 1 ∧ bgP i' (38 + (i 3 6).toInt.toNat) ln (i 3 16).toInt 0 ∧ kp i i' (38 + (i 3 6).toInt.toNat) ∧ (i' 3 15).toInt = 8 ∧ sm3 i i' [6, 15, 16] ∧ ∀ a : Nat, a ≠ 3 → a ≠ 38 + (i 3 6).toInt.toNat → i' a = i a) ∨
  (k = 5 ∧ o' = 37 + (i 3 6).toInt.toNat ∧ t' = t ∧ (i' (37 + (i 3 6).toInt.toNat) 2).toInt = (i 3 10).toInt ∧ (∀ b : Nat, b ≠ 2 → i' (37 + (i 3 6).toInt.toNat) b = i (37 + (i 3 6).toInt.toNat) b) ∧ (i' 3 15).toInt = 2 ∧ sm3 i i' [15, 16] ∧ ∀ a : Nat, a ≠ 3 → a ≠ 37 + (i 3 6).toInt.toNat → i' a = i a) ∨
  (k = 6 ∧ o' = 42 + (i 3 8).toInt.toNat ∧ t' = t ∧ (i' 3 8).toInt = (i 3 8).toInt + 1 ∧ bgP i' (42 + (i 3 8).toInt.toNat) ln (i 3 16).toInt (i 3 10).toInt ∧ kp i i' (42 + (i 3 8).toInt.toNat) ∧ (i' (42 + (i 3 8).toInt.toNat) 6).toInt = (i 3 6).toInt ∧ (i' (42 + (i 3 8).toInt.toNat) 7).toInt = (i 3 12).toInt ∧ (i' 3 15).toInt = 4 ∧ sm3 i i' [8, 15, 16] ∧ ∀ a : Nat, a ≠ 3 → a ≠ 42 + (i 3 8).toInt.toNat → i' a = i a) ∨
  (k = 7 ∧ o' = o ∧ t' = 84 + (i 3 12).toInt.toNat ∧ (i' 3 12).toInt = (i 3 12).toInt + 1 ∧ bgP i' (84 + (i 3 12).toInt.toNat) ln (i 3 16).toInt (i 3 14).toInt ∧ kp i i' (84 + (i 3 12).toInt.toNat) ∧ (i' o 8).toInt = (i o 8).toInt + 1 ∧ (∀ b : Nat, b ≠ 8 → i' o b = i o b) ∧ (i' 3 15).toInt = 6 ∧ sm3 i i' [12, 15, 16] ∧ ∀ a : Nat, a ≠ 3 → a ≠ 84 + (i 3 12).toInt.toNat → a ≠ o → i' a = i a))
def stQ (i : Nat → Nat → Int32) (o : Nat) (i' : Nat → Nat → Int32) (o' t' : Nat) (ln : Int) : Prop :=
  o' = o ∧ t' = 54 + (i 3 10).toInt.toNat ∧ (i' 3 10).toInt = (i 3 10).toInt + 1 ∧ bgP i' (54 + (i 3 10).toInt.toNat) ln 0 (i 3 14).toInt ∧ (i' (54 + (i 3 10).toInt.toNat) 4).toInt + (i' (54 + (i 3 10).toInt.toNat) 5).toInt ≤ 480 ∧ (i' o 3).toInt = (i o 3).toInt + 1 ∧ (∀ b : Nat, b ≠ 3 → i' o b = i o b) ∧ (((i 3 15).toInt ≤ 3 ∧ (i' 3 15).toInt = 3) ∨ (3 < (i 3 15).toInt ∧ (i' 3 15).toInt = 5)) ∧ sm3 i i' [10, 15] ∧ ∀ a : Nat, a ≠ 3 → a ≠ 54 + (i 3 10).toInt.toNat → a ≠ o → i' a = i a
def rwQ (i : Nat → Nat → Int32) (o t : Nat) (i' : Nat → Nat → Int32) (o' t' : Nat) (ln wd : Int) : Prop :=
  o' = o ∧ t' = t ∧ (i' 3 14).toInt = (i 3 14).toInt + 1 ∧ (i' t 3).toInt = (i t 3).toInt + 1 ∧ (∀ b : Nat, b ≠ 3 → i' t b = i t b) ∧ (i' (96 + 3 * (i 3 14).toInt.toNat) 2).toInt = wd ∧ (i' (96 + 3 * (i 3 14).toInt.toNat) 3).toInt = ln ∧ (((i 3 15).toInt < 6 ∧ (i' 3 15).toInt = (i 3 15).toInt) ∨ (6 ≤ (i 3 15).toInt ∧ (i' 3 15).toInt = 7)) ∧ sm3 i i' [14, 15] ∧ ∀ a : Nat, a ≠ 3 → a ≠ t → ¬ (96 + 3 * (i 3 14).toInt.toNat ≤ a ∧ a < 99 + 3 * (i 3 14).toInt.toNat) → i' a = i a
/-- what a line does, its dialect once known -/
def liQ (i : Nat → Nat → Int32) (o t : Nat) (i' : Nat → Nat → Int32) (o' t' : Nat) (ln : Int) (l : List Int) : Prop :=
  ∃ k e : Int, k = lkd (i 3 1).toInt l ∧ ((k = 0 ∧ i' = i ∧ o' = o ∧ t' = t) ∨ (k ≠ 0 ∧ erQ i t k (tagW l 0).toInt (wid l) e ∧ (
    (e ≠ 0 ∧ addE i i' ln e ∧ o' = o ∧ t' = t) ∨
    (e = 0 ∧ k = 1 ∧ i' 3 16 = i 3 16 ||| tagW l 0 ∧ sm3 i i' [16] ∧ (∀ a : Nat, a ≠ 3 → i' a = i a) ∧ o' = o ∧ t' = t) ∨
    (e = 0 ∧ k = 2 ∧ rwQ i o t i' o' t' ln (wid l)) ∨
    (e = 0 ∧ k = 8 ∧ stQ i o i' o' t' ln) ∨
    (e = 0 ∧ k = 9 ∧ i' = i ∧ o' = o ∧ t' = t) ∨
    (e = 0 ∧ 3 ≤ k ∧ k ≤ 7 ∧ hdQ i o t i' o' t' ln k))))
/-- the dialect of the first line -/
def dlQ (i i' : Nat → Nat → Int32) (ln : Int) (l : List Int) : Prop := ((ln = 1 ∧ l = [35, 49] ∧ (i' 3 1).toInt = 1) ∨ (¬ (ln = 1 ∧ l = [35, 49]) ∧ i' 3 1 = i 3 1)) ∧ sm3 i i' [1] ∧ ∀ a : Nat, a ≠ 3 → i' a = i a
/-- a stretch of a text, from a up to b -/
def lnL (f : Nat → Int32) (a b : Int) : List Int := tgL f a.toNat (b - a).toNat
theorem lnL_s {f : Nat → Int32} {a b : Int} (h0 : 0 ≤ a) (h : a < b) : lnL f a b = (f a.toNat).toInt :: lnL f (a + 1) b := by
  unfold lnL
  rw [show (b - a).toNat = (b - (a + 1)).toNat + 1 by omega, show (a + 1).toNat = a.toNat + 1 by omega]; rfl
theorem lnL_0 {f : Nat → Int32} {a b : Int} (h : b ≤ a) : lnL f a b = [] := by
  unfold lnL
  rw [show (b - a).toNat = 0 by omega]; rfl
theorem lnL_len {f : Nat → Int32} {a b : Int} (h : a ≤ b) : ((lnL f a b).length : Int) = b - a := by
  unfold lnL
  rw [tgL_len]; omega
theorem lnL_g {f : Nat → Int32} {a b : Int} (z : Int) (j : Nat) (h0 : 0 ≤ a) : (lnL f a b).getD j z = if a + (j : Int) < b then (f (a + j).toNat).toInt else z := by
  unfold lnL
  rw [tgL_getD]
  by_cases h : a + (j : Int) < b
  · rw [if_pos h, if_pos (by omega), show a.toNat + j = (a + j).toNat by omega]
  · rw [if_neg h, if_neg (by omega)]
theorem lnL_ext {f h : Nat → Int32} {a b c d : Int} (h0 : 0 ≤ a) (h1 : 0 ≤ c) (hw : b - a = d - c) (e : ∀ j : Nat, (j : Int) < b - a → (f (a + j).toNat).toInt = (h (c + j).toNat).toInt) : lnL f a b = lnL h c d := by
  unfold lnL
  rw [← hw]
  exact tgL_ext _ _ _ (fun j hj => by have := e j (by omega); rw [show (a + (j : Int)).toNat = a.toNat + j by omega, show (c + (j : Int)).toNat = c.toNat + j by omega] at this; exact this)
theorem lnL_35 {f : Nat → Int32} {a b : Int} (h0 : 0 ≤ a) (h : a ≤ b) : lnL f a b = [35, 49] ↔ (b - a = 2 ∧ (f a.toNat).toInt = 35 ∧ (f (a + 1).toNat).toInt = 49) := by
  constructor
  · intro e
    have h1 := lnL_len (f := f) h
    rw [e] at h1
    have h2 : b - a = 2 := by have : (([35, 49] : List Int).length : Int) = 2 := rfl; omega
    rw [lnL_s h0 (by omega), lnL_s (by omega) (by omega)] at e
    injection e with e1 e2
    injection e2 with e3 e4
    exact ⟨h2, e1, e3⟩
  · intro ⟨h2, e1, e3⟩
    rw [lnL_s h0 (by omega), lnL_s (by omega) (by omega), lnL_0 (by omega), e1, e3]
/-- the second character of a line, 10 without -/
def chB (f : Nat → Int32) (a b : Int) : Int := if a + 1 < b then (f (a + 1).toNat).toInt else 10
theorem chB_or (f : Nat → Int32) (a b : Int) : (a + 1 < b ∧ chB f a b = (f (a + 1).toNat).toInt) ∨ (b ≤ a + 1 ∧ chB f a b = 10) := by
  unfold chB
  by_cases h : a + 1 < b
  · rw [if_pos h]; exact Or.inl ⟨h, rfl⟩
  · rw [if_neg h]; exact Or.inr ⟨by omega, rfl⟩
theorem lkd_ln {f : Nat → Int32} {a b d : Int} (h0 : 0 ≤ a) (h : a < b) : lkd d (lnL f a b) = kdF d (b - a) (f a.toNat).toInt (chB f a b) := by
  unfold lkd chB
  rw [lnL_len (by omega), lnL_g _ _ h0, lnL_g _ _ h0, if_pos (by omega), show a + ((0 : Nat) : Int) = a by omega, show a + ((1 : Nat) : Int) = a + 1 by omega]
theorem lkd_0 {f : Nat → Int32} {a b d : Int} (h : b ≤ a) : lkd d (lnL f a b) = 0 := by rw [lnL_0 h]; rfl
theorem tagW_sp {f : Nat → Int32} {a b : Int} {s : Int32} (h0 : 0 ≤ a) (h : a < b) (e : (f a.toNat).toInt = 32) : tagW (lnL f a b) s = tagW (lnL f (a + 1) b) s := by
  rw [lnL_s h0 h, e]
  cases hl : lnL f (a + 1) b with
  | nil => show (if (32 : Int) = 32 then s else 0) = s; rw [if_pos rfl]
  | cons c u => show (if (32 : Int) = 32 then tagW (c :: u) s else _) = _; rw [if_pos rfl]
theorem tagW_ok {f : Nat → Int32} {a b : Int} {s : Int32} (h0 : 0 ≤ a) (h : a + 1 < b) (e : (f a.toNat).toInt = 64) (h1 : 97 ≤ (f (a + 1).toNat).toInt) (h2 : (f (a + 1).toNat).toInt ≤ 112) (h3 : b ≤ a + 2 ∨ (f (a + 2).toNat).toInt = 32) : tagW (lnL f a b) s = tagW (lnL f (a + 2) b) (bitO s (f (a + 1).toNat).toInt) := by
  have h4 : (lnL f (a + 2) b).headD 32 = 32 := by
    by_cases g : a + 2 < b
    · rw [lnL_s (by omega) g]
      show (f (a + 2).toNat).toInt = 32
      omega
    · rw [lnL_0 (by omega)]; rfl
  rw [lnL_s h0 (by omega), lnL_s (by omega) h, show a + 1 + 1 = a + 2 by omega]
  show (if _ then _ else (if _ then _ else _)) = _
  rw [if_neg (by omega), if_pos ⟨e, h1, h2, h4⟩]
theorem tagW_no {f : Nat → Int32} {a b : Int} {s : Int32} (h0 : 0 ≤ a) (h : a < b) (e : (f a.toNat).toInt ≠ 32) (h2 : (f a.toNat).toInt ≠ 64 ∨ b ≤ a + 1 ∨ (f (a + 1).toNat).toInt < 97 ∨ 112 < (f (a + 1).toNat).toInt ∨ (a + 2 < b ∧ (f (a + 2).toNat).toInt ≠ 32)) : tagW (lnL f a b) s = 0 := by
  rw [lnL_s h0 h]
  by_cases g : a + 1 < b
  · rw [lnL_s (by omega) g, show a + 1 + 1 = a + 2 by omega]
    show (if _ then _ else (if _ then _ else _)) = _
    rw [if_neg e, if_neg (fun q => ?_)]
    obtain ⟨q1, q2, q3, q4⟩ := q
    by_cases g2 : a + 2 < b
    · rw [lnL_s (by omega) g2] at q4
      have q4 : (f (a + 2).toNat).toInt = 32 := q4
      omega
    · omega
  · rw [lnL_0 (by omega)]
    show (if _ then s else 0) = 0
    rw [if_neg e]
theorem tagW_end {f : Nat → Int32} {a b : Int} {s : Int32} (h : b ≤ a) : tagW (lnL f a b) s = s := by rw [lnL_0 h]; rfl
theorem brs_s {f : Nat → Int32} {a b : Int} (h0 : 0 ≤ a) (h : a < b) : ((f a.toNat).toInt = 124 ∧ brs (lnL f a b) = 1 + brs (lnL f (a + 1) b)) ∨ ((f a.toNat).toInt ≠ 124 ∧ brs (lnL f a b) = brs (lnL f (a + 1) b)) := by
  rw [lnL_s h0 h]
  show _ ∨ (_ ∧ (if (f a.toNat).toInt = 124 then 1 else 0) + brs _ = _)
  by_cases g : (f a.toNat).toInt = 124
  · refine Or.inl ⟨g, ?_⟩
    show (if (f a.toNat).toInt = 124 then 1 else 0) + brs _ = _
    rw [if_pos g]
  · refine Or.inr ⟨g, ?_⟩
    rw [if_neg g]; omega
theorem brs_end {f : Nat → Int32} {a b : Int} (h : b ≤ a) : brs (lnL f a b) = 0 := by rw [lnL_0 h]; rfl
theorem wid_ln {f : Nat → Int32} {a b : Int} (h0 : 0 ≤ a) (h : a < b) : ((f (b - 1).toNat).toInt = 124 ∧ wid (lnL f a b) = brs (lnL f a b) - 1) ∨ ((f (b - 1).toNat).toInt ≠ 124 ∧ wid (lnL f a b) = 0) := by
  have h1 := lnL_len (f := f) (show a ≤ b by omega)
  have e : (lnL f a b).getD ((lnL f a b).length - 1) 10 = (f (b - 1).toNat).toInt := by
    rw [lnL_g _ _ h0, if_pos (by omega), show a + (((lnL f a b).length - 1 : Nat) : Int) = b - 1 by omega]
  unfold wid
  rw [e]
  by_cases g : (f (b - 1).toNat).toInt = 124
  · rw [if_pos g]; exact Or.inl ⟨g, rfl⟩
  · rw [if_neg g]; exact Or.inr ⟨g, rfl⟩
/-! the invariant of a reading -/
def QI (i : Nat → Nat → Int32) (o t : Nat) : Prop := (37 ≤ o ∧ o < 54 ∧ 54 ≤ t ∧ t < 96) ∧
  (((i 3 15).toInt = 2 ∨ (i 3 15).toInt = 3) → (o : Int) = 37 + (i 3 6).toInt) ∧
  (4 ≤ (i 3 15).toInt → (i 3 15).toInt ≤ 7 → (o : Int) = 41 + (i 3 8).toInt ∧ 1 ≤ (i 3 8).toInt ∧ (i o 7).toInt + (i o 8).toInt = (i 3 12).toInt) ∧
  (2 ≤ (i 3 15).toInt → (i 3 15).toInt ≤ 7 → (i o 2).toInt + (i o 3).toInt = (i 3 10).toInt) ∧
  (((i 3 15).toInt = 3 ∨ (i 3 15).toInt = 5) → (t : Int) = 53 + (i 3 10).toInt ∧ 1 ≤ (i 3 10).toInt ∧ (i t 2).toInt + (i t 3).toInt = (i 3 14).toInt) ∧
  (((i 3 15).toInt = 6 ∨ (i 3 15).toInt = 7) → (t : Int) = 83 + (i 3 12).toInt ∧ 1 ≤ (i 3 12).toInt ∧ (i t 2).toInt + (i t 3).toInt = (i 3 14).toInt) ∧
  ((i 3 15).toInt = 0 → (i 3 6).toInt = 0 ∧ (i 3 8).toInt = 0 ∧ (i 3 10).toInt = 0 ∧ (i 3 12).toInt = 0 ∧ (i 3 14).toInt = 0) ∧
  (((i 3 15).toInt = 1 ∨ (i 3 15).toInt = 8) → (i (37 + (i 3 6).toInt.toNat) 3).toInt = 0)
theorem er_0 {i : Nat → Nat → Int32} {t : Nat} {k tg wd e : Int} (h : erQ i t k tg wd e) (he : e = 0) : cmW (i 3 16).toInt (i 3 15).toInt k ∧ roomQ i k ∧ (k = 1 → tg ≠ 0) ∧ (k = 2 → 1 ≤ wd ∧ wd ≤ 4 ∧ rowQ i t wd) := by
  unfold erQ at h
  rcases h with ⟨_, h⟩ | ⟨hc, h⟩
  · omega
  · rcases h with ⟨_, _, h⟩ | ⟨h1, h⟩
    · omega
    · rcases h with ⟨_, _, h⟩ | ⟨h2, h⟩
      · omega
      · rcases h with ⟨_, _, h⟩ | ⟨h3, h⟩
        · omega
        · rcases h with ⟨_, h⟩ | ⟨h4, _⟩
          · omega
          · exact ⟨hc, h4, fun q => by omega, fun q => ⟨by omega, by omega, h3 q⟩⟩
theorem cm_st {w s k : Int} (h : cmW w s k) : (k = 2 → (s = 3 ∨ s = 5 ∨ s = 6 ∨ s = 7)) ∧ (k = 8 → (s = 2 ∨ s = 3 ∨ s = 4 ∨ s = 5)) ∧ (k = 3 → s = 0) ∧ (k = 5 → (s = 1 ∨ s = 8)) ∧ (k = 7 → (s = 4 ∨ s = 5 ∨ s = 6 ∨ s = 7)) ∧ ((k = 4 ∨ k = 6) → 1 ≤ s) ∧ (k = 2 ∨ k = 5 ∨ k = 8 ∨ k = 9 → w = 0) := by
  unfold cmW cmS at h
  refine ⟨?_, ?_, ?_, ?_, ?_, ?_, ?_⟩ <;> intro q <;> omega
