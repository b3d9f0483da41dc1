/-! an expression is parsed: a function of its characters -/
def opL : List Int → Int → Option (List Int)
  | [], _ => none
  | [c], n => if c = 41 then (if n = 0 then none else some []) else none
  | c :: d :: t, n => if c = 41 then (if n = 0 then none else some (d :: t)) else if c = 92 then opL t (n + 1) else opL (d :: t) (n + 1)
def wdL : List Int → Int → Option (List Int)
  | [], n => if n = 0 then none else some []
  | [c], n => if c = 123 ∨ c = 125 ∨ c = 40 ∨ c = 41 ∨ c = 32 then (if n = 0 then none else some [c]) else if c = 47 then none else if c = 92 then none else some []
  | c :: d :: t, n => if c = 123 ∨ c = 125 ∨ c = 40 ∨ c = 41 ∨ c = 32 then (if n = 0 then none else some (c :: d :: t)) else if c = 47 then (if n = 0 then none else wdL (d :: t) 0) else if c = 92 then wdL t (n + 1) else wdL (d :: t) (n + 1)
def paL : List Int → Option (List Int)
  | x :: y :: t => if y = 125 ∧ (x = 105 ∨ x = 100 ∨ x = 119 ∨ x = 115) then some t else none
  | _ => none
def prL : Nat → List Int → Int → Option Int
  | _, [], n => some n
  | 0, _ :: _, _ => none
  | u + 1, c :: t, n => if c = 123 then (match paL t with
      | none => none
      | some r => prL u r (n + 1))
    else if c = 40 then (match opL t 0 with
      | none => none
      | some r => prL u r n)
    else if c = 32 then prL u t n
    else match wdL (c :: t) 0 with
      | none => none
      | some r => prL u r n
section PRS
variable {f : Nat → Int32} {a b n : Int}
theorem op_end (h : b ≤ a) : opL (lnL f a b) n = none := by rw [lnL_0 h]; rfl
theorem op_close (h0 : 0 ≤ a) (h : a < b) (hc : (f a.toNat).toInt = 41) : opL (lnL f a b) n = if n = 0 then none else some (lnL f (a + 1) b) := by
  rw [lnL_s h0 h, hc]
  cases lnL f (a + 1) b with
  | nil => show (if (41 : Int) = 41 then _ else _) = _; rw [if_pos rfl]
  | cons d t => show (if (41 : Int) = 41 then _ else _) = _; rw [if_pos rfl]
theorem op_esc (h0 : 0 ≤ a) (h : a + 1 < b) (hc : (f a.toNat).toInt = 92) : opL (lnL f a b) n = opL (lnL f (a + 2) b) (n + 1) := by
  rw [lnL_s h0 (by omega), lnL_s (by omega) h, hc, show a + 1 + 1 = a + 2 by omega]
  show (if (92 : Int) = 41 then _ else if (92 : Int) = 92 then _ else _) = _
  rw [if_neg (by decide), if_pos rfl]
theorem op_escE (h0 : 0 ≤ a) (h : a < b) (h2 : b ≤ a + 1) (hc : (f a.toNat).toInt = 92) : opL (lnL f a b) n = none := by
  rw [lnL_s h0 h, lnL_0 h2, hc]
  show (if (92 : Int) = 41 then _ else none) = none
  rw [if_neg (by decide)]
theorem op_ch (h0 : 0 ≤ a) (h : a < b) (hc : (f a.toNat).toInt ≠ 41) (hd : (f a.toNat).toInt ≠ 92) : opL (lnL f a b) n = opL (lnL f (a + 1) b) (n + 1) := by
  rw [lnL_s h0 h]
  cases lnL f (a + 1) b with
  | nil => show (if _ then _ else none) = none; rw [if_neg hc]
  | cons d t => show (if _ then _ else if _ then _ else _) = _; rw [if_neg hc, if_neg hd]
theorem op_no (h0 : 0 ≤ a) (h : b ≤ a ∨ (a < b ∧ (f a.toNat).toInt = 41 ∧ n = 0)) : opL (lnL f a b) n = none := by
  rcases h with h | ⟨h, h1, h2⟩
  · exact op_end h
  · rw [op_close h0 h h1, if_pos h2]
theorem op_st {a2 n2 : Int} (h0 : 0 ≤ a) (h : a < b) (h1 : (f a.toNat).toInt ≠ 41) (h2 : ((f a.toNat).toInt ≠ 92 ∧ a2 = a + 1) ∨ ((f a.toNat).toInt = 92 ∧ a + 1 < b ∧ a2 = a + 2)) (hn : n2 = n + 1) : opL (lnL f a b) n = opL (lnL f a2 b) n2 := by
  subst hn
  rcases h2 with ⟨g1, g2⟩ | ⟨g1, g2, g3⟩
  · subst g2; exact op_ch h0 h h1 g1
  · subst g3; exact op_esc h0 g2 g1
def spC (c : Int) : Prop := c = 123 ∨ c = 125 ∨ c = 40 ∨ c = 41 ∨ c = 32
theorem wd_end (h : b ≤ a) : wdL (lnL f a b) n = if n = 0 then none else some (lnL f a b) := by rw [lnL_0 h]; rfl
theorem wd_sp (h0 : 0 ≤ a) (h : a < b) (hc : spC (f a.toNat).toInt) : wdL (lnL f a b) n = if n = 0 then none else some (lnL f a b) := by
  unfold spC at hc
  rw [lnL_s h0 h]
  cases lnL f (a + 1) b with
  | nil => show (if _ then _ else _) = _; rw [if_pos hc]
  | cons d t => show (if _ then _ else _) = _; rw [if_pos hc]
theorem wd_sl (h0 : 0 ≤ a) (h : a < b) (hc : (f a.toNat).toInt = 47) (hn : n ≠ 0) : wdL (lnL f a b) n = wdL (lnL f (a + 1) b) 0 := by
  rw [lnL_s h0 h, hc]
  cases lnL f (a + 1) b with
  | nil =>
    show (if (47 : Int) = 123 ∨ _ then _ else if (47 : Int) = 47 then none else _) = if (0 : Int) = 0 then none else _
    rw [if_neg (by decide), if_pos rfl, if_pos rfl]
  | cons d t =>
    show (if (47 : Int) = 123 ∨ _ then _ else if (47 : Int) = 47 then (if n = 0 then none else wdL (d :: t) 0) else _) = _
    rw [if_neg (by decide), if_pos rfl, if_neg hn]
theorem wd_sl0 (h0 : 0 ≤ a) (h : a < b) (hc : (f a.toNat).toInt = 47) (hn : n = 0) : wdL (lnL f a b) n = none := by
  rw [lnL_s h0 h, hc]
  cases lnL f (a + 1) b with
  | nil =>
    show (if (47 : Int) = 123 ∨ _ then _ else if (47 : Int) = 47 then none else _) = none
    rw [if_neg (by decide), if_pos rfl]
  | cons d t =>
    show (if (47 : Int) = 123 ∨ _ then _ else if (47 : Int) = 47 then (if n = 0 then none else wdL (d :: t) 0) else _) = none
    rw [if_neg (by decide), if_pos rfl, if_pos hn]
theorem wd_esc (h0 : 0 ≤ a) (h : a + 1 < b) (hc : (f a.toNat).toInt = 92) : wdL (lnL f a b) n = wdL (lnL f (a + 2) b) (n + 1) := by
  rw [lnL_s h0 (by omega), lnL_s (by omega) h, hc, show a + 1 + 1 = a + 2 by omega]
  show (if (92 : Int) = 123 ∨ _ then _ else if (92 : Int) = 47 then _ else if (92 : Int) = 92 then _ else _) = _
  rw [if_neg (by decide), if_neg (by decide), if_pos rfl]
theorem wd_escE (h0 : 0 ≤ a) (h : a < b) (h2 : b ≤ a + 1) (hc : (f a.toNat).toInt = 92) : wdL (lnL f a b) n = none := by
  rw [lnL_s h0 h, lnL_0 h2, hc]
  show (if (92 : Int) = 123 ∨ _ then _ else if (92 : Int) = 47 then _ else if (92 : Int) = 92 then none else _) = none
  rw [if_neg (by decide), if_neg (by decide), if_pos rfl]
theorem wd_ch (h0 : 0 ≤ a) (h : a < b) (hc : ¬ spC (f a.toNat).toInt) (hs : (f a.toNat).toInt ≠ 47) (hd : (f a.toNat).toInt ≠ 92) (hn : 0 ≤ n) : wdL (lnL f a b) n = wdL (lnL f (a + 1) b) (n + 1) := by
  unfold spC at hc
  rw [lnL_s h0 h]
  cases lnL f (a + 1) b with
  | nil =>
    show (if _ then _ else if _ then _ else if _ then _ else some []) = if n + 1 = 0 then none else some []
    rw [if_neg hc, if_neg hs, if_neg hd, if_neg (by omega)]
  | cons d t =>
    show (if _ then _ else if _ then _ else if _ then _ else _) = _
    rw [if_neg hc, if_neg hs, if_neg hd]
theorem wd_no (h0 : 0 ≤ a) (h : (b ≤ a ∨ (a < b ∧ (spC (f a.toNat).toInt ∨ (f a.toNat).toInt = 47))) ∧ n = 0) : wdL (lnL f a b) n = none := by
  obtain ⟨h, hn⟩ := h
  rcases h with h | ⟨h, h1 | h1⟩
  · rw [wd_end h, if_pos hn]
  · rw [wd_sp h0 h h1, if_pos hn]
  · exact wd_sl0 h0 h h1 hn
theorem wd_ok (h0 : 0 ≤ a) (h : b ≤ a ∨ (a < b ∧ spC (f a.toNat).toInt)) (hn : n ≠ 0) : wdL (lnL f a b) n = some (lnL f a b) := by
  rcases h with h | ⟨h, h1⟩
  · rw [wd_end h, if_neg hn]
  · rw [wd_sp h0 h h1, if_neg hn]
theorem wd_st {a2 n2 : Int} (h0 : 0 ≤ a) (h : a < b) (h1 : ¬ spC (f a.toNat).toInt) (hs : (f a.toNat).toInt ≠ 47) (h2 : ((f a.toNat).toInt ≠ 92 ∧ a2 = a + 1) ∨ ((f a.toNat).toInt = 92 ∧ a + 1 < b ∧ a2 = a + 2)) (hn : n2 = n + 1) (hn0 : 0 ≤ n) : wdL (lnL f a b) n = wdL (lnL f a2 b) n2 := by
  subst hn
  rcases h2 with ⟨g1, g2⟩ | ⟨g1, g2, g3⟩
  · subst g2; exact wd_ch h0 h h1 hs g1 hn0
  · subst g3; exact wd_esc h0 g2 g1
theorem pa_no (h0 : 0 ≤ a) (h : b ≤ a + 1 ∨ (f (a + 1).toNat).toInt ≠ 125 ∨ ((f a.toNat).toInt ≠ 105 ∧ (f a.toNat).toInt ≠ 100 ∧ (f a.toNat).toInt ≠ 119 ∧ (f a.toNat).toInt ≠ 115)) : paL (lnL f a b) = none := by
  by_cases h1 : a < b
  · rw [lnL_s h0 h1]
    by_cases h2 : a + 1 < b
    · rw [lnL_s (by omega) h2]
      show (if _ then _ else none) = none
      rw [if_neg (by omega)]
    · rw [lnL_0 (by omega)]; rfl
  · rw [lnL_0 (by omega)]; rfl
theorem pa_ok (h0 : 0 ≤ a) (h : a + 1 < b) (h1 : (f (a + 1).toNat).toInt = 125) (h2 : (f a.toNat).toInt = 105 ∨ (f a.toNat).toInt = 100 ∨ (f a.toNat).toInt = 119 ∨ (f a.toNat).toInt = 115) : paL (lnL f a b) = some (lnL f (a + 2) b) := by
  rw [lnL_s h0 (by omega), lnL_s (by omega) h, show a + 1 + 1 = a + 2 by omega]
  show (if _ then _ else none) = _
  rw [if_pos ⟨h1, h2⟩]
theorem pr_end (u : Nat) (h : b ≤ a) : prL u (lnL f a b) n = some n := by rw [lnL_0 h]; cases u <;> rfl
theorem pr_pa {u : Nat} (h0 : 0 ≤ a) (h : a < b) (hc : (f a.toNat).toInt = 123) : prL (u + 1) (lnL f a b) n = match paL (lnL f (a + 1) b) with
    | none => none
    | some r => prL u r (n + 1) := by
  rw [lnL_s h0 h, hc]
  show (if (123 : Int) = 123 then _ else _) = _
  rw [if_pos rfl]
theorem pr_op {u : Nat} (h0 : 0 ≤ a) (h : a < b) (hc : (f a.toNat).toInt = 40) : prL (u + 1) (lnL f a b) n = match opL (lnL f (a + 1) b) 0 with
    | none => none
    | some r => prL u r n := by
  rw [lnL_s h0 h, hc]
  show (if (40 : Int) = 123 then _ else if (40 : Int) = 40 then _ else _) = _
  rw [if_neg (by decide), if_pos rfl]
theorem pr_bl {u : Nat} (h0 : 0 ≤ a) (h : a < b) (hc : (f a.toNat).toInt = 32) : prL (u + 1) (lnL f a b) n = prL u (lnL f (a + 1) b) n := by
  rw [lnL_s h0 h, hc]
  show (if (32 : Int) = 123 then _ else if (32 : Int) = 40 then _ else if (32 : Int) = 32 then _ else _) = _
  rw [if_neg (by decide), if_neg (by decide), if_pos rfl]
theorem pr_wd {u : Nat} (h0 : 0 ≤ a) (h : a < b) (h1 : (f a.toNat).toInt ≠ 123) (h2 : (f a.toNat).toInt ≠ 40) (h3 : (f a.toNat).toInt ≠ 32) : prL (u + 1) (lnL f a b) n = match wdL (lnL f a b) 0 with
    | none => none
    | some r => prL u r n := by
  rw [lnL_s h0 h]
  show (if _ then _ else if _ then _ else if _ then _ else _) = _
  rw [if_neg h1, if_neg h2, if_neg h3]
end PRS
/-- parts, texts and the pool: what is kept while they grow -/
theorem exI_part {i u : Nat → Nat → Int32} (h : exI i) (h45 : (u 36 45).toInt = (i 36 45).toInt + 1) (h0 : 0 ≤ (i 36 45).toInt) (h49 : u 36 49 = i 36 49) (h52 : u 36 52 = i 36 52) (ho : ∀ k : Nat, k ≠ (i 36 45).toInt.toNat → u 406 k = i 406 k ∧ u 407 k = i 407 k ∧ u 408 k = i 408 k) (h9 : u 409 = i 409) (h10 : u 410 = i 410) (hn : exU u (i 36 45).toInt.toNat) : exI u := by
  refine ⟨fun p hp => ?_, fun t ht => ?_⟩
  · by_cases hq : p = (i 36 45).toInt.toNat
    · subst hq; exact hn
    · have h1 := h.1 p (by omega)
      have h2 := ho p hq
      unfold exU at h1 ⊢
      rw [h2.1, h2.2.1, h2.2.2, h49]; exact h1
  · have h1 := h.2 t (by rw [← h49]; exact ht)
    unfold exW at h1 ⊢
    rw [h9, h10, h52]; exact h1
theorem exI_open {i u : Nat → Nat → Int32} (h : exI i) (h49 : (u 36 49).toInt = (i 36 49).toInt + 1) (h0 : 0 ≤ (i 36 49).toInt) (hp0 : 0 ≤ (i 36 52).toInt) (h45 : u 36 45 = i 36 45) (h52 : u 36 52 = i 36 52) (e6 : u 406 = i 406) (e7 : u 407 = i 407) (e8 : u 408 = i 408) (ha : (u 409 (i 36 49).toInt.toNat).toInt = (i 36 52).toInt) (hs : (u 410 (i 36 49).toInt.toNat).toInt = 0) (ho : ∀ k : Nat, k ≠ (i 36 49).toInt.toNat → u 409 k = i 409 k ∧ u 410 k = i 410 k) : exI u := by
  refine ⟨fun p hp => ?_, fun t ht => ?_⟩
  · have h1 := h.1 p (by rw [← h45]; exact hp)
    unfold exU at h1 ⊢
    rw [e6, e7, e8]
    omega
  · by_cases hq : t = (i 36 49).toInt.toNat
    · subst hq
      unfold exW
      rw [ha, hs, h52]; omega
    · have h1 := h.2 t (by omega)
      have h2 := ho t hq
      unfold exW at h1 ⊢
      rw [h2.1, h2.2, h52]; exact h1
theorem exI_take {i u : Nat → Nat → Int32} (h : exI i) (h52 : (u 36 52).toInt = (i 36 52).toInt + 1) (h49 : u 36 49 = i 36 49) (h45 : u 36 45 = i 36 45) (ht1 : 1 ≤ (i 36 49).toInt) (e6 : u 406 = i 406) (e7 : u 407 = i 407) (e8 : u 408 = i 408) (e9 : u 409 = i 409) (hs : (u 410 ((i 36 49).toInt - 1).toNat).toInt = (i 410 ((i 36 49).toInt - 1).toNat).toInt + 1) (ho : ∀ k : Nat, k ≠ ((i 36 49).toInt - 1).toNat → u 410 k = i 410 k) : exI u := by
  refine ⟨fun p hp => ?_, fun t ht => ?_⟩
  · have h1 := h.1 p (by rw [← h45]; exact hp)
    unfold exU at h1 ⊢
    rw [e6, e7, e8, h49]; exact h1
  · have h1 := h.2 t (by rw [← h49]; exact ht)
    unfold exW at h1 ⊢
    by_cases hq : t = ((i 36 49).toInt - 1).toNat
    · subst hq
      rw [e9, hs, h52]; omega
    · rw [e9, ho t hq, h52]; omega
theorem exI_fr {i u : Nat → Nat → Int32} (h : exI i) (h45 : u 36 45 = i 36 45) (h49 : u 36 49 = i 36 49) (h52 : u 36 52 = i 36 52) (e : ∀ a : Nat, 406 ≤ a → a ≤ 410 → u a = i a) : exI u := by
  unfold exI exU exW at h ⊢
  rw [h45, h49, h52, e 406 (by decide) (by decide), e 407 (by decide) (by decide), e 408 (by decide) (by decide), e 409 (by decide) (by decide), e 410 (by decide) (by decide)]
  exact h
def c4 (i : Nat → Nat → Int32) : Int := (cnt (i 406) 4 (i 36 45).toInt.toNat : Int)
def lsz (i : Nat → Nat → Int32) : Int := (i 410 ((i 36 49).toInt - 1).toNat).toInt
def pOk (i : Nat → Nat → Int32) (x y z : Int) : Prop := x = 1 ∨ (x = 2 ∧ 0 ≤ y ∧ y < (i 36 49).toInt) ∨ (x = 3 ∧ 0 ≤ y ∧ y + z ≤ (i 36 49).toInt) ∨ (x = 4 ∧ (y = 105 ∨ y = 100 ∨ y = 119 ∨ y = 115))
theorem c4_part {i u : Nat → Nat → Int32} {x : Int} (h45 : (u 36 45).toInt = (i 36 45).toInt + 1) (h0 : 0 ≤ (i 36 45).toInt) (ho : ∀ k : Nat, k ≠ (i 36 45).toInt.toNat → u 406 k = i 406 k) (hx : (u 406 (i 36 45).toInt.toNat).toInt = x) : (x = 4 ∧ c4 u = c4 i + 1) ∨ (x ≠ 4 ∧ c4 u = c4 i) := by
  unfold c4
  have e : cnt (u 406) 4 (i 36 45).toInt.toNat = cnt (i 406) 4 (i 36 45).toInt.toNat := cnt_ext _ (fun k hk => ho k (by omega))
  have h1 := cnt_or (u 406) 4 (i 36 45).toInt.toNat
  rw [show (u 36 45).toInt.toNat = (i 36 45).toInt.toNat + 1 by omega]
  omega
theorem c4_fr {i u : Nat → Nat → Int32} (h45 : u 36 45 = i 36 45) (h : u 406 = i 406) : c4 u = c4 i := by unfold c4; rw [h45, h]
/-- well formed -/
def prOK (l : List Int) : Prop := 1 ≤ l.length ∧ l.length ≤ 60 ∧ ∃ n : Int, prL 60 l 0 = some n ∧ n ≤ 6
