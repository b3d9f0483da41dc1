section RD
variable {i i' : Nat → Nat → Int32} {o t o' t' : Nat} {ln k wd e : Int} {l : List Int}
theorem rd_bx (hO : OkI i) : (0 ≤ (i 3 6).toInt ∧ (i 3 6).toInt ≤ 4) ∧ (0 ≤ (i 3 8).toInt ∧ (i 3 8).toInt ≤ 12) ∧ (0 ≤ (i 3 10).toInt ∧ (i 3 10).toInt ≤ 30) ∧ (0 ≤ (i 3 12).toInt ∧ (i 3 12).toInt ≤ 12) ∧ (0 ≤ (i 3 14).toInt ∧ (i 3 14).toInt ≤ 40) ∧ (0 ≤ (i 3 15).toInt ∧ (i 3 15).toInt ≤ 8) ∧ (0 ≤ (i 3 16).toInt ∧ (i 3 16).toInt ≤ 65535) ∧ (0 ≤ (i 3 4).toInt ∧ (i 3 4).toInt ≤ 20) ∧ (0 ≤ (i 3 1).toInt ∧ (i 3 1).toInt ≤ 1) := ⟨hO 3 6, hO 3 8, hO 3 10, hO 3 12, hO 3 14, hO 3 15, hO 3 16, hO 3 4, hO 3 1⟩
theorem sm3_t {P : List Nat} (h : sm3 i i' P) (b : Nat) (hb : ¬ b ∈ P) : (i' 3 b).toInt = (i 3 b).toInt := by rw [h b hb]
theorem QI_hd (hO : OkI i) (q : QI i o t) (hc : cmW (i 3 16).toInt (i 3 15).toInt k) (hr : roomQ i k) (g : hdQ i o t i' o' t' ln k) : QI i' o' t' := by
  have b6 := (rd_bx hO).1
  have b8 := (rd_bx hO).2.1
  have b12 := (rd_bx hO).2.2.2.1
  obtain ⟨o1, o2, t1, t2⟩ := q.1
  obtain ⟨_, g⟩ := g
  rcases g with ⟨hk, ho, ht, ⟨_, _, p2, p3, p8⟩, _, h15, hs3, hf⟩ | ⟨hk, ho, ht, h6, ⟨_, _, p2, p3, p8⟩, _, h15, hs3, hf⟩ | ⟨hk, ho, ht, p2, pb, h15, hs3, hf⟩ | ⟨hk, ho, ht, h8, ⟨_, _, p2, p3, p8⟩, _, p6, p7, h15, hs3, hf⟩ | ⟨hk, ho, ht, h12, ⟨_, _, p2, p3, p8⟩, _, oo8, oo, h15, hs3, hf⟩
  · have e6 := sm3_t hs3 6 (by decide)
    have hs := (cm_st hc).2.2.1 hk
    have z6 := (q.2.2.2.2.2.2.1 hs).1
    refine ⟨⟨by omega, by omega, by omega, by omega⟩, fun _ => by omega, fun _ _ => by omega, fun _ _ => by omega, fun _ => by omega, fun _ => by omega, fun _ => by omega, fun _ => ?_⟩
    rw [show 37 + (i' 3 6).toInt.toNat = 37 by omega]; exact p3
  · refine ⟨⟨by omega, by omega, by omega, by omega⟩, fun _ => by omega, fun _ _ => by omega, fun _ _ => by omega, fun _ => by omega, fun _ => by omega, fun _ => by omega, fun _ => ?_⟩
    rw [show 37 + (i' 3 6).toInt.toNat = 38 + (i 3 6).toInt.toNat by omega]; exact p3
  · have e6 := sm3_t hs3 6 (by decide)
    have e10 := sm3_t hs3 10 (by decide)
    have e3 : (i' (37 + (i 3 6).toInt.toNat) 3).toInt = (i (37 + (i 3 6).toInt.toNat) 3).toInt := by rw [pb 3 (by decide)]
    have h7 := q.2.2.2.2.2.2.2 ((cm_st hc).2.2.2.1 hk)
    refine ⟨⟨by omega, by omega, by omega, by omega⟩, fun _ => by omega, fun _ _ => by omega, fun _ _ => ?_, fun _ => by omega, fun _ => by omega, fun _ => by omega, fun _ => by omega⟩
    rw [ho]; omega
  · have e10 := sm3_t hs3 10 (by decide)
    have e12 := sm3_t hs3 12 (by decide)
    have hr6 := hr.1 hk
    refine ⟨⟨by omega, by omega, by omega, by omega⟩, fun _ => by omega, fun _ _ => ?_, fun _ _ => ?_, fun _ => by omega, fun _ => by omega, fun _ => by omega, fun _ => by omega⟩
    · rw [ho]; refine ⟨by omega, by omega, by omega⟩
    · rw [ho]; omega
  · have e8 := sm3_t hs3 8 (by decide)
    have e10 := sm3_t hs3 10 (by decide)
    have e14 := sm3_t hs3 14 (by decide)
    have h2 : (i' o 2).toInt = (i o 2).toInt := by rw [oo 2 (by decide)]
    have h3 : (i' o 3).toInt = (i o 3).toInt := by rw [oo 3 (by decide)]
    have h7 : (i' o 7).toInt = (i o 7).toInt := by rw [oo 7 (by decide)]
    have hs := (cm_st hc).2.2.2.2.1 hk
    have g2 := q.2.2.1 (by omega) (by omega)
    have hr7 := hr.2.2.2.1 hk
    have g3 := q.2.2.2.1 (by omega) (by omega)
    refine ⟨⟨by omega, by omega, by omega, by omega⟩, fun _ => by omega, fun _ _ => ?_, fun _ _ => ?_, fun _ => by omega, fun _ => ?_, fun _ => by omega, fun _ => by omega⟩
    · rw [ho]; refine ⟨by omega, by omega, by omega⟩
    · rw [ho]; omega
    · rw [ht]; refine ⟨by omega, by omega, by omega⟩
theorem PO_hd (hO : OkI i) (h : PO i) (q : QI i o t) (hc : cmW (i 3 16).toInt (i 3 15).toInt k) (hr : roomQ i k) (g : hdQ i o t i' o' t' ln k) : PO i' := by
  have b6 := (rd_bx hO).1
  have b8 := (rd_bx hO).2.1
  have b10 := (rd_bx hO).2.2.1
  have b12 := (rd_bx hO).2.2.2.1
  have b14 := (rd_bx hO).2.2.2.2.1
  obtain ⟨o1, o2, t1, t2⟩ := q.1
  obtain ⟨_, g⟩ := g
  intro p h1 h2
  have hp := h p h1 h2
  have hp3 := hp.2.2.1
  rcases g with ⟨hk, ho, ht, ⟨_, _, p2, p3, p8⟩, ⟨k4, k5⟩, h15, hs3, hf⟩ | ⟨hk, ho, ht, h6, ⟨_, _, p2, p3, p8⟩, ⟨k4, k5⟩, h15, hs3, hf⟩ | ⟨hk, ho, ht, p2, pb, h15, hs3, hf⟩ | ⟨hk, ho, ht, h8, ⟨_, _, p2, p3, p8⟩, ⟨k4, k5⟩, p6, p7, h15, hs3, hf⟩ | ⟨hk, ho, ht, h12, ⟨_, _, p2, p3, p8⟩, ⟨k4, k5⟩, oo8, oo, h15, hs3, hf⟩
  · by_cases hq : p = 37
    · subst hq
      clear hp hf
      rw [k4, k5]
      exact ⟨fun _ => by omega, fun _ => by omega, hp3, fun _ _ => by omega⟩
    · rw [hf p (by clear hp; omega) hq]; exact hp
  · by_cases hq : p = 38 + (i 3 6).toInt.toNat
    · subst hq
      have hr4 := hr.2.2.2.2 hk
      clear hp hf
      rw [k4, k5]
      exact ⟨fun _ => by omega, fun _ => by omega, hp3, fun _ _ => by omega⟩
    · rw [hf p (by clear hp; omega) hq]; exact hp
  · by_cases hq : p = 37 + (i 3 6).toInt.toNat
    · subst hq
      have h7 := q.2.2.2.2.2.2.2 ((cm_st hc).2.2.2.1 hk)
      clear hp hf
      rw [pb 3 (by decide), pb 4 (by decide), pb 5 (by decide), pb 7 (by decide), pb 8 (by decide)]
      exact ⟨fun _ => by omega, fun _ => by omega, hp3, fun _ _ => by omega⟩
    · rw [hf p (by clear hp; omega) hq]; exact hp
  · by_cases hq : p = 42 + (i 3 8).toInt.toNat
    · subst hq
      clear hp hf
      rw [k4, k5]
      exact ⟨fun _ => by omega, fun _ => by omega, hp3, fun _ _ => by omega⟩
    · rw [hf p (by clear hp; omega) hq]; exact hp
  · by_cases hq : p = 84 + (i 3 12).toInt.toNat
    · subst hq
      clear hp hf
      rw [k4, k5]
      exact ⟨fun _ => by omega, fun _ => by omega, hp3, fun _ _ => by omega⟩
    · by_cases hq2 : p = o
      · subst hq2
        have hs := (cm_st hc).2.2.2.2.1 hk
        have g2 := q.2.2.1 (by clear hp; omega) (by clear hp; omega)
        have hr7 := hr.2.2.2.1 hk
        rw [oo 2 (by decide), oo 3 (by decide), oo 4 (by decide), oo 5 (by decide), oo 7 (by decide)]
        exact ⟨hp.1, hp.2.1, hp.2.2.1, fun _ _ => by clear hp; omega⟩
      · rw [hf p (by clear hp; omega) hq hq2]; exact hp
theorem QI_st (hO : OkI i) (q : QI i o t) (hc : cmW (i 3 16).toInt (i 3 15).toInt 8) (hr : roomQ i 8) (g : stQ i o i' o' t' ln) : QI i' o' t' := by
  have b6 := (rd_bx hO).1
  have b8 := (rd_bx hO).2.1
  have b10 := (rd_bx hO).2.2.1
  obtain ⟨o1, o2, t1, t2⟩ := q.1
  have hs := (cm_st hc).2.1 rfl
  have hr2 := hr.2.1 rfl
  obtain ⟨ho, ht, h10, ⟨_, _, p2, p3, p8⟩, _, oo3, oo, h15, hs3, hf⟩ := g
  have e6 := sm3_t hs3 6 (by decide)
  have e8 := sm3_t hs3 8 (by decide)
  have e12 := sm3_t hs3 12 (by decide)
  have e14 := sm3_t hs3 14 (by decide)
  have h2 : (i' o 2).toInt = (i o 2).toInt := by rw [oo 2 (by decide)]
  have h7 : (i' o 7).toInt = (i o 7).toInt := by rw [oo 7 (by decide)]
  have h8 : (i' o 8).toInt = (i o 8).toInt := by rw [oo 8 (by decide)]
  have g3 := q.2.2.2.1 (by omega) (by omega)
  refine ⟨⟨by omega, by omega, by omega, by omega⟩, fun z => ?_, fun _ _ => ?_, fun _ _ => ?_, fun _ => ?_, fun _ => by omega, fun _ => by omega, fun _ => by omega⟩
  · have g1 := q.2.1 (by omega)
    omega
  · have g2 := q.2.2.1 (by omega) (by omega)
    rw [ho]; refine ⟨by omega, by omega, by omega⟩
  · rw [ho]; omega
  · rw [ht]; refine ⟨by omega, by omega, by omega⟩
theorem PO_st (hO : OkI i) (h : PO i) (q : QI i o t) (hc : cmW (i 3 16).toInt (i 3 15).toInt 8) (hr : roomQ i 8) (g : stQ i o i' o' t' ln) : PO i' := by
  have b10 := (rd_bx hO).2.2.1
  have b14 := (rd_bx hO).2.2.2.2.1
  obtain ⟨o1, o2, t1, t2⟩ := q.1
  have hs := (cm_st hc).2.1 rfl
  have hr2 := hr.2.1 rfl
  obtain ⟨ho, ht, h10, ⟨_, _, p2, p3, p8⟩, p45, oo3, oo, h15, hs3, hf⟩ := g
  intro p h1 h2
  have hp := h p h1 h2
  have hp3 := hp.2.2.1
  have g3 := q.2.2.2.1 (by clear hp; omega) (by clear hp; omega)
  by_cases hq : p = 54 + (i 3 10).toInt.toNat
  · subst hq
    clear hp hf
    exact ⟨fun _ => by omega, fun _ => by omega, p45, fun _ _ => by omega⟩
  · by_cases hq2 : p = o
    · subst hq2
      rw [oo 2 (by decide), oo 4 (by decide), oo 5 (by decide), oo 7 (by decide), oo 8 (by decide)]
      exact ⟨fun _ => by clear hp; omega, fun _ => by clear hp; omega, hp.2.2.1, hp.2.2.2⟩
    · rw [hf p (by clear hp; omega) hq hq2]; exact hp
theorem QI_row (q : QI i o t) (hs : (i 3 15).toInt = 3 ∨ (i 3 15).toInt = 5 ∨ (i 3 15).toInt = 6 ∨ (i 3 15).toInt = 7) : (i t 2).toInt + (i t 3).toInt = (i 3 14).toInt := by
  rcases hs with h | h | h | h
  · exact (q.2.2.2.2.1 (Or.inl h)).2.2
  · exact (q.2.2.2.2.1 (Or.inr h)).2.2
  · exact (q.2.2.2.2.2.1 (Or.inl h)).2.2
  · exact (q.2.2.2.2.2.1 (Or.inr h)).2.2
theorem QI_rw (hO : OkI i) (q : QI i o t) (hc : cmW (i 3 16).toInt (i 3 15).toInt 2) (hr : roomQ i 2) (g : rwQ i o t i' o' t' ln wd) : QI i' o' t' := by
  obtain ⟨o1, o2, t1, t2⟩ := q.1
  have hs := (cm_st hc).1 rfl
  have gr := QI_row q hs
  obtain ⟨ho, ht, h14, tt3, tt, _, _, h15, hs3, hf⟩ := g
  have e6 := sm3_t hs3 6 (by decide)
  have e8 := sm3_t hs3 8 (by decide)
  have e10 := sm3_t hs3 10 (by decide)
  have e12 := sm3_t hs3 12 (by decide)
  have h2 : (i' t 2).toInt = (i t 2).toInt := by rw [tt 2 (by decide)]
  have eo : i' o = i o := hf o (by clear hs h15; omega) (by clear hs h15; omega) (by clear hs h15; omega)
  refine ⟨⟨by omega, by omega, by omega, by omega⟩, fun z => ?_, fun z1 z2 => ?_, fun z1 z2 => ?_, fun z => ?_, fun z => ?_, fun _ => by omega, fun _ => by omega⟩
  · have g1 := q.2.1 (by omega)
    omega
  · have g2 := q.2.2.1 (by omega) (by omega)
    rw [ho, eo]; refine ⟨by omega, by omega, by omega⟩
  · have g3 := q.2.2.2.1 (by omega) (by omega)
    rw [ho, eo]; omega
  · have g4 := q.2.2.2.2.1 (by omega)
    rw [ht]; refine ⟨by omega, by omega, by omega⟩
  · have g5 := q.2.2.2.2.2.1 (by omega)
    rw [ht]; refine ⟨by omega, by omega, by omega⟩
theorem PO_rw (hO : OkI i) (h : PO i) (q : QI i o t) (hc : cmW (i 3 16).toInt (i 3 15).toInt 2) (hr : roomQ i 2) (g : rwQ i o t i' o' t' ln wd) : PO i' := by
  have hr3 := hr.2.2.1 rfl
  obtain ⟨o1, o2, t1, t2⟩ := q.1
  have gr := QI_row q ((cm_st hc).1 rfl)
  obtain ⟨ho, ht, h14, tt3, tt, _, _, h15, hs3, hf⟩ := g
  intro p h1 h2
  have hp := h p h1 h2
  by_cases hq : p = t
  · subst hq
    rw [tt 2 (by decide), tt 4 (by decide), tt 5 (by decide), tt 7 (by decide), tt 8 (by decide)]
    exact ⟨fun _ => by clear hp h15; omega, fun _ => by clear hp h15; omega, hp.2.2.1, hp.2.2.2⟩
  · rw [hf p (by clear hp h15; omega) hq (by clear hp h15; omega)]; exact hp
theorem QI_dl (q : QI i o t) (g : dlQ i i' ln l) : QI i' o t := by
  obtain ⟨_, hs3, hf⟩ := g
  have q0 := q.1
  unfold QI at q ⊢
  rw [hs3 15 (by decide), hs3 6 (by decide), hs3 8 (by decide), hs3 10 (by decide), hs3 12 (by decide), hs3 14 (by decide), hf o (by clear q; omega), hf t (by clear q; omega), hf (37 + (i 3 6).toInt.toNat) (by clear q; omega)]
  exact q
theorem QI_er (q : QI i o t) (g : addE i i' ln e) : QI i' o t := by
  obtain ⟨_, hf⟩ := g
  have q0 := q.1
  have f3 : ∀ b : Nat, b ≠ 4 → i' 3 b = i 3 b := fun b hb => hf 3 b (by omega) (by omega) (by omega)
  have fr : ∀ a : Nat, 8 ≤ a → i' a = i a := fun a ha => funext fun b => hf a b (by omega) (by omega) (by omega)
  unfold QI at q ⊢
  rw [f3 15 (by decide), f3 6 (by decide), f3 8 (by decide), f3 10 (by decide), f3 12 (by decide), f3 14 (by decide), fr o (by clear q; omega), fr t (by clear q; omega), fr (37 + (i 3 6).toInt.toNat) (by clear q; omega)]
  exact q
theorem QI_tg (q : QI i o t) (hs3 : sm3 i i' [16]) (hf : ∀ a : Nat, a ≠ 3 → i' a = i a) : QI i' o t := by
  have q0 := q.1
  unfold QI at q ⊢
  rw [hs3 15 (by decide), hs3 6 (by decide), hs3 8 (by decide), hs3 10 (by decide), hs3 12 (by decide), hs3 14 (by decide), hf o (by clear q; omega), hf t (by clear q; omega), hf (37 + (i 3 6).toInt.toNat) (by clear q; omega)]
  exact q
theorem QI_li (hO : OkI i) (q : QI i o t) (g : liQ i o t i' o' t' ln l) : QI i' o' t' := by
  obtain ⟨k, e, _, g⟩ := g
  rcases g with ⟨_, h, ho, ht⟩ | ⟨hk, he, g⟩
  · subst h; subst ho; subst ht; exact q
  · rcases g with ⟨_, g, ho, ht⟩ | ⟨h0, _, _, hs3, hf, ho, ht⟩ | ⟨h0, h2, g⟩ | ⟨h0, h8, g⟩ | ⟨_, _, h, ho, ht⟩ | ⟨h0, _, _, g⟩
    · subst ho; subst ht; exact QI_er q g
    · subst ho; subst ht; exact QI_tg q hs3 hf
    · subst h2; have h9 := er_0 he h0; exact QI_rw hO q h9.1 h9.2.1 g
    · subst h8; have h9 := er_0 he h0; exact QI_st hO q h9.1 h9.2.1 g
    · subst h; subst ho; subst ht; exact q
    · have h9 := er_0 he h0; exact QI_hd hO q h9.1 h9.2.1 g
/-! the lines of a text, one behind another -/
def frF (T : Nat → Int32) (n : Nat) : Nat → Nat
  | 0 => 0
  | k + 1 => if k = n ∨ (T k).toInt = 10 then k + 1 else frF T n k
def lnF (T : Nat → Int32) (n : Nat) : Nat → Nat
  | 0 => 1
  | k + 1 => if k = n ∨ (T k).toInt = 10 then lnF T n k + 1 else lnF T n k
theorem frF_le (T : Nat → Int32) (n : Nat) : ∀ k : Nat, frF T n k ≤ k
  | 0 => Nat.le_refl _
  | k + 1 => by
    have h := frF_le T n k
    show (if k = n ∨ (T k).toInt = 10 then k + 1 else frF T n k) ≤ k + 1
    split <;> omega
theorem lnF_le (T : Nat → Int32) (n : Nat) : ∀ k : Nat, 1 ≤ lnF T n k ∧ lnF T n k ≤ k + 1
  | 0 => ⟨Nat.le_refl 1, Nat.le_refl 1⟩
  | k + 1 => by
    have h := lnF_le T n k
    show 1 ≤ (if k = n ∨ (T k).toInt = 10 then lnF T n k + 1 else lnF T n k) ∧ (if k = n ∨ (T k).toInt = 10 then lnF T n k + 1 else lnF T n k) ≤ k + 1 + 1
    split <;> omega
theorem frF_y {T : Nat → Int32} {n k : Nat} (h : k = n ∨ (T k).toInt = 10) : frF T n (k + 1) = k + 1 ∧ lnF T n (k + 1) = lnF T n k + 1 := by
  constructor
  · show (if _ then _ else _) = _
    rw [if_pos h]
  · show (if _ then _ else _) = _
    rw [if_pos h]
theorem frF_n {T : Nat → Int32} {n k : Nat} (h : ¬ (k = n ∨ (T k).toInt = 10)) : frF T n (k + 1) = frF T n k ∧ lnF T n (k + 1) = lnF T n k := by
  constructor
  · show (if _ then _ else _) = _
    rw [if_neg h]
  · show (if _ then _ else _) = _
    rw [if_neg h]
abbrev rdS : Type := (Nat → Nat → Int32) × Nat × Nat
/-- a whole line: its blanks passed over, the dialect, what it does -/
def lineQ (i : Nat → Nat → Int32) (o t : Nat) (i' : Nat → Nat → Int32) (o' t' : Nat) (T : Nat → Int32) (ln fr to_ : Int) : Prop :=
  ∃ a b : Int, skp T fr to_ a ∧ drp T a to_ b ∧ ∃ i1, OkI i1 ∧ dlQ i i1 ln (lnL T a b) ∧ liQ i1 o t i' o' t' ln (lnL T a b)
def stepR (T : Nat → Int32) (n j : Nat) (s s' : rdS) : Prop :=
  OkI s.1 ∧ QI s.1 s.2.1 s.2.2 ∧ ((j = n ∨ (T j).toInt = 10) → lineQ s.1 s.2.1 s.2.2 s'.1 s'.2.1 s'.2.2 T (lnF T n j : Int) (frF T n j : Int) (j : Int)) ∧ (¬ (j = n ∨ (T j).toInt = 10) → s' = s)
def trQ (T : Nat → Int32) (n : Nat) (s0 : rdS) (k : Nat) (s : rdS) : Prop := ∃ qs : Nat → rdS, qs 0 = s0 ∧ qs k = s ∧ ∀ j : Nat, j < k → stepR T n j (qs j) (qs (j + 1))
theorem trQ_0 (T : Nat → Int32) (n : Nat) (s0 : rdS) : trQ T n s0 0 s0 := ⟨fun _ => s0, rfl, rfl, fun j hj => absurd hj (Nat.not_lt_zero _)⟩
theorem trQ_s {T : Nat → Int32} {n k : Nat} {s0 s s' : rdS} (h : trQ T n s0 k s) (g : stepR T n k s s') : trQ T n s0 (k + 1) s' := by
  obtain ⟨qs, h0, hk, hs⟩ := h
  refine ⟨fun j => if j ≤ k then qs j else s', ?_, ?_, fun j hj => ?_⟩
  · show (if 0 ≤ k then qs 0 else s') = s0
    rw [if_pos (Nat.zero_le _)]; exact h0
  · show (if k + 1 ≤ k then _ else s') = s'
    rw [if_neg (by omega)]
  · show stepR T n j (if j ≤ k then qs j else s') (if j + 1 ≤ k then qs (j + 1) else s')
    by_cases hjk : j < k
    · rw [if_pos (by omega), if_pos (by omega)]; exact hs j hjk
    · have : j = k := by omega
      subst this
      rw [if_pos (Nat.le_refl _), if_neg (by omega), hk]; exact g
/-- a reading begins -/
def beQ (i : Nat → Nat → Int32) : Prop := (i 3 1).toInt = 0 ∧ (i 3 4).toInt = 0 ∧ (i 3 6).toInt = 0 ∧ (i 3 8).toInt = 0 ∧ (i 3 10).toInt = 0 ∧ (i 3 12).toInt = 0 ∧ (i 3 14).toInt = 0 ∧ (i 3 15).toInt = 0 ∧ (i 3 16).toInt = 0
/-- a reading ends -/
def enQ (i1 i' : Nat → Nat → Int32) (ln : Int) : Prop := ∃ i2, (((i1 3 15).toInt = 0 ∧ addE i1 i2 ln 6) ∨ ((i1 3 15).toInt ≠ 0 ∧ i2 = i1)) ∧ (((i2 3 16).toInt ≠ 0 ∧ addE i2 i' ln 7) ∨ ((i2 3 16).toInt = 0 ∧ i' = i2))
theorem QI_be (h : beQ i) (ho : 37 ≤ o ∧ o < 54) (ht : 54 ≤ t ∧ t < 96) : QI i o t := by
  unfold beQ at h
  refine ⟨⟨by omega, by omega, by omega, by omega⟩, fun _ => by omega, fun _ _ => by omega, fun _ _ => by omega, fun _ => by omega, fun _ => by omega, fun _ => by omega, fun _ => by omega⟩
end RD
