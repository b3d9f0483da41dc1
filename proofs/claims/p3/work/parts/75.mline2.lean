/-! what a line's error is: one number -/
section ML2
variable {m m' c c' : Nat → Nat → Int32} {o t o' t' : Nat} {ln k tg wd e e2 v : Int} {l : List Int}
theorem er_det (h : erQ c t k tg wd e) (g : erQ c t k tg wd e2) : e = e2 := by
  rcases h with ⟨hc, h⟩ | ⟨hc, h⟩ <;> rcases g with ⟨gc, g⟩ | ⟨gc, g⟩
  · rw [h, g]
  · exact absurd gc hc
  · exact absurd hc gc
  · rcases h with ⟨a, b, h⟩ | ⟨a, h⟩ <;> rcases g with ⟨x, y, g⟩ | ⟨x, g⟩
    · rw [h, g]
    · exact absurd ⟨a, b⟩ x
    · exact absurd ⟨x, y⟩ a
    · rcases h with ⟨a2, b2, h⟩ | ⟨a2, h⟩ <;> rcases g with ⟨x2, y2, g⟩ | ⟨x2, g⟩
      · rw [h, g]
      · exact absurd ⟨a2, b2⟩ x2
      · exact absurd ⟨x2, y2⟩ a2
      · rcases h with ⟨a3, b3, h⟩ | ⟨a3, h⟩ <;> rcases g with ⟨x3, y3, g⟩ | ⟨x3, g⟩
        · rw [h, g]
        · exact absurd (x3 a3) b3
        · exact absurd (a3 x3) y3
        · rcases h with ⟨a4, h⟩ | ⟨a4, h⟩ <;> rcases g with ⟨x4, g⟩ | ⟨x4, g⟩
          · rw [h, g]
          · exact absurd x4 a4
          · exact absurd a4 x4
          · rw [h, g]
/-- a line, its error known -/
theorem li_use (h : liQ c o t c' o' t' ln l) (hk : lkd (c 3 1).toInt l = k) (hk0 : k ≠ 0) (hv : erQ c t k (tagW l 0).toInt (wid l) v) :
    (v ≠ 0 ∧ addE c c' ln v ∧ o' = o ∧ t' = t) ∨
    (v = 0 ∧ k = 1 ∧ c' 3 16 = c 3 16 ||| tagW l 0 ∧ sm3 c c' [16] ∧ (∀ a : Nat, a ≠ 3 → c' a = c a) ∧ o' = o ∧ t' = t) ∨
    (v = 0 ∧ k = 2 ∧ rwQ c o t c' o' t' ln (wid l)) ∨
    (v = 0 ∧ k = 8 ∧ stQ c o c' o' t' ln) ∨
    (v = 0 ∧ k = 9 ∧ c' = c ∧ o' = o ∧ t' = t) ∨
    (v = 0 ∧ 3 ≤ k ∧ k ≤ 7 ∧ hdQ c o t c' o' t' ln k) := by
  obtain ⟨k2, e, hk2, h⟩ := h
  rw [hk] at hk2
  subst hk2
  rcases h with ⟨h0, _⟩ | ⟨_, he, h⟩
  · exact absurd h0 hk0
  · have := er_det he hv
    subst this
    exact h
theorem li_none (h : liQ c o t c' o' t' ln l) (hk : lkd (c 3 1).toInt l = 0) : c' = c ∧ t' = t := by
  obtain ⟨k2, e, hk2, h⟩ := h
  rw [hk] at hk2
  rcases h with ⟨_, h1, _, h2⟩ | ⟨h0, _⟩
  · exact ⟨h1, h2⟩
  · exact absurd hk2 h0
theorem cm_mq (h : MRQ m c t) (k : Int) : cmW (m 36 10).toInt (m 36 8).toInt k ↔ cmW (c 3 16).toInt (c 3 15).toInt k := by
  have hW := h.2.1
  have h8 := h.1.2.1
  unfold cmW
  rw [h8]
  unfold mqW at hW
  constructor
  · intro ⟨a, b⟩
    exact ⟨a, by omega⟩
  · intro ⟨a, b⟩
    exact ⟨a, by omega⟩
/-- the rows of the table that grows -/
theorem curRow (q : QI c o t) (h : MRQ m c t) (hs : (c 3 15).toInt = 3 ∨ (c 3 15).toInt = 5 ∨ (c 3 15).toInt = 6 ∨ (c 3 15).toInt = 7) (k : Nat) (hk : (k : Int) < (c 3 14).toInt) : (m 392 k).toInt = (m 36 27).toInt ↔ (c t 2).toInt ≤ (k : Int) := by
  obtain ⟨S, W, N, O, T, G, C, U, E, F, R, L, X⟩ := h
  by_cases h35 : (c 3 15).toInt = 3 ∨ (c 3 15).toInt = 5
  · exact L h35 k hk
  · have h67 : (c 3 15).toInt = 6 ∨ (c 3 15).toInt = 7 := by omega
    have g := q.2.2.2.2.2.1 h67
    have T2 := T.2 h67
    have F9 := F (t - 84) (by omega)
    have F8 := F9.2 k hk
    rw [show 84 + (t - 84) = t by omega] at F8
    have e9 : (m 36 27).toInt = 100 + ((t - 84 : Nat) : Int) := by omega
    rw [e9, F8]
    omega
/-- the reference's first row of a table that is there already: of this width, if there is one -/
def rowM (m : Nat → Nat → Int32) (wd : Int) : Prop := cnt (m 392) (m 36 27).toInt (m 36 26).toInt.toNat = 0 ∨ ∃ k : Nat, (k : Int) < (m 36 26).toInt ∧ (m 392 k).toInt = (m 36 27).toInt ∧ cnt (m 392) (m 36 27).toInt k = 0 ∧ (m 394 k).toInt = wd
theorem cnt_pos {f : Nat → Int32} {w : Int} {k : Nat} (h : (f k).toInt = w) : ∀ n : Nat, k < n → 1 ≤ cnt f w n
  | 0, hk => absurd hk (Nat.not_lt_zero _)
  | n + 1, hk => by
    have h2 := cnt_or f w n
    by_cases h3 : k = n
    · subst h3; omega
    · have := cnt_pos h n (by omega); omega
theorem row_mq (hO : OkI c) (q : QI c o t) (h : MRQ m c t) (hs : (c 3 15).toInt = 3 ∨ (c 3 15).toInt = 5 ∨ (c 3 15).toInt = 6 ∨ (c 3 15).toInt = 7) : (rowM m wd → rowQ c t wd) ∧ (¬ rowM m wd → ¬ rowQ c t wd) := by
  have gr := QI_row q hs
  have hR := h.2.2.2.2.2.2.2.2.2.2.1
  have s7 := h.1.2.2.2.2.2.2
  have hcu := curRow q h hs
  have hb := hO t 2
  have q0 := q.1
  rw [bx_part (by clear hs; omega) (by clear hs; omega) 2] at hb
  have hb2 : 0 ≤ (c t 2).toInt := hb.1
  unfold rowM rowQ
  rw [s7]
  -- the first row, if there is one
  have key : 0 < (c t 3).toInt → (m 392 (c t 2).toInt.toNat).toInt = (m 36 27).toInt ∧ cnt (m 392) (m 36 27).toInt (c t 2).toInt.toNat = 0 ∧ (m 394 (c t 2).toInt.toNat).toInt = (c (96 + 3 * (c t 2).toInt.toNat) 2).toInt := by
    intro h3
    refine ⟨(hcu _ (by clear hs; omega)).mpr (by clear hs; omega), cnt_none _ (fun j hj h9 => ?_), (hR _ (by clear hs; omega)).1⟩
    have := (hcu j (by clear hs; omega)).mp h9
    clear hs; omega
  constructor
  · intro hm
    by_cases h3 : 0 < (c t 3).toInt
    · obtain ⟨k1, k2, k3⟩ := key h3
      rcases hm with hm | ⟨k, hk1, hk2, hk3, hk4⟩
      · have := cnt_pos k1 (c 3 14).toInt.toNat (by clear hs; omega)
        omega
      · have h5 := (hcu k hk1).mp hk2
        by_cases h6 : (c t 2).toInt.toNat < k
        · have := cnt_pos k1 k h6
          omega
        · have h7 : k = (c t 2).toInt.toNat := by clear hs; omega
          subst h7
          exact Or.inr (k3.symm.trans hk4)
    · exact Or.inl (by omega)
  · intro hm hq
    refine hm ?_
    by_cases h3 : 0 < (c t 3).toInt
    · obtain ⟨k1, k2, k3⟩ := key h3
      exact Or.inr ⟨_, by clear hs; omega, k1, k2, by rw [k3]; rcases hq with hq | hq <;> omega⟩
    · refine Or.inl (cnt_none _ (fun j hj h9 => ?_))
      have := (hcu j (by clear hs; omega)).mp h9
      clear hs; omega
/-- what the reference says of a line: done, or an error told -/
def leM (m' c c' : Nat → Nat → Int32) (t t' : Nat) (ln v : Int) : Prop := (v = 0 ∧ MRQ m' c' t') ∨ (v ≠ 0 ∧ MRQ m' c t ∧ addE c c' ln v ∧ t' = t)
theorem le_no (h : MRQ m c t) (hL : liQ c o t c' o' t' ln l) (hk : lkd (c 3 1).toInt l = 0) : leM m c c' t t' ln 0 := by
  have h9 := li_none hL hk
  rw [← h9.1, ← h9.2] at h
  exact Or.inl ⟨rfl, h⟩
theorem le_er (h : MRQ m c t) (hL : liQ c o t c' o' t' ln l) (hk : lkd (c 3 1).toInt l = k) (hk0 : k ≠ 0) (hv0 : v ≠ 0) (hv : erQ c t k (tagW l 0).toInt (wid l) v) : leM m c c' t t' ln v := by
  rcases li_use hL hk hk0 hv with ⟨_, h1, _, h2⟩ | ⟨h9, _⟩ | ⟨h9, _⟩ | ⟨h9, _⟩ | ⟨h9, _⟩ | ⟨h9, _⟩
  · exact Or.inr ⟨hv0, h, h1, h2⟩
  · exact absurd h9 hv0
  · exact absurd h9 hv0
  · exact absurd h9 hv0
  · exact absurd h9 hv0
  · exact absurd h9 hv0
theorem le_1 (h : MRQ m c t) (hL : liQ c o t c' o' t' ln l) (hk : lkd (c 3 1).toInt l = k) (hk0 : k ≠ 0) (hc : ¬ cmW (m 36 10).toInt (m 36 8).toInt k) : leM m c c' t t' ln 1 :=
  le_er h hL hk hk0 (by decide) (Or.inl ⟨fun g => hc ((cm_mq h k).mpr g), rfl⟩)
theorem le_tags (q : QI c o t) (hO : OkI c') (h : MRQ m c t) (hL : liQ c o t c' o' t' ln l) (hk : lkd (c 3 1).toInt l = 1) (hc : cmW (m 36 10).toInt (m 36 8).toInt 1) (g : (v = 2 ∧ tagW l 0 = 0 ∧ m' = m) ∨ (v = 0 ∧ 1 ≤ (tagW l 0).toInt ∧ tgM m m' (tagW l 0))) (hp : 1 ≤ (tagW l 0).toInt → (c' 3 16 = c 3 16 ||| tagW l 0) → (c' 3 16).toInt ≠ 0) : leM m' c c' t t' ln v := by
  have hc2 := (cm_mq h 1).mp hc
  rcases g with ⟨hv, h0, hm⟩ | ⟨hv, h1, hm⟩
  · subst hv; subst hm
    exact le_er h hL hk (by decide) (by decide) (Or.inr ⟨hc2, Or.inl ⟨rfl, by rw [h0]; rfl, rfl⟩⟩)
  · subst hv
    have hv : erQ c t 1 (tagW l 0).toInt (wid l) 0 := Or.inr ⟨hc2, Or.inr ⟨by omega, Or.inr ⟨by omega, Or.inr ⟨by omega, Or.inr ⟨⟨by omega, by omega, by omega, by omega, by omega⟩, rfl⟩⟩⟩⟩⟩
    rcases li_use hL hk (by decide) hv with ⟨h9, _⟩ | ⟨_, _, g1, g2, g3, _, ht⟩ | ⟨_, h9, _⟩ | ⟨_, h9, _⟩ | ⟨_, h9, _⟩ | ⟨_, h9, _⟩
    · exact absurd rfl h9
    · subst ht
      exact Or.inl ⟨rfl, MRQ_tg h g1 g2 g3 hm (hp h1 g1) q.1.2.2.1⟩
    · exact absurd h9 (by decide)
    · exact absurd h9 (by decide)
    · exact absurd h9 (by decide)
    · exact absurd h9 (by decide)
theorem le_9 (h : MRQ m c t) (hL : liQ c o t c' o' t' ln l) (hk : lkd (c 3 1).toInt l = 9) (hc : cmW (m 36 10).toInt (m 36 8).toInt 9) : leM m c c' t t' ln 0 := by
  have hc2 := (cm_mq h 9).mp hc
  have hv : erQ c t 9 (tagW l 0).toInt (wid l) 0 := Or.inr ⟨hc2, Or.inr ⟨by omega, Or.inr ⟨by omega, Or.inr ⟨by omega, Or.inr ⟨⟨by omega, by omega, by omega, by omega, by omega⟩, rfl⟩⟩⟩⟩⟩
  rcases li_use hL hk (by decide) hv with ⟨h9, _⟩ | ⟨_, h9, _⟩ | ⟨_, h9, _⟩ | ⟨_, h9, _⟩ | ⟨_, _, h1, _, h2⟩ | ⟨_, _, h9, _⟩
  · exact absurd rfl h9
  · exact absurd h9 (by decide)
  · exact absurd h9 (by decide)
  · exact absurd h9 (by decide)
  · subst h1; subst h2; exact Or.inl ⟨rfl, h⟩
  · exact absurd h9 (by decide)
theorem le_step (q : QI c o t) (hO : OkI c) (h : MRQ m c t) (hL : liQ c o t c' o' t' ln l) (hk : lkd (c 3 1).toInt l = 8) (hc : cmW (m 36 10).toInt (m 36 8).toInt 8) (g : (v = 5 ∧ (m 36 17).toInt = 30 ∧ m' = m) ∨ (v = 0 ∧ (m 36 17).toInt < 30 ∧ stM m m')) : leM m' c c' t t' ln v := by
  have hc2 := (cm_mq h 8).mp hc
  have s5 := h.1.2.2.2.2.1
  have A : ∀ w : Int, ((¬ roomQ c 8 ∧ w = 5) ∨ (roomQ c 8 ∧ w = 0)) → erQ c t 8 (tagW l 0).toInt (wid l) w := fun w hw => Or.inr ⟨hc2, Or.inr ⟨by omega, Or.inr ⟨by omega, Or.inr ⟨by omega, hw⟩⟩⟩⟩
  rcases g with ⟨hv, h0, hm⟩ | ⟨hv, h1, hm⟩
  · subst hv; subst hm
    exact le_er h hL hk (by decide) (by decide) (A 5 (Or.inl ⟨fun g9 => by have := g9.2.1 rfl; omega, rfl⟩))
  · subst hv
    have hr : roomQ c 8 := ⟨by omega, fun _ => by omega, by omega, by omega, by omega⟩
    rcases li_use hL hk (by decide) (A 0 (Or.inr ⟨hr, rfl⟩)) with ⟨h9, _⟩ | ⟨_, h9, _⟩ | ⟨_, h9, _⟩ | ⟨_, _, g9⟩ | ⟨_, h9, _⟩ | ⟨_, _, h9, _⟩
    · exact absurd rfl h9
    · exact absurd h9 (by decide)
    · exact absurd h9 (by decide)
    · exact Or.inl ⟨rfl, MRQ_st hO q hc2 hr h g9 hm⟩
    · exact absurd h9 (by decide)
    · exact absurd h9 (by decide)
theorem le_row (q : QI c o t) (hO : OkI c) (h : MRQ m c t) (hL : liQ c o t c' o' t' ln l) (hk : lkd (c 3 1).toInt l = 2) (hc : cmW (m 36 10).toInt (m 36 8).toInt 2) (g : (v = 3 ∧ (wid l < 1 ∨ 4 < wid l) ∧ m' = m) ∨ ((1 ≤ wid l ∧ wid l ≤ 4) ∧ ((v = 4 ∧ ¬ rowM m (wid l) ∧ m' = m) ∨ (rowM m (wid l) ∧ ((v = 5 ∧ (m 36 26).toInt = 40 ∧ m' = m) ∨ (v = 0 ∧ (m 36 26).toInt < 40 ∧ rwM m m' (wid l))))))) : leM m' c c' t t' ln v := by
  have hc2 := (cm_mq h 2).mp hc
  have hs := (cm_st hc2).1 rfl
  have s7 := h.1.2.2.2.2.2.2
  have hrq := row_mq (wd := wid l) hO q h hs
  rcases g with ⟨hv, h0, hm⟩ | ⟨hw, ⟨hv, hr, hm⟩ | ⟨hr, ⟨hv, h40, hm⟩ | ⟨hv, h40, hm⟩⟩⟩
  · subst hv; subst hm
    exact le_er h hL hk (by decide) (by decide) (Or.inr ⟨hc2, Or.inr ⟨by omega, Or.inl ⟨rfl, h0, rfl⟩⟩⟩)
  · subst hv; subst hm
    exact le_er h hL hk (by decide) (by decide) (Or.inr ⟨hc2, Or.inr ⟨by omega, Or.inr ⟨by omega, Or.inl ⟨rfl, hrq.2 hr, rfl⟩⟩⟩⟩)
  · subst hv; subst hm
    exact le_er h hL hk (by decide) (by decide) (Or.inr ⟨hc2, Or.inr ⟨by omega, Or.inr ⟨by omega, Or.inr ⟨fun _ => hrq.1 hr, Or.inl ⟨fun g9 => by have := g9.2.2.1 rfl; omega, rfl⟩⟩⟩⟩⟩)
  · subst hv
    have hrm : roomQ c 2 := ⟨by omega, by omega, fun _ => by omega, by omega, by omega⟩
    have hv : erQ c t 2 (tagW l 0).toInt (wid l) 0 := Or.inr ⟨hc2, Or.inr ⟨by omega, Or.inr ⟨by omega, Or.inr ⟨fun _ => hrq.1 hr, Or.inr ⟨hrm, rfl⟩⟩⟩⟩⟩
    rcases li_use hL hk (by decide) hv with ⟨h9, _⟩ | ⟨_, h9, _⟩ | ⟨_, _, g9⟩ | ⟨_, h9, _⟩ | ⟨_, h9, _⟩ | ⟨_, h9, _⟩
    · exact absurd rfl h9
    · exact absurd h9 (by decide)
    · exact Or.inl ⟨rfl, MRQ_rw hO q hc2 h g9 hm⟩
    · exact absurd h9 (by decide)
    · exact absurd h9 (by decide)
    · exact absurd h9 (by decide)
/-- heads: what title must find -/
theorem gr_mq (hb : 0 ≤ (c 3 6).toInt ∧ (c 3 6).toInt ≤ 4) (q : QI c o t) (h : MRQ m c t) (hc : cmW (m 36 10).toInt (m 36 8).toInt k) (hk : 3 ≤ k ∧ k ≤ 7) : (k ≠ 3 ∨ (m 36 11).toInt = 0) ∧ (k = 3 ∨ 1 ≤ (m 36 11).toInt) ∧ (k ≠ 4 ∨ (m 36 11).toInt = (c 3 6).toInt + 1) := by
  have hc2 := (cm_mq h k).mp hc
  have hN := h.2.2.1
  have hz := q.2.2.2.2.2.2.1
  have h3 := (cm_st hc2).2.2.1
  have hn0 : k ≠ 3 → (c 3 15).toInt ≠ 0 := fun h9 h0 => by
    have h4 := cm_st hc2
    have a := h4.2.2.2.1
    have b := h4.2.2.2.2.1
    have d := h4.2.2.2.2.2.1
    omega
  unfold mqN at hN
  by_cases hk3 : k = 3
  · have := h3 hk3
    refine ⟨Or.inr (by omega), Or.inl hk3, Or.inl (by omega)⟩
  · have := hn0 hk3
    refine ⟨Or.inl hk3, Or.inr ?_, Or.inr (by omega)⟩
    omega
theorem le_head (hb : 0 ≤ (c 3 6).toInt ∧ (c 3 6).toInt ≤ 4) (q : QI c o t) (hO : OkI c) (h : MRQ m c t) (hL : liQ c o t c' o' t' ln l) (hk : lkd (c 3 1).toInt l = k) (hk3 : 3 ≤ k ∧ k ≤ 7) (hc : cmW (m 36 10).toInt (m 36 8).toInt k) (g : (v = 5 ∧ ((k = 4 ∧ (m 36 11).toInt = 5) ∨ (k = 6 ∧ (m 36 13).toInt = 12) ∨ (k = 7 ∧ (m 36 23).toInt = 12)) ∧ m' = m) ∨ (v = 0 ∧ ¬ ((k = 4 ∧ (m 36 11).toInt = 5) ∨ (k = 6 ∧ (m 36 13).toInt = 12) ∨ (k = 7 ∧ (m 36 23).toInt = 12)) ∧ hdM m m' k)) : leM m' c c' t t' ln v := by
  have hc2 := (cm_mq h k).mp hc
  have hgr := (gr_mq hb q h hc hk3).2.2
  have s4 := h.1.2.2.2.1
  have s6 := h.1.2.2.2.2.2.1
  have b8 := (rd_bx hO).2.1
  have b12 := (rd_bx hO).2.2.2.1
  have A : ∀ w : Int, ((¬ roomQ c k ∧ w = 5) ∨ (roomQ c k ∧ w = 0)) → erQ c t k (tagW l 0).toInt (wid l) w := fun w hw => Or.inr ⟨hc2, Or.inr ⟨by omega, Or.inr ⟨by omega, Or.inr ⟨by omega, hw⟩⟩⟩⟩
  rcases g with ⟨hv, h0, hm⟩ | ⟨hv, h1, hm⟩
  · subst hv; subst hm
    refine le_er h hL hk (by omega) (by decide) (A 5 (Or.inl ⟨fun g9 => ?_, rfl⟩))
    rcases h0 with ⟨a, b⟩ | ⟨a, b⟩ | ⟨a, b⟩
    · have := g9.2.2.2.2 a; omega
    · have := g9.1 a; omega
    · have := g9.2.2.2.1 a; omega
  · subst hv
    have hr : roomQ c k := ⟨fun _ => by omega, by omega, by omega, fun _ => by omega, fun _ => by omega⟩
    rcases li_use hL hk (by omega) (A 0 (Or.inr ⟨hr, rfl⟩)) with ⟨h9, _⟩ | ⟨_, h9, _⟩ | ⟨_, h9, _⟩ | ⟨_, h9, _⟩ | ⟨_, h9, _⟩ | ⟨_, _, _, g9⟩
    · exact absurd rfl h9
    · omega
    · omega
    · omega
    · omega
    · exact Or.inl ⟨rfl, MRQ_hd hO q hc2 hr h g9 hm⟩
end ML2
