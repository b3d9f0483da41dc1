/-! the class's part of the heap and the reference's -/
def cE (i u : Nat → Nat → Int32) : Prop := ∀ a : Nat, a < 379 → a ≠ 36 → u a = i a
def mE (i u : Nat → Nat → Int32) : Prop := u 36 = i 36 ∧ ∀ a : Nat, 379 ≤ a → u a = i a
def LCls (i : Nat → Nat → Int32) (r : Nat → Nat → Nat) (d : Nat → Nat → UInt64) : Prop := (PO i ∧ PW i ∧ PY i ∧ PC i r) ∧ (PD i ∧ PK i ∧ RI i r d) ∧ ((37 ≤ r 3 17 ∧ r 3 17 < 54) ∧ (54 ≤ r 3 18 ∧ r 3 18 < 96))
def LFil (i : Nat → Nat → Int32) (r : Nat → Nat → Nat) : Prop := ∃ a b : Nat, (9 ≤ a ∧ a < 11) ∧ (9 ≤ b ∧ b < 11) ∧ a ≠ b ∧ r 0 12 = 357 + 2 * a ∧ r 0 13 = 357 + 2 * b ∧ tgO i a ∧ tgJ i a = sqz (tgLM i 8)
def LMod (i : Nat → Nat → Int32) (d : Nat → Nat → UInt64) : Prop := NR i ∧ DI i ∧ MI i d
def LTxt (i : Nat → Nat → Int32) : Prop := (i 1 1).toInt = (i 36 2).toInt ∧ ∀ k : Nat, (k : Int) < (i 1 1).toInt → (i 2 k).toInt = (i 379 k).toInt
def LCas (i : Nat → Nat → Int32) (r : Nat → Nat → Nat) : Prop := ∃ Lc : List (Nat × Int32), csP i r Lc ∧ mcP i Lc ∧ ∀ c : Nat, c < Lc.length → scn i (r (216 + 1 * c) 0) = mcs i c
def LHok (i : Nat → Nat → Int32) : Prop := (i 0 11).toInt = (i 36 67).toInt ∧ ∀ h : Nat, (h : Int) < (i 0 11).toInt → tgJ i h = sqz (tgLM i h) ∧ (i 33 h).toInt = (i 420 h).toInt
def LRun (i : Nat → Nat → Int32) (r : Nat → Nat → Nat) : Prop := (i 23 8).toInt = (i 36 76).toInt ∧ ((i 23 8).toInt = 1 → rest i r = mrest i)
def LTol (i : Nat → Nat → Int32) (n : Nat) : Prop := (i 23 10).toInt ≤ 100 * n ∧ (i 36 81).toInt ≤ 100 * n
/-- what holds between two rows of the script -/
def LR (i : Nat → Nat → Int32) (r : Nat → Nat → Nat) (d : Nat → Nat → UInt64) (n : Nat) : Prop := (OkI i ∧ RS r) ∧ LCls i r d ∧ LFil i r ∧ LMod i d ∧ LTxt i ∧ LCas i r ∧ LHok i ∧ LRun i r ∧ LTol i n
section LRS
variable {i u : Nat → Nat → Int32} {r v : Nat → Nat → Nat} {d d' : Nat → Nat → UInt64} {n : Nat}
theorem RU_d (h : RU i r d) (hd : ∀ a : Nat, 25 ≤ a → a < 28 → d' a = d a) : RU i r d' := ⟨h.1, h.2.1, h.2.2.1, fun w hw => by unfold wfin; rw [hd (25 + 1 * w) (by omega) (by omega)]; exact h.2.2.2.1 w hw, h.2.2.2.2⟩
theorem RI_d (h : RI i r d) (hd : ∀ a : Nat, 25 ≤ a → a < 28 → d' a = d a) : RI i r d' := h.elim (fun q => Or.inl q) (fun q => Or.inr ⟨q.1, RU_d q.2.1 hd, q.2.2⟩)
theorem RI_off (h : RI i r d) (h0 : (i 23 8).toInt = 0) (e8 : (u 23 8).toInt = 0) (e : ∀ w : Nat, w < 3 → (u (25 + 1 * w) 1).toInt = (i (25 + 1 * w) 1).toInt) : RI u v d' := by
  rcases h with ⟨_, h2⟩ | ⟨h1, _⟩
  · exact Or.inl ⟨e8, fun w hw => by rw [e w hw]; exact h2 w hw⟩
  · omega
/-- nothing of a run is touched -/
theorem RI_x (hO : OkI i) (hPC : PC i r) (h : RI i r d) (f : ∀ a : Nat, (a = 13 ∨ a = 23 ∨ (25 ≤ a ∧ a < 28) ∨ a = 28 ∨ a = 33 ∨ (37 ≤ a ∧ a < 96) ∨ (216 ≤ a ∧ a < 240) ∨ (357 ≤ a ∧ a < 379)) → u a = i a) (f0 : (u 0 11).toInt = (i 0 11).toInt) : RI u r d ∧ ((i 23 8).toInt = 1 → rest u r = rest i r) := by
  have hSC : SC i u := ⟨f 33 (by omega), f0, tgE.of (fun a ha => f a (by omega)), fun c hc => by rw [f (216 + 1 * c) (by omega)], fun a ha => f a (by omega)⟩
  have e23 := f 23 (by omega)
  have e13 := f 13 (by omega)
  have hws : ∀ a : Nat, a < 3 → u (25 + 1 * a) = i (25 + 1 * a) := fun a ha => f _ (by omega)
  rcases h with ⟨h1, h2⟩ | ⟨h1, h2, h3⟩
  · exact ⟨Or.inl ⟨by rw [e23]; exact h1, fun w hw => by rw [hws w hw]; exact h2 w hw⟩, fun q => by omega⟩
  · have h20 := h2.1
    exact ⟨Or.inr ⟨by rw [e23]; exact h1, RU_same hO hPC h2 hSC (f 28 (by omega)) (by rw [e23]) (by rw [e23]; omega) (by rw [e23]) (by rw [e23]) (by rw [e23]) (by rw [e13]) hws, by rw [e23]; exact h3⟩, fun _ => rest_same hO hPC h2 hSC (f 28 (by omega)) (by rw [e23]) (by rw [e23]) hws⟩
theorem PC_x (h : PC i r) (e : u 13 = i 13) : PC u r := PC_fr h (fun a ha => by subst ha; exact e) (fun _ _ _ => rfl)
theorem PK_x (hO : OkI i) (h : PK i) (f : ∀ a : Nat, (357 ≤ a ∧ a < 379) → u a = i a) (f0 : (u 0 11).toInt = (i 0 11).toInt) : PK u := PK.same hO h (tgE.of (fun a ha => f a ha)) f0
/-- only scratch of the class is touched -/
theorem LCls_x (hO : OkI i) (h : LCls i r d) (f : ∀ a : Nat, (a = 0 ∨ a = 13 ∨ a = 23 ∨ (25 ≤ a ∧ a < 29) ∨ a = 33 ∨ (37 ≤ a ∧ a < 379)) → u a = i a) : LCls u r d ∧ ((i 23 8).toInt = 1 → rest u r = rest i r) := by
  obtain ⟨⟨h1, h2, h3, h4⟩, ⟨h5, h6, h7⟩, h8⟩ := h
  have hr := RI_x hO h4 h7 (u := u) (fun a ha => f a (by omega)) (by rw [f 0 (by omega)])
  exact ⟨⟨⟨PO_fr h1 (fun a ha => f a (by omega)), PW_fr h2 (fun a ha => f a (by omega)), PY_fr h3 (fun a ha => f a (by omega)), PC_x h4 (f 13 (by omega))⟩, ⟨PD_fr hO h5 (fun a ha => f a (by omega)), PK_x hO h6 (fun a ha => f a (by omega)) (by rw [f 0 (by omega)]), hr.1⟩, h8⟩, hr.2⟩
theorem tgO_x {j : Nat} (hj : j < 11) (h : tgO i j) (f : ∀ a : Nat, (357 ≤ a ∧ a < 379) → u a = i a) : tgO u j := tgO_J (f _ (by omega)) (f _ (by omega)) h
theorem tgJ_x {j : Nat} (hj : j < 11) (f : ∀ a : Nat, (357 ≤ a ∧ a < 379) → u a = i a) : tgJ u j = tgJ i j := by unfold tgJ; rw [f _ (by omega), f _ (by omega)]
theorem tgLM_x (e6 : u 416 = i 416) (e7 : u 417 = i 417) (j : Nat) : tgLM u j = tgLM i j := by unfold tgLM; rw [e6, e7]
theorem LFil_x (h : LFil i r) (f : ∀ a : Nat, (357 ≤ a ∧ a < 379) → u a = i a) (e6 : u 416 = i 416) (e7 : u 417 = i 417) : LFil u r := by
  obtain ⟨a, b, ha, hb, hab, h12, h13, ho, hj⟩ := h
  exact ⟨a, b, ha, hb, hab, h12, h13, tgO_x (by omega) ho f, by rw [tgJ_x (by omega) f, tgLM_x e6 e7]; exact hj⟩
theorem LHok_x (hO : OkI i) (h : LHok i) (f : ∀ a : Nat, (a = 33 ∨ (357 ≤ a ∧ a < 379)) → u a = i a) (f0 : (u 0 11).toInt = (i 0 11).toInt) (e67 : (u 36 67).toInt = (i 36 67).toInt) (e6 : u 416 = i 416) (e7 : u 417 = i 417) (e0 : u 420 = i 420) : LHok u := by
  have hb : (i 0 11).toInt ≤ 8 := (hO 0 11).2
  refine ⟨by rw [f0, e67]; exact h.1, fun k hk => ?_⟩
  rw [f0] at hk
  have h9 := h.2 k hk
  rw [tgJ_x (by omega) (fun a ha => f a (Or.inr ha)), tgLM_x e6 e7, f 33 (Or.inl rfl), e0]
  exact h9
theorem LTxt_x (h : LTxt i) (e1 : (u 1 1).toInt = (i 1 1).toInt) (e2 : u 2 = i 2) (e3 : (u 36 2).toInt = (i 36 2).toInt) (e4 : u 379 = i 379) : LTxt u := ⟨by rw [e1, e3]; exact h.1, fun k hk => by rw [e2, e4]; rw [e1] at hk; exact h.2 k hk⟩
theorem LTxt_0 (e1 : (u 1 1).toInt = 0) (e2 : (u 36 2).toInt = 0) : LTxt u := ⟨by omega, fun k hk => by omega⟩
theorem csP_x {Lc : List (Nat × Int32)} (h : csP i r Lc) (e : u 13 = i 13) (f : ∀ a : Nat, (216 ≤ a ∧ a < 240) → u a 3 = i a 3) (hl : Lc.length ≤ 24) (fr : ∀ a : Nat, (216 ≤ a ∧ a < 240) → v a 0 = r a 0) : csP u v Lc := ⟨by rw [e]; exact h.1, fun c s t hc => by
  have hlt : c < Lc.length := (List.getElem?_eq_some_iff.mp hc).1
  have h9 := h.2 c s t hc
  exact ⟨by rw [fr _ (by omega)]; exact h9.1, by rw [f _ (by omega)]; exact h9.2⟩⟩
theorem mcP_x {Lc : List (Nat × Int32)} (h : mcP i Lc) (e3 : u 36 33 = i 36 33) (e7 : u 397 = i 397) (e4 : u 400 = i 400) : mcP u Lc := ⟨by rw [e3]; exact h.1, fun c s t hc => by rw [e7, e4]; exact h.2 c s t hc⟩
theorem LCas_x (hO : OkI i) (hPC : PC i r) (h : LCas i r) (e13 : u 13 = i 13) (f : ∀ a : Nat, (216 ≤ a ∧ a < 240) → u a 3 = i a 3) (f2 : ∀ a : Nat, (37 ≤ a ∧ a < 96) → u a = i a) (fr : ∀ a : Nat, (216 ≤ a ∧ a < 240) → v a 0 = r a 0) (e3 : u 36 33 = i 36 33) (e4 : u 400 = i 400) (el : ldE i u) : LCas u v := by
  obtain ⟨Lc, h1, h2, h3⟩ := h
  have hb : (i 13 4).toInt ≤ 24 := (hO 13 4).2
  have hl := h1.1
  refine ⟨Lc, csP_x h1 e13 f (by omega) fr, mcP_x h2 e3 (el.2 397 (by decide) (by decide)) e4, fun c hc => ?_⟩
  have h9 := (hPC c (by omega)).1 (by omega)
  rw [fr _ (by omega), mcs_ld el, scn_fr hO (by omega) (by omega) f2]
  exact h3 c hc
end LRS
/-! a reading: the same cases -/
theorem csE_mem {i : Nat → Nat → Int32} {q e k : Nat} {p : Nat × Int32} (h : p ∈ csE i q e k) : p.1 = q - 42 := by
  unfold csE at h
  rw [(List.mem_replicate.mp h).2]
theorem csX_mem {i : Nat → Nat → Int32} {q : Nat} {p : Nat × Int32} : ∀ n : Nat, p ∈ csX i q n → p.1 = q - 42
  | 0, h => by unfold csX at h; simp at h
  | n + 1, h => by
    unfold csX at h
    rcases List.mem_append.mp h with h | h
    · exact csX_mem n h
    · exact csE_mem h
theorem csA_mem {i : Nat → Nat → Int32} {p : Nat × Int32} : ∀ n : Nat, p ∈ csA i n → p.1 < n
  | 0, h => by unfold csA at h; simp at h
  | n + 1, h => by
    unfold csA at h
    rcases List.mem_append.mp h with h | h
    · have := csA_mem n h; omega
    · unfold csS at h
      rcases List.mem_append.mp h with h | h
      · by_cases q : (i (42 + 1 * n) 8).toInt = 0
        · rw [if_pos q] at h
          have := List.mem_singleton.mp h
          rw [this]; exact Nat.lt_succ_self n
        · rw [if_neg q] at h; simp at h
      · have := csX_mem _ h; omega
/-- as many steps here as there -/
theorem scn_mcs {m c : Nat → Nat → Int32} {t s x : Nat} (hM : MRQ m c t) (hs : (s : Int) < (c 3 8).toInt) (h0 : 0 ≤ (m 385 s).toInt) (hx : (m 397 x).toInt = (s : Int)) : scn c (42 + s) = mcs m x := by
  obtain ⟨_, _, _, _, _, hG, hC, _⟩ := hM
  obtain ⟨_, c2, c3, c4, _⟩ := hC s hs
  have g0 := hG 0 (by omega)
  have e1 : mst m (s : Int) = (c (42 + s) 3).toInt := c3
  have e2 : mst m 20 = (c 37 3).toInt := g0.2
  have hb := bgc_or c (42 + s)
  have ho := scn_or c (42 + s)
  have mb := mbg_or m s
  have mo := mcs_or m x
  rw [hx, show ((s : Nat) : Int).toNat = s by omega] at mo
  by_cases q : (m 385 s).toInt = 0
  · omega
  · have g1 := hG (m 385 s).toInt.toNat (by omega)
    have e3 : mst m (20 + (m 385 s).toInt) = (c (37 + (m 385 s).toInt.toNat) 3).toInt := by
      have := g1.2
      rw [show (20 : Int) + (((m 385 s).toInt.toNat : Nat) : Int) = 20 + (m 385 s).toInt by omega] at this
      exact this
    rw [show 37 + 1 * (c (42 + s) 6).toInt.toNat = 37 + (m 385 s).toInt.toNat by omega] at hb
    omega
theorem LCas_rd {u w : Nat → Nat → Int32} {v : Nat → Nat → Nat} {t : Nat} (hO : OkI u) (hM : MRQ u w t) (h1 : csP u v (if 0 < (w 3 4).toInt then [] else (csA w (w 3 8).toInt.toNat).take 24)) (h2 : mcP u (if 0 < (w 3 4).toInt then [] else (csA w (w 3 8).toInt.toNat).take 24)) (f : ∀ a : Nat, (37 ≤ a ∧ a < 96) → u a = w a) (hOw : OkI w) : LCas u v := by
  refine ⟨_, h1, h2, fun c hc => ?_⟩
  obtain ⟨p, hp⟩ : ∃ p, (if 0 < (w 3 4).toInt then [] else (csA w (w 3 8).toInt.toNat).take 24)[c]? = some p := ⟨_, List.getElem?_eq_getElem hc⟩
  have hm := List.mem_of_getElem? hp
  have hlt : p.1 < (w 3 8).toInt.toNat := by
    by_cases q : 0 < (w 3 4).toInt
    · rw [if_pos q] at hm; simp at hm
    · rw [if_neg q] at hm
      exact csA_mem _ (List.mem_of_mem_take hm)
  have b8 : (w 3 8).toInt ≤ 12 := (hOw 3 8).2
  have b5 : 0 ≤ (u 385 p.1).toInt := (hO 385 p.1).1
  have e1 := h1.2 c p.1 p.2 hp
  have e2 := h2.2 c p.1 p.2 hp
  rw [e1.1, scn_fr hOw (by omega) (by omega) f]
  exact scn_mcs hM (by omega) b5 e2.1
