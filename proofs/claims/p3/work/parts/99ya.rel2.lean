section LRG
variable {i u w : Nat → Nat → Int32} {r v : Nat → Nat → Nat} {d d' : Nat → Nat → UInt64} {n : Nat}
theorem LTol_s (h : LTol i n) (e1 : (w 23 10).toInt ≤ (i 23 10).toInt + 90) (e2 : (w 36 81).toInt ≤ (i 36 81).toInt + 90) : LTol w (n + 1) := by
  have h1 := h.1
  have h2 := h.2
  refine ⟨?_, ?_⟩ <;> omega
/-- nothing but scratch is touched, and the text -/
theorem LR_gen (h : LR i r d n) (hOw : OkI w) (fc : ∀ a : Nat, (a = 0 ∨ a = 13 ∨ a = 23 ∨ (25 ≤ a ∧ a < 29) ∨ a = 33 ∨ (37 ≤ a ∧ a < 240) ∨ (357 ≤ a ∧ a < 379)) → w a = i a) (hPD : PD w) (hPY : PY w)
    (m36 : ∀ k : Nat, (k = 17 ∨ k = 33 ∨ k = 41 ∨ k = 67 ∨ (76 ≤ k ∧ k ≤ 79) ∨ k = 81) → w 36 k = i 36 k) (mA : ∀ a : Nat, ((385 ≤ a ∧ a ≤ 400) ∨ a = 403 ∨ a = 404 ∨ a = 416 ∨ a = 417 ∨ a = 420 ∨ (427 ≤ a ∧ a ≤ 429)) → w a = i a)
    (hd : ∀ a : Nat, 25 ≤ a → a < 28 → d' a = d a) (hd2 : d' 425 = d 425) (hT : LTxt w) : LR w r d' (n + 1) := by
  obtain ⟨⟨hO, hR⟩, ⟨⟨c1, c2, c3, c4⟩, ⟨c5, c6, c7⟩, c8⟩, hF, ⟨m1, m2, m3⟩, _, hC, hH, ⟨r1, r2⟩, hTl⟩ := h
  have hri := RI_x hO c4 c7 (u := w) (fun a ha => fc a (by omega)) (by rw [fc 0 (by omega)])
  have el : ldE i w := ⟨m36 17 (by omega), fun a h1 h2 => mA a (by omega)⟩
  have hmx : mxE i w := mxE_of el (m36 33 (by omega)) (m36 67 (by omega)) (m36 77 (by omega)) (mA 400 (by omega)) (mA 420 (by omega)) (mA 416 (by omega)) (mA 417 (by omega))
  have hmi := MI_same hmx (m36 76 (by omega)) (m36 78 (by omega)) (m36 79 (by omega)) (mA 427 (by omega)) (mA 428 (by omega)) (mA 429 (by omega)) m3
  have hmi2 : MI w d' := hmi.1.elim (fun q => Or.inl q) (fun q => Or.inr ⟨q.1, ⟨q.2.1.1, q.2.1.2.1, q.2.1.2.2.1, fun x hx g => by rw [hd2]; exact q.2.1.2.2.2 x hx g⟩, q.2.2⟩)
  refine ⟨⟨hOw, hR⟩, ⟨⟨PO_fr c1 (fun a ha => fc a (by omega)), PW_fr c2 (fun a ha => fc a (by omega)), hPY, PC_x c4 (fc 13 (by omega))⟩, ⟨hPD, PK_x hO c6 (fun a ha => fc a (by omega)) (by rw [fc 0 (by omega)]), RI_d hri.1 hd⟩, c8⟩, LFil_x hF (fun a ha => fc a (by omega)) (mA 416 (by omega)) (mA 417 (by omega)), ⟨NR_fr m1 (mA 399 (by omega)) (mA 398 (by omega)), DI_fr m2 (m36 41 (by omega)) (mA 403 (by omega)) (mA 404 (by omega)), hmi2⟩, hT, LCas_x hO c4 hC (fc 13 (by omega)) (fun a ha => by rw [fc a (by omega)]) (fun a ha => fc a (by omega)) (fun a ha => rfl) (m36 33 (by omega)) (mA 400 (by omega)) el, LHok_x hO hH (fun a ha => fc a (by omega)) (by rw [fc 0 (by omega)]) (by rw [m36 67 (by omega)]) (mA 416 (by omega)) (mA 417 (by omega)) (mA 420 (by omega)), ⟨by rw [fc 23 (by omega), m36 76 (by omega)]; exact r1, fun q => ?_⟩, LTol_s hTl (by rw [fc 23 (by omega)]; omega) (by rw [m36 81 (by omega)]; omega)⟩
  rw [fc 23 (by omega)] at q
  rw [hri.2 q, hmi.2]; exact r2 q
/-- the texts, when both put the same -/
theorem LTxt_put {f : Nat → Int32} {x : Int} {a b : Int} (h : LTxt i) (eu : w 1 = u 1 ∧ w 2 = u 2) (em : u 36 = i 36 ∧ u 379 = i 379)
    (hc : (a = 1 ∧ putOK f x (i 1 1).toInt ∧ (u 1 1).toInt = (i 1 1).toInt + x ∧ (∀ k : Nat, (k : Int) < (i 1 1).toInt → u 2 k = i 2 k) ∧ (∀ k : Nat, (k : Int) < x → (u 2 ((i 1 1).toInt.toNat + k)).toInt = (f (x.toNat - 1 - k)).toInt)) ∨ (a = 0 ∧ ¬ putOK f x (i 1 1).toInt ∧ (u 1 1).toInt = (i 1 1).toInt ∧ u 2 = i 2))
    (hm : (b = 1 ∧ putOK f x (u 36 2).toInt ∧ (w 36 2).toInt = (u 36 2).toInt + x ∧ (∀ k : Nat, (k : Int) < (u 36 2).toInt → w 379 k = u 379 k) ∧ (∀ k : Nat, (k : Int) < x → (w 379 ((u 36 2).toInt.toNat + k)).toInt = (f (x.toNat - 1 - k)).toInt)) ∨ (b = 0 ∧ ¬ putOK f x (u 36 2).toInt ∧ (w 36 2).toInt = (u 36 2).toInt ∧ w 379 = u 379)) (hz : 0 ≤ (i 1 1).toInt) : a = b ∧ LTxt w := by
  obtain ⟨t1, t2⟩ := h
  rw [em.1] at hm
  rw [t1] at hc
  rcases hc with ⟨a1, a2, a3, a4, a5⟩ | ⟨a1, a2, a3, a4⟩
  · rcases hm with ⟨b1, b2, b3, b4, b5⟩ | ⟨b1, b2, _⟩
    · refine ⟨by omega, by rw [eu.1]; omega, fun k hk => ?_⟩
      rw [eu.1] at hk
      rw [eu.2]
      by_cases q : (k : Int) < (i 36 2).toInt
      · rw [a4 k q, b4 k q, em.2]; exact t2 k (by omega)
      · have e1 := a5 (k - (i 36 2).toInt.toNat) (by omega)
        have e2 := b5 (k - (i 36 2).toInt.toNat) (by omega)
        rw [show (i 36 2).toInt.toNat + (k - (i 36 2).toInt.toNat) = k by omega] at e1 e2
        rw [e1, e2]
    · exact absurd a2 b2
  · rcases hm with ⟨b1, b2, _⟩ | ⟨b1, b2, b3, b4⟩
    · exact absurd b2 a2
    · refine ⟨by omega, by rw [eu.1]; omega, fun k hk => ?_⟩
      rw [eu.1] at hk
      rw [eu.2, a4, b4, em.2]; exact t2 k (by omega)
theorem cm_Tx (h : LTxt i) : cTx i = mTx i := by
  unfold cTx mTx
  rw [h.1]
  exact tgL_ext _ _ _ (fun j hj => by
    have := h.2 (0 + j) (by have := h.1; omega)
    exact this)
theorem cm_Tk (h : LTxt i) : cTk i ↔ mTk i := by
  unfold cTk mTk
  rw [cm_Tx h, h.1]
theorem mTk_e (e : u 36 2 = i 36 2) (e3 : u 379 = i 379) : mTx u = mTx i ∧ (mTk u ↔ mTk i) := by
  have h : mTx u = mTx i := by unfold mTx; rw [e, e3]
  exact ⟨h, by unfold mTk; rw [h, e]⟩
/-- the same hooks, the same filter -/
theorem tgH_M {j t : Nat} {x : Int32} (h0 : 0 ≤ (i (357 + 2 * j) 1).toInt) (e : tgJ i j = sqz (tgLM i t)) : tgH i j x = tgHM i t x := by
  have hl : (i (357 + 2 * j) 1).toInt.toNat = (sqz (tgLM i t)).length := by rw [← e]; unfold tgJ; rw [tgL_len]
  have hv : tgV i j x = mr (tb x) (tgLM i t) true [] [] := by rw [tgV_J, e]; exact mr_filter _ _ _ _ _
  have hz : decide ((i (357 + 2 * j) 1).toInt = 0) = decide (sqz (tgLM i t) = []) := by
    by_cases q : sqz (tgLM i t) = []
    · rw [q] at hl
      have e9 : (i (357 + 2 * j) 1).toInt.toNat = 0 := hl
      rw [decide_eq_true q, decide_eq_true (by omega)]
    · rw [decide_eq_false q, decide_eq_false (fun q2 => q (List.length_eq_zero_iff.mp (by rw [← hl, q2]; rfl)))]
  unfold tgH tgHM
  rw [hz, hv]
theorem cnl_ge {P : Nat → Bool} {a : Nat} : ∀ {b : Nat}, a ≤ b → (∀ k : Nat, a ≤ k → k < b → P k = false) → cnl P b = cnl P a := by
  intro b h
  induction h with
  | refl => intro _; rfl
  | step h9 ih =>
    intro hk
    rw [cnl_no (hk _ h9 (Nat.lt_succ_self _))]
    exact ih (fun k h1 h2 => hk k h1 (by omega))
theorem due_M (hO : OkI i) (h : LHok i) (b : Int) (x : Int32) : cnl (hdue i b x) (hcN i) = cnl (mdue i b x) 8 := by
  have hb : (0 : Int) ≤ (i 0 11).toInt ∧ (i 0 11).toInt ≤ 8 := hO 0 11
  have he := h.1
  rw [cnl_ge (P := mdue i b x) (a := hcN i) (b := 8) (by unfold hcN; omega) (fun k h1 h2 => mdue_n1 (by unfold hcN at h1; omega))]
  refine cnl_same _ (fun k hk => ?_)
  unfold hcN at hk
  have h9 := h.2 k (by omega)
  have h0 : 0 ≤ (i (357 + 2 * k) 1).toInt := by have h8 := hO (357 + 2 * k) 1; rw [bx_tag (by omega) 1] at h8; exact h8.1
  unfold hdue mdue
  rw [decide_eq_true (show k < 11 by omega), decide_eq_true (show (k : Int) < (i 36 67).toInt by omega), h9.2, tgH_M h0 h9.1]
theorem urS_s {f : Nat → Int} : ∀ m a : Nat, urS f (m + 1) a = urS f m a + f (a + m)
  | 0, a => by show f a + 0 = 0 + f (a + 0); rw [Nat.add_zero]; omega
  | m + 1, a => by
    show f a + urS f (m + 1) (a + 1) = f a + urS f m (a + 1) + f (a + (m + 1))
    rw [urS_s m (a + 1), show a + 1 + m = a + (m + 1) by omega]; omega
/-- what is queued here is what waits there -/
theorem ksum_M {a : Nat} (hO : OkI i) (hH : LHok i) (ha : a < 11) (hJ : tgJ i a = sqz (tgLM i 8)) (hC : LCas i r) : ksum i r a (i 13 4).toInt.toNat = murem i 0 := by
  obtain ⟨Lc, h1, h2, h3⟩ := hC
  have h0 : 0 ≤ (i (357 + 2 * a) 1).toInt := by have h8 := hO (357 + 2 * a) 1; rw [bx_tag ha 1] at h8; exact h8.1
  have e1 := h1.1
  have e2 := h2.1
  have key : ∀ m : Nat, m ≤ Lc.length → ksum i r a m = urS (mcf i) m 0 := by
    intro m
    induction m with
    | zero => intro _; rfl
    | succ m ih =>
      intro hm
      obtain ⟨p, hp⟩ : ∃ p, Lc[m]? = some p := ⟨_, List.getElem?_eq_getElem (show m < Lc.length by omega)⟩
      have c1 := h1.2 m p.1 p.2 hp
      have c2 := h2.2 m p.1 p.2 hp
      have ht : ctag i m = i 400 m := c1.2.trans c2.2.symm
      have hw : tgH i a (ctag i m) = mcw i m := by rw [ht, tgH_M h0 hJ]; rfl
      have hM : caseM i r m = mcM i m := by
        unfold caseM mcM
        rw [due_M hO hH, due_M hO hH, h3 m (by omega), ht]
        rfl
      rw [ksum_s, ih (by omega), urS_s, Nat.zero_add, hw, hM]
      rfl
  unfold murem
  rw [key _ (by omega), show ((i 36 33).toInt - 0).toNat = (i 13 4).toInt.toNat by omega]
  rfl
end LRG
