section LRO
variable {i u w : Nat → Nat → Int32} {r v : Nat → Nat → Nat} {d d' : Nat → Nat → UInt64} {n : Nat}
theorem LR_ok (h : LR i r d n) : OkI i ∧ RS r := h.1
/-- no run is under way -/
theorem LR_off (h : LR i r d n) (h0 : (i 23 8).toInt = 0) (hOw : OkI w) (hRv : RS v) (p1 : PO w) (p2 : PW w) (p3 : PY w) (p4 : PC w v) (p5 : PD w) (p6 : PK w) (e23 : (w 23 8).toInt = (i 23 8).toInt) (et : (w 23 10).toInt = (i 23 10).toInt) (ew : ∀ x : Nat, x < 3 → (w (25 + 1 * x) 1).toInt = (i (25 + 1 * x) 1).toInt) (hrg : (37 ≤ v 3 17 ∧ v 3 17 < 54) ∧ (54 ≤ v 3 18 ∧ v 3 18 < 96)) (hF : LFil w v) (hN : NR w) (hD : DI w) (e76 : w 36 76 = i 36 76) (e81 : (w 36 81).toInt ≤ (i 36 81).toInt + 90) (e7 : w 427 = i 427) (hT : LTxt w) (hC : LCas w v) (hH : LHok w) : LR w v d' (n + 1) := by
  obtain ⟨_, ⟨_, ⟨_, _, c7⟩, _⟩, _, ⟨_, _, m3⟩, _, _, _, ⟨r1, _⟩, hTl⟩ := h
  have hm : (i 36 76).toInt = 0 := by omega
  exact ⟨⟨hOw, hRv⟩, ⟨⟨p1, p2, p3, p4⟩, ⟨p5, p6, RI_off c7 h0 (by omega) ew⟩, hrg⟩, hF, ⟨hN, hD, MI_off m3 hm e76 e7⟩, hT, hC, hH, ⟨by rw [e76]; omega, fun q => by omega⟩, LTol_s hTl (by omega) e81⟩
theorem busy_M (h : LR i r d n) : (i 23 8).toInt = (i 36 76).toInt := h.2.2.2.2.2.2.2.1.1
/-- a definition -/
theorem LR_define (h : LR i r d n) (h0 : (i 23 8).toInt = 0) (hOw : OkI w) (f : ∀ a, ¬ (a = 0 ∨ a = 1 ∨ a = 31 ∨ (240 ≤ a ∧ a < 357)) → u a = i a) (hPD : PD u) (hPY : PY u) (e11 : (u 0 11).toInt = (i 0 11).toInt) (e1 : (u 1 1).toInt = 0)
    (g : ∀ a b, ¬ ((a = 36 ∧ (b = 0 ∨ b = 2 ∨ b = 41 ∨ b = 45 ∨ b = 49 ∨ b = 52 ∨ b = 54 ∨ b = 55)) ∨ a = 403 ∨ a = 404 ∨ a = 405 ∨ a = 406 ∨ a = 407 ∨ a = 408 ∨ a = 409 ∨ a = 410 ∨ a = 411) → w a b = u a b) (hDI : DI w) (e2 : (w 36 2).toInt = 0) : LR w r d' (n + 1) := by
  have h9 := h
  obtain ⟨⟨hO, hR⟩, ⟨⟨c1, c2, c3, c4⟩, ⟨c5, c6, c7⟩, c8⟩, hF, ⟨m1, m2, m3⟩, _, hC, hH, _, hTl⟩ := h
  have row : ∀ a : Nat, a ≠ 36 → ¬ (403 ≤ a ∧ a ≤ 411) → w a = u a := fun a q1 q2 => funext fun b => g a b (by omega)
  have el : ∀ a : Nat, ¬ (a = 0 ∨ a = 1 ∨ a = 31 ∨ (240 ≤ a ∧ a < 357)) → a ≠ 36 → ¬ (403 ≤ a ∧ a ≤ 411) → w a = i a := fun a q1 q2 q3 => (row a q2 q3).trans (f a q1)
  have m36 : ∀ k : Nat, ¬ (k = 0 ∨ k = 2 ∨ k = 41 ∨ k = 45 ∨ k = 49 ∨ k = 52 ∨ k = 54 ∨ k = 55) → w 36 k = i 36 k := fun k hk => (g 36 k (by omega)).trans (congrFun (f 36 (by omega)) k)
  have e0 : w 0 = u 0 := row 0 (by omega) (by omega)
  have e11w : (w 0 11).toInt = (i 0 11).toInt := by rw [e0]; exact e11
  refine LR_off h9 h0 hOw hR (PO_fr c1 (fun a ha => el a (by omega) (by omega) (by omega))) (PW_fr c2 (fun a ha => el a (by omega) (by omega) (by omega))) (PY_fr hPY (fun a ha => row a (by omega) (by omega))) (PC_x c4 (el 13 (by omega) (by omega) (by omega))) ?_ (PK_x hO c6 (fun a ha => el a (by omega) (by omega) (by omega)) e11w) (by rw [el 23 (by omega) (by omega) (by omega)]) (by rw [el 23 (by omega) (by omega) (by omega)]) (fun x hx => by rw [el (25 + 1 * x) (by omega) (by omega) (by omega)]) c8 (LFil_x hF (fun a ha => el a (by omega) (by omega) (by omega)) (el 416 (by omega) (by omega) (by omega)) (el 417 (by omega) (by omega) (by omega))) (NR_fr m1 (el 399 (by omega) (by omega) (by omega)) (el 398 (by omega) (by omega) (by omega))) hDI (m36 76 (by omega)) (by rw [m36 81 (by omega)]; omega) (el 427 (by omega) (by omega) (by omega)) (LTxt_0 (by rw [row 1 (by omega) (by omega)]; exact e1) e2) (LCas_x hO c4 hC (el 13 (by omega) (by omega) (by omega)) (fun a ha => by rw [el a (by omega) (by omega) (by omega)]) (fun a ha => el a (by omega) (by omega) (by omega)) (fun a ha => rfl) (m36 33 (by omega)) (el 400 (by omega) (by omega) (by omega)) ⟨m36 17 (by omega), fun a h1 h2 => el a (by omega) (by omega) (by omega)⟩) (LHok_x hO hH (fun a ha => el a (by omega) (by omega) (by omega)) e11w (by rw [m36 67 (by omega)]) (el 416 (by omega) (by omega) (by omega)) (el 417 (by omega) (by omega) (by omega)) (el 420 (by omega) (by omega) (by omega)))
  intro j hj
  rw [e0] at hj
  have h5 := hPD j hj
  have b7 : (u 0 7).toInt ≤ 12 := by
    have := (hOw 0 7).2
    rw [e0] at this
    exact this
  have q0 := row (240 + 9 * j) (by omega) (by omega)
  refine ⟨?_, mono_same h5.2 (row (240 + 9 * j + 2) (by omega) (by omega)) (row (240 + 9 * j + 4) (by omega) (by omega)) (by rw [q0]) (by rw [q0])⟩
  unfold cn; rw [row (240 + 9 * j + 3) (by omega) (by omega), q0]
  exact h5.1
/-- a hook -/
theorem LR_hook {x y : Int} (h : LR i r d n) (h0 : (i 23 8).toInt = 0) (hOu : OkI u) (hOw : OkI w) (f : ∀ a, ¬ (a = 0 ∨ a = 1 ∨ a = 33 ∨ a = 34 ∨ (357 ≤ a ∧ a < 375)) → u a = i a) (hk : hkC i u x y) (hPK : PK u) (e07 : (u 0 7).toInt = (i 0 7).toInt) (e1 : (u 1 1).toInt = 0)
    (g : ∀ a b, ¬ ((a = 36 ∧ (b = 0 ∨ b = 2 ∨ b = 65 ∨ b = 66 ∨ b = 67)) ∨ a = 416 ∨ a = 417 ∨ a = 418 ∨ a = 419 ∨ a = 420 ∨ a = 421) → w a b = u a b) (e2 : (w 36 2).toInt = 0) (hm : hkM u w x y) : LR w r d' (n + 1) := by
  have h9 := h
  obtain ⟨⟨hO, hR⟩, ⟨⟨c1, c2, c3, c4⟩, ⟨c5, c6, c7⟩, c8⟩, hF, ⟨m1, m2, m3⟩, hT, hC, hH, _, hTl⟩ := h
  have row : ∀ a : Nat, a ≠ 36 → ¬ (416 ≤ a ∧ a ≤ 421) → w a = u a := fun a q1 q2 => funext fun b => g a b (by omega)
  have el : ∀ a : Nat, ¬ (a = 0 ∨ a = 1 ∨ a = 33 ∨ a = 34 ∨ (357 ≤ a ∧ a < 375)) → a ≠ 36 → ¬ (416 ≤ a ∧ a ≤ 421) → w a = i a := fun a q1 q2 q3 => (row a q2 q3).trans (f a q1)
  have m36 : ∀ k : Nat, ¬ (k = 0 ∨ k = 2 ∨ k = 65 ∨ k = 66 ∨ k = 67) → w 36 k = i 36 k := fun k hk => (g 36 k (by omega)).trans (congrFun (f 36 (by omega)) k)
  have e0 : w 0 = u 0 := row 0 (by omega) (by omega)
  have b11 : (0 : Int) ≤ (i 0 11).toInt ∧ (i 0 11).toInt ≤ 8 := hO 0 11
  have t36 : u 36 = i 36 := f 36 (by omega)
  obtain ⟨tx, tk⟩ := mTk_e (i := i) (u := u) (by rw [t36]) (f 379 (by omega))
  have ct := cm_Tk hT
  have cx := cm_Tx hT
  obtain ⟨ho, hk2⟩ := hk
  have e67 : (u 36 67).toInt = (i 36 67).toInt := by rw [t36]
  have u16 : u 416 = i 416 := f 416 (by omega)
  have u17 : u 417 = i 417 := f 417 (by omega)
  have u20 : u 420 = i 420 := f 420 (by omega)
  have tj : ∀ j : Nat, j < 11 → tgJ w j = tgJ u j := fun j hj => by
    unfold tgJ
    rw [row (357 + 2 * j + 1) (by omega) (by omega), row (357 + 2 * j) (by omega) (by omega)]
  have r33 : w 33 = u 33 := row 33 (by omega) (by omega)
  have hh1 := hH.1
  have hAB : (cTk i ∧ (0 ≤ y ∧ y < 8) ∧ (i 0 11).toInt < 8) ↔ (mTk u ∧ (0 ≤ y ∧ y < 8) ∧ (u 36 67).toInt < 8) := by rw [ct, tk, e67, hh1]
  have hFH : LFil w r ∧ LHok w := by
    obtain ⟨a, b, ha, hb, hab, h12, h13, hoa, hja⟩ := hF
    have hoa2 : tgO w a := tgO_J (el (357 + 2 * a + 1) (by omega) (by omega) (by omega)) (el (357 + 2 * a) (by omega) (by omega) (by omega)) hoa
    have hja2 : tgJ w a = tgJ i a := (tj a (by omega)).trans (ho a (Or.inr (by omega)) (by omega)).1
    rcases hk2 with ⟨q1, q2⟩ | ⟨q1, q2, q3, q4⟩
    · rcases hm with ⟨z1, z2, z3, z4, z5⟩ | ⟨z1, _⟩
      · have l8 : ∀ k : Nat, tgLM w k = tgLM i k := fun k => tgLM_x (z3.trans u16) (z4.trans u17) k
        refine ⟨⟨a, b, ha, hb, hab, h12, h13, hoa2, by rw [hja2, l8]; exact hja⟩, by rw [e0, z2]; omega, fun k hk => ?_⟩
        rw [e0] at hk
        have hk8 : (k : Int) < (i 0 11).toInt := by omega
        have h8 := ho k (Or.inl hk8) (by omega)
        have h7 := hH.2 k hk8
        rw [tj k (by omega), h8.1, l8, r33, h8.2, z5, u20]
        exact h7
      · exact absurd (hAB.mpr z1) q1
    · rcases hm with ⟨z1, _⟩ | ⟨z1, z2, z3, z4, z5⟩
      · exact absurd (hAB.mp q1) z1
      · have l8 : ∀ k : Nat, k ≠ (u 36 67).toInt.toNat → tgLM w k = tgLM i k := fun k hk => (z5 k hk).1.trans (tgLM_x u16 u17 k)
        refine ⟨⟨a, b, ha, hb, hab, h12, h13, hoa2, by rw [hja2, l8 8 (by omega)]; exact hja⟩, by rw [e0]; omega, fun k hk => ?_⟩
        rw [e0] at hk
        have hn : (u 36 67).toInt.toNat = (i 0 11).toInt.toNat := by omega
        by_cases q : k = (i 0 11).toInt.toNat
        · subst q
          rw [tj _ (by omega), q3, ← hn, z3, tx, cx, r33, z4, hn]
          exact ⟨rfl, q4⟩
        · have hk8 : (k : Int) < (i 0 11).toInt := by omega
          have h8 := ho k (Or.inl hk8) (by omega)
          have h7 := hH.2 k hk8
          rw [tj k (by omega), h8.1, l8 k (by omega), r33, h8.2, (z5 k (by omega)).2, u20]
          exact h7
  refine LR_off h9 h0 hOw hR (PO_fr c1 (fun a ha => el a (by omega) (by omega) (by omega))) (PW_fr c2 (fun a ha => el a (by omega) (by omega) (by omega))) (PY_fr c3 (fun a ha => el a (by omega) (by omega) (by omega))) (PC_x c4 (el 13 (by omega) (by omega) (by omega))) ?_ ?_ (by rw [el 23 (by omega) (by omega) (by omega)]) (by rw [el 23 (by omega) (by omega) (by omega)]) (fun x hx => by rw [el (25 + 1 * x) (by omega) (by omega) (by omega)]) c8 hFH.1 (NR_fr m1 (el 399 (by omega) (by omega) (by omega)) (el 398 (by omega) (by omega) (by omega))) (DI_fr m2 (m36 41 (by omega)) (el 403 (by omega) (by omega) (by omega)) (el 404 (by omega) (by omega) (by omega))) (m36 76 (by omega)) (by rw [m36 81 (by omega)]; omega) (el 427 (by omega) (by omega) (by omega)) (LTxt_0 (by rw [row 1 (by omega) (by omega)]; exact e1) e2) (LCas_x hO c4 hC (el 13 (by omega) (by omega) (by omega)) (fun a ha => by rw [el a (by omega) (by omega) (by omega)]) (fun a ha => el a (by omega) (by omega) (by omega)) (fun a ha => rfl) (m36 33 (by omega)) (el 400 (by omega) (by omega) (by omega)) ⟨m36 17 (by omega), fun a h1 h2 => el a (by omega) (by omega) (by omega)⟩) hFH.2
  · exact PD_new (j := (i 0 7).toInt.toNat) hO c5 (by have : 0 ≤ (i 0 7).toInt := (hO 0 7).1; omega) (fun a ha _ => el a (by omega) (by omega) (by omega)) (Or.inl (by rw [e0]; exact e07))
  · exact PK.same (i := u) (u := w) hOu hPK (tgE.of (fun a ha => row a (by omega) (by omega))) (by rw [e0])
/-- a filter -/
theorem LR_filter {a b : Nat} (h : LR i r d n) (h0 : (i 23 8).toInt = 0) (hOw : OkI w) (hRv : RS v) (ha : 9 ≤ a ∧ a < 11) (hb : 9 ≤ b ∧ b < 11) (hab : a ≠ b) (h12 : r 0 12 = 357 + 2 * a) (h13 : r 0 13 = 357 + 2 * b) (hja : tgJ i a = sqz (tgLM i 8)) (f : ∀ a, ¬ (a = 1 ∨ (375 ≤ a ∧ a < 379)) → u a = i a) (fr : ∀ a b, ¬ (a = 0 ∧ (b = 12 ∨ b = 13)) → v a b = r a b) (hk : ftC i u r v a b) (e1 : (u 1 1).toInt = 0)
    (g : ∀ a b, ¬ ((a = 36 ∧ (b = 0 ∨ b = 2 ∨ b = 65 ∨ b = 66)) ∨ a = 416 ∨ a = 417 ∨ a = 418 ∨ a = 419) → w a b = u a b) (e2 : (w 36 2).toInt = 0) (hm : ftM u w) : LR w v d' (n + 1) := by
  have h9 := h
  obtain ⟨⟨hO, hR⟩, ⟨⟨c1, c2, c3, c4⟩, ⟨c5, c6, c7⟩, c8⟩, _, ⟨m1, m2, m3⟩, hT, hC, hH, _, hTl⟩ := h
  have row : ∀ a : Nat, a ≠ 36 → ¬ (416 ≤ a ∧ a ≤ 419) → w a = u a := fun a q1 q2 => funext fun b => g a b (by omega)
  have el : ∀ a : Nat, ¬ (a = 1 ∨ (375 ≤ a ∧ a < 379)) → a ≠ 36 → ¬ (416 ≤ a ∧ a ≤ 419) → w a = i a := fun a q1 q2 q3 => (row a q2 q3).trans (f a q1)
  have m36 : ∀ k : Nat, ¬ (k = 0 ∨ k = 2 ∨ k = 65 ∨ k = 66) → w 36 k = i 36 k := fun k hk => (g 36 k (by omega)).trans (congrFun (f 36 (by omega)) k)
  have t36 : u 36 = i 36 := f 36 (by omega)
  have b11 : (0 : Int) ≤ (i 0 11).toInt ∧ (i 0 11).toInt ≤ 8 := hO 0 11
  obtain ⟨tx, tk⟩ := mTk_e (i := i) (u := u) (by rw [t36]) (f 379 (by omega))
  have ct := cm_Tk hT
  have cx := cm_Tx hT
  have u16 : u 416 = i 416 := f 416 (by omega)
  have u17 : u 417 = i 417 := f 417 (by omega)
  have tj : ∀ j : Nat, j < 11 → tgJ w j = tgJ u j := fun j hj => by
    unfold tgJ
    rw [row (357 + 2 * j + 1) (by omega) (by omega), row (357 + 2 * j) (by omega) (by omega)]
  have tji : ∀ j : Nat, j < 9 → tgJ w j = tgJ i j := fun j hj => by
    unfold tgJ
    rw [el (357 + 2 * j + 1) (by omega) (by omega) (by omega), el (357 + 2 * j) (by omega) (by omega) (by omega)]
  have to : ∀ j : Nat, j < 11 → tgO u j → tgO w j := fun j hj q => tgO_J (row (357 + 2 * j + 1) (by omega) (by omega)) (row (357 + 2 * j) (by omega) (by omega)) q
  have e0 : w 0 = i 0 := el 0 (by omega) (by omega) (by omega)
  have hFH : LFil w v ∧ ∀ k : Nat, k < 8 → tgLM w k = tgLM i k := by
    rcases hk with ⟨q1, q2, q3, q4, q5⟩ | ⟨q1, q2, q3, q4, q5⟩
    · rcases hm with ⟨z1, z2, z3⟩ | ⟨z1, _⟩
      · have l8 : ∀ k : Nat, tgLM w k = tgLM i k := fun k => tgLM_x (z2.trans u16) (z3.trans u17) k
        exact ⟨⟨a, b, ha, hb, hab, by rw [q2]; exact h12, by rw [q3]; exact h13, to a (by omega) q5, by rw [tj a (by omega), q4, l8]; exact hja⟩, fun k _ => l8 k⟩
      · exact absurd (ct.mpr (tk.mp z1)) q1
    · rcases hm with ⟨z1, _⟩ | ⟨z1, z2, z3⟩
      · exact absurd (tk.mpr (ct.mp q1)) z1
      · exact ⟨⟨b, a, hb, ha, fun q => hab q.symm, q2, q3, to b (by omega) q5, by rw [tj b (by omega), q4, z2, tx, cx]⟩, fun k hk => (z3 k (by omega)).trans (tgLM_x u16 u17 k)⟩
  refine LR_off h9 h0 hOw hRv (PO_fr c1 (fun a ha => el a (by omega) (by omega) (by omega))) (PW_fr c2 (fun a ha => el a (by omega) (by omega) (by omega))) (PY_fr c3 (fun a ha => el a (by omega) (by omega) (by omega))) (PC_fr c4 (fun a ha => el a (by omega) (by omega) (by omega)) (fun a b q => fr a b (by omega))) (PD_fr hO c5 (fun a ha => el a (by omega) (by omega) (by omega))) ?_ (by rw [el 23 (by omega) (by omega) (by omega)]) (by rw [el 23 (by omega) (by omega) (by omega)]) (fun x hx => by rw [el (25 + 1 * x) (by omega) (by omega) (by omega)]) (by rw [fr 3 17 (by omega), fr 3 18 (by omega)]; exact c8) hFH.1 (NR_fr m1 (el 399 (by omega) (by omega) (by omega)) (el 398 (by omega) (by omega) (by omega))) (DI_fr m2 (m36 41 (by omega)) (el 403 (by omega) (by omega) (by omega)) (el 404 (by omega) (by omega) (by omega))) (m36 76 (by omega)) (by rw [m36 81 (by omega)]; omega) (el 427 (by omega) (by omega) (by omega)) (LTxt_0 (by rw [row 1 (by omega) (by omega)]; exact e1) e2) (LCas_x hO c4 hC (el 13 (by omega) (by omega) (by omega)) (fun a ha => by rw [el a (by omega) (by omega) (by omega)]) (fun a ha => el a (by omega) (by omega) (by omega)) (fun a ha => fr a 0 (by omega)) (m36 33 (by omega)) (el 400 (by omega) (by omega) (by omega)) ⟨m36 17 (by omega), fun a h1 h2 => el a (by omega) (by omega) (by omega)⟩) ⟨by rw [e0, m36 67 (by omega)]; exact hH.1, fun k hk => ?_⟩
  · intro k hk
    rw [e0] at hk
    exact tgO_J (el (357 + 2 * k + 1) (by omega) (by omega) (by omega)) (el (357 + 2 * k) (by omega) (by omega) (by omega)) (c6 k hk)
  · rw [e0] at hk
    have h7 := hH.2 k hk
    rw [tji k (by omega), hFH.2 k (by omega), el 33 (by omega) (by omega) (by omega), el 420 (by omega) (by omega) (by omega)]
    exact h7
end LRO
