theorem MI_d {i : Nat → Nat → Int32} {d d' : Nat → Nat → UInt64} (h : MI i d) (hd : d' 425 = d 425) : MI i d' := h.elim (fun q => Or.inl q) (fun q => Or.inr ⟨q.1, ⟨q.2.1.1, q.2.1.2.1, q.2.1.2.2.1, fun x hx g => by rw [hd]; exact q.2.1.2.2.2 x hx g⟩, q.2.2⟩)
section LRP
variable {i u w : Nat → Nat → Int32} {r v : Nat → Nat → Nat} {d d1 d' : Nat → Nat → UInt64} {n : Nat}
theorem LR_run (h : LR i r d n) (hOu : OkI u) (hOw : OkI w) (hSC : SC i u) (f : ∀ a : Nat, (a = 0 ∨ a = 1 ∨ a = 2 ∨ a = 13 ∨ a = 33 ∨ (37 ≤ a ∧ a < 216) ∨ a = 36 ∨ 379 ≤ a) → u a = i a) (hPD : PD u) (hPY : PY u) (hRI : RI u r d1) (g : ∀ a : Nat, a < 379 → a ≠ 36 → w a = u a) (hd : ∀ a : Nat, 25 ≤ a → a < 28 → d' a = d1 a)
    (m36 : ∀ k : Nat, (k = 2 ∨ k = 17 ∨ k = 33 ∨ k = 41 ∨ k = 67) → w 36 k = u 36 k) (mA : ∀ a : Nat, (a = 379 ∨ (385 ≤ a ∧ a ≤ 400) ∨ a = 403 ∨ a = 404 ∨ a = 416 ∨ a = 417 ∨ a = 420) → w a = u a) (hMI : MI w d') (hr1 : (u 23 8).toInt = (w 36 76).toInt) (hr2 : (u 23 8).toInt = 1 → rest u r = mrest w) (t1 : (u 23 10).toInt ≤ (i 23 10).toInt + 90) (t2 : (w 36 81).toInt ≤ (u 36 81).toInt + 90) : LR w r d' (n + 1) := by
  obtain ⟨⟨hO, hR⟩, ⟨⟨c1, c2, c3, c4⟩, ⟨c5, c6, c7⟩, c8⟩, ⟨a, b, ha, hb, hab, h12, h13, hoa, hja⟩, ⟨m1, m2, m3⟩, hT, hC, hH, _, hTl⟩ := h
  have b11 : (0 : Int) ≤ (i 0 11).toInt ∧ (i 0 11).toInt ≤ 8 := hO 0 11
  have tE : tgE i w := hSC.2.2.1.trans (tgE.of (fun a ha => g a (by omega) (by omega)))
  have gi : ∀ a : Nat, (a = 0 ∨ a = 1 ∨ a = 2 ∨ a = 13 ∨ a = 33 ∨ (37 ≤ a ∧ a < 216)) → w a = i a := fun a ha => (g a (by omega) (by omega)).trans (f a (by omega))
  have mi : ∀ k : Nat, (k = 2 ∨ k = 17 ∨ k = 33 ∨ k = 41 ∨ k = 67) → w 36 k = i 36 k := fun k hk => (m36 k hk).trans (by rw [f 36 (by omega)])
  have mAi : ∀ a : Nat, (a = 379 ∨ (385 ≤ a ∧ a ≤ 400) ∨ a = 403 ∨ a = 404 ∨ a = 416 ∨ a = 417 ∨ a = 420) → w a = i a := fun a ha => (mA a ha).trans (f a (by omega))
  have hPCu : PC u r := PC_x c4 (f 13 (by omega))
  have hri := RI_x hOu hPCu hRI (u := w) (fun a ha => g a (by omega) (by omega)) (by rw [g 0 (by omega) (by omega)])
  have e23 : w 23 = u 23 := g 23 (by omega) (by omega)
  refine ⟨⟨hOw, hR⟩, ⟨⟨PO_fr c1 (fun a ha => gi a (by omega)), PW_fr c2 (fun a ha => gi a (by omega)), PY_fr hPY (fun a ha => g a (by omega) (by omega)), PC_x c4 (gi 13 (by omega))⟩, ⟨PD_fr hOu hPD (fun a ha => g a (by omega) (by omega)), PK.same hO c6 tE (by rw [gi 0 (by omega)]), RI_d hri.1 hd⟩, c8⟩, ⟨a, b, ha, hb, hab, h12, h13, tE.o (by omega) hoa, by rw [tgE_J tE (by omega), tgLM_x (mAi 416 (by omega)) (mAi 417 (by omega))]; exact hja⟩, ⟨NR_fr m1 (mAi 399 (by omega)) (mAi 398 (by omega)), DI_fr m2 (mi 41 (by omega)) (mAi 403 (by omega)) (mAi 404 (by omega)), hMI⟩, LTxt_x hT (by rw [gi 1 (by omega)]) (gi 2 (by omega)) (by rw [mi 2 (by omega)]) (mAi 379 (by omega)), ?_, ⟨by rw [gi 0 (by omega), mi 67 (by omega)]; exact hH.1, fun k hk => ?_⟩, ⟨by rw [e23]; exact hr1, fun q => ?_⟩, LTol_s hTl (by rw [e23]; exact t1) (by rw [f 36 (by omega)] at t2; exact t2)⟩
  · refine LCas_x hO c4 hC (gi 13 (by omega)) (fun a ha => ?_) (fun a ha => gi a (by omega)) (fun a ha => rfl) (mi 33 (by omega)) (mAi 400 (by omega)) ⟨mi 17 (by omega), fun a h1 h2 => mAi a (by omega)⟩
    rw [g a (by omega) (by omega)]
    have h9 := hSC.2.2.2.1 (a - 216) (by omega)
    rw [show 216 + 1 * (a - 216) = a by omega] at h9
    exact h9
  · rw [gi 0 (by omega)] at hk
    have h7 := hH.2 k hk
    rw [tgE_J tE (by omega), tgLM_x (mAi 416 (by omega)) (mAi 417 (by omega)), gi 33 (by omega), mAi 420 (by omega)]
    exact h7
  · rw [e23] at q
    rw [hri.2 q]; exact hr2 q
/-- start, when no run is under way and the number is one that may be -/
theorem run_start {a : Nat} {x : Int} (h : LR i r d n) (hSC : SC i u) (ha : a < 11) (hja : tgJ i a = sqz (tgLM i 8)) (f : ∀ a : Nat, (a = 36 ∨ 379 ≤ a) → u a = i a) (hx : 1 ≤ x ∧ x ≤ 3)
    (hc : rest u r = ksum i r a (i 13 4).toInt.toNat ∧ ((0 < ksum i r a (i 13 4).toInt.toNat ∧ (u 23 8).toInt = 1) ∨ (ksum i r a (i 13 4).toInt.toNat ≤ 0 ∧ (u 23 8).toInt = 0)))
    (hm : ((x < 1 ∨ 3 < x) ∧ (w 36 76).toInt = 0) ∨ ((1 ≤ x ∧ x ≤ 3) ∧ mrest w = murem u 0 ∧ ((0 < murem u 0 ∧ (w 36 76).toInt = 1) ∨ (murem u 0 ≤ 0 ∧ (w 36 76).toInt = 0)))) : (u 23 8).toInt = (w 36 76).toInt ∧ ((u 23 8).toInt = 1 → rest u r = mrest w) := by
  obtain ⟨⟨hO, _⟩, _, _, _, _, hC, hH, _, _⟩ := h
  have hk := ksum_M hO hH ha hja hC
  have hg : mxG i u := mxG_of ⟨by rw [f 36 (by omega)], fun a h1 h2 => f a (by omega)⟩ (by rw [f 36 (by omega)]) (by rw [f 36 (by omega)]) (f 400 (by omega)) (f 420 (by omega)) (f 416 (by omega)) (f 417 (by omega))
  rw [murem_g hg] at hm
  rcases hm with ⟨q, _⟩ | ⟨_, q1, q2⟩
  · omega
  · obtain ⟨z1, z2⟩ := hc
    rw [hk] at z1 z2
    refine ⟨?_, fun _ => by omega⟩
    omega
/-- go: as many moves here as there -/
theorem run_go {x va vb : Int} (h : LR i r d n) (hu : u 36 = i 36) (hmr : mrest u = mrest i)
    (hc : ((x < 1 ∨ 40 < x) ∧ va = -1 ∧ (u 23 8).toInt = (i 23 8).toInt ∧ rest u r = rest i r) ∨ ((1 ≤ x ∧ x ≤ 40) ∧ (((i 23 8).toInt = 0 ∧ va = 0 ∧ (u 23 8).toInt = 0) ∨ ((i 23 8).toInt = 1 ∧ ((rest i r ≤ x ∧ va = rest i r ∧ (u 23 8).toInt = 0) ∨ (x < rest i r ∧ va = x ∧ (u 23 8).toInt = 1 ∧ rest u r + x = rest i r))))))
    (hm : ((x < 1 ∨ 40 < x) ∧ vb = -1 ∧ (w 36 76).toInt = (u 36 76).toInt ∧ mrest w = mrest u) ∨ ((1 ≤ x ∧ x ≤ 40) ∧ (((u 36 76).toInt = 0 ∧ vb = 0 ∧ (w 36 76).toInt = 0) ∨ ((u 36 76).toInt = 1 ∧ ((mrest u ≤ x ∧ vb = mrest u ∧ (w 36 76).toInt = 0) ∨ (x < mrest u ∧ vb = x ∧ (w 36 76).toInt = 1 ∧ mrest w + x = mrest u)))))) : (u 23 8).toInt = (w 36 76).toInt ∧ ((u 23 8).toInt = 1 → rest u r = mrest w) := by
  obtain ⟨_, _, _, _, _, _, _, ⟨r1, r2⟩, _⟩ := h
  have e76 : (u 36 76).toInt = (i 36 76).toInt := by rw [hu]
  rw [hmr, e76] at hm
  by_cases q : (i 23 8).toInt = 1
  · have r3 := r2 q
    refine ⟨?_, fun q2 => ?_⟩
    · omega
    · omega
  · refine ⟨?_, fun q2 => ?_⟩
    · omega
    · exfalso; omega
/-- what the reference's reading wants of the class's -/
theorem rd_M {w9 : Nat → Nat → Int32} {q9 : Nat → Nat → Nat} (hT : LTxt i) (hz : 0 ≤ (i 1 1).toInt) (ht : tkQ i r w9 q9) (e2 : u 36 = i 36) (e9 : u 379 = i 379) : ∃ (qs : Nat → rdS) (T : Nat → Int32), (∀ j : Nat, j ≤ (u 36 2).toInt.toNat + 1 → OkI (qs j).1 ∧ QI (qs j).1 (qs j).2.1 (qs j).2.2) ∧ beQ (qs 0).1 ∧ (∀ j : Nat, j < (u 36 2).toInt.toNat + 1 → stepR T (u 36 2).toInt.toNat j (qs j) (qs (j + 1))) ∧ (∀ k : Nat, k < (u 36 2).toInt.toNat → (T k).toInt = (u 379 k).toInt) ∧ enQ (qs ((u 36 2).toInt.toNat + 1)).1 w9 (lnF T (u 36 2).toInt.toNat ((u 36 2).toInt.toNat + 1) : Int) := by
  obtain ⟨i0, i1, o1, t1, h1, h2, h3, ⟨qs, s0, sk, hs⟩, h5, h6, h7, _, _, _⟩ := ht
  have hn : (u 36 2).toInt.toNat = (i 1 1).toInt.toNat := by rw [e2, hT.1]
  rw [hn]
  refine ⟨qs, i0 5, fun j hj => ?_, by rw [s0]; exact h2, hs, fun k hk => ?_, by rw [sk]; exact h7⟩
  · by_cases q : j < (i 1 1).toInt.toNat + 1
    · have := hs j q
      exact ⟨this.1, this.2.1⟩
    · rw [show j = (i 1 1).toInt.toNat + 1 by omega, sk]
      exact ⟨h5, h6⟩
  · rw [h3 k hk, e9]; exact hT.2 k (by omega)
theorem LR_read {w9 : Nat → Nat → Int32} {q9 : Nat → Nat → Nat} {t : Nat} (h : LR i r d n) (h0 : (i 23 8).toInt = 0) (hOu : OkI u) (hOw : OkI w) (hRv : RS v)
    (f : ∀ a, ¬ (a = 1 ∨ a = 3 ∨ a = 4 ∨ a = 5 ∨ a = 6 ∨ a = 7 ∨ a = 13 ∨ (37 ≤ a ∧ a < 96) ∨ (96 ≤ a ∧ a < 216) ∨ (216 ≤ a ∧ a < 240)) → u a = i a) (fr : ∀ a b, ¬ ((a = 3 ∧ (b = 17 ∨ b = 18)) ∨ (216 ≤ a ∧ a < 240)) → v a b = r a b)
    (hO9 : OkI w9) (ht : tkQ i r w9 q9) (hcs : csP u v (if 0 < (w9 3 4).toInt then [] else (csA w9 (w9 3 8).toInt.toNat).take 24)) (hrw : ∀ a, (a = 3 ∨ a = 4 ∨ a = 5 ∨ a = 6 ∨ a = 7 ∨ (37 ≤ a ∧ a < 216)) → u a = w9 a) (h17 : v 3 17 = q9 3 17) (h18 : v 3 18 = q9 3 18) (p1 : PO u) (p2 : PW u) (p4 : PC u v) (e1 : (u 1 1).toInt = 0)
    (g : ∀ a b, ¬ ((a = 36 ∧ (b = 0 ∨ b = 2 ∨ b = 4 ∨ b = 6 ∨ b = 7 ∨ b = 8 ∨ b = 9 ∨ b = 10 ∨ b = 11 ∨ b = 13 ∨ b = 17 ∨ b = 18 ∨ b = 23 ∨ b = 26 ∨ b = 27 ∨ b = 33)) ∨ a = 380 ∨ a = 381 ∨ a = 382 ∨ a = 383 ∨ a = 384 ∨ a = 385 ∨ a = 386 ∨ a = 387 ∨ a = 388 ∨ a = 389 ∨ a = 390 ∨ a = 391 ∨ a = 392 ∨ a = 393 ∨ a = 394 ∨ a = 395 ∨ a = 396 ∨ a = 397 ∨ a = 398 ∨ a = 399 ∨ a = 400 ∨ a = 401) → w a b = u a b)
    (e2 : (w 36 2).toInt = 0) (hM : MRQ w w9 t) (hmc : mcP w (if 0 < (w9 3 4).toInt then [] else (csA w9 (w9 3 8).toInt.toNat).take 24)) (hN : NR w) : LR w v d' (n + 1) := by
  have h9 := h
  obtain ⟨⟨hO, hR⟩, ⟨⟨c1, c2, c3, c4⟩, ⟨c5, c6, c7⟩, c8⟩, ⟨a, b, ha, hb, hab, h12, h13, hoa, hja⟩, ⟨m1, m2, m3⟩, hT, hC, hH, _, hTl⟩ := h
  have row : ∀ a : Nat, a ≠ 36 → ¬ (380 ≤ a ∧ a ≤ 401) → w a = u a := fun a q1 q2 => funext fun b => g a b (by omega)
  have el : ∀ a : Nat, ¬ (a = 1 ∨ (3 ≤ a ∧ a ≤ 7) ∨ a = 13 ∨ (37 ≤ a ∧ a < 240)) → a ≠ 36 → ¬ (380 ≤ a ∧ a ≤ 401) → w a = i a := fun a q1 q2 q3 => (row a q2 q3).trans (f a (by omega))
  have m36 : ∀ k : Nat, (k = 41 ∨ k = 67 ∨ k = 76 ∨ k = 81) → w 36 k = i 36 k := fun k hk => (g 36 k (by omega)).trans (congrFun (f 36 (by omega)) k)
  have e0 : w 0 = i 0 := el 0 (by omega) (by omega) (by omega)
  have tE : tgE i w := tgE.of (fun a ha => el a (by omega) (by omega) (by omega))
  have b11 : (0 : Int) ≤ (i 0 11).toInt ∧ (i 0 11).toInt ≤ 8 := hO 0 11
  have b13 : (u 13 4).toInt ≤ 24 := (hOu 13 4).2
  have hl := hcs.1
  have hrg : (37 ≤ v 3 17 ∧ v 3 17 < 54) ∧ (54 ≤ v 3 18 ∧ v 3 18 < 96) := by
    obtain ⟨i0, i1, o1, t1, _, _, _, _, _, h6, _, h8, h10, _⟩ := ht
    rw [h17, h18, h8, h10]
    have q := h6.1
    omega
  refine LR_off h9 h0 hOw hRv (PO_fr p1 (fun a ha => row a (by omega) (by omega))) (PW_fr p2 (fun a ha => row a (by omega) (by omega))) (PY_fr c3 (fun a ha => el a (by omega) (by omega) (by omega))) (PC_x p4 (row 13 (by omega) (by omega))) (PD_fr hO c5 (fun a ha => el a (by omega) (by omega) (by omega))) (PK.same hO c6 tE (by rw [e0])) (by rw [el 23 (by omega) (by omega) (by omega)]) (by rw [el 23 (by omega) (by omega) (by omega)]) (fun x hx => by rw [el (25 + 1 * x) (by omega) (by omega) (by omega)]) hrg ⟨a, b, ha, hb, hab, by rw [fr 0 12 (by omega)]; exact h12, by rw [fr 0 13 (by omega)]; exact h13, tE.o (by omega) hoa, by rw [tgE_J tE (by omega), tgLM_x (el 416 (by omega) (by omega) (by omega)) (el 417 (by omega) (by omega) (by omega))]; exact hja⟩ hN (DI_fr m2 (m36 41 (by omega)) (el 403 (by omega) (by omega) (by omega)) (el 404 (by omega) (by omega) (by omega))) (m36 76 (by omega)) (by rw [m36 81 (by omega)]; omega) (el 427 (by omega) (by omega) (by omega)) (LTxt_0 (by rw [row 1 (by omega) (by omega)]; exact e1) e2) (LCas_rd hOw hM (csP_x hcs (row 13 (by omega) (by omega)) (fun a ha => by rw [row a (by omega) (by omega)]) (by omega) (fun a ha => rfl)) hmc (fun a ha => (row a (by omega) (by omega)).trans (hrw a (by omega))) hO9) ⟨by rw [e0, m36 67 (by omega)]; exact hH.1, fun k hk => ?_⟩
  rw [e0] at hk
  have h7 := hH.2 k hk
  rw [tgE_J tE (by omega), tgLM_x (el 416 (by omega) (by omega) (by omega)) (el 417 (by omega) (by omega) (by omega)), el 33 (by omega) (by omega) (by omega), el 420 (by omega) (by omega) (by omega)]
  exact h7
end LRP
