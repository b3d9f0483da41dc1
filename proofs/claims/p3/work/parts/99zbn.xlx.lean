/-! what the law's rows keep besides LR: the errors of the reading, the commands of the scripts -/
def LErr (i : Nat → Nat → Int32) : Prop := (i 3 4).toInt = (i 36 6).toInt ∧ ∀ j : Nat, (j : Int) < (i 3 4).toInt → (i 381 (2 * j)).toInt = (i 6 j).toInt ∧ (i 381 (2 * j + 1)).toInt = (i 7 j).toInt
def LCnt (i : Nat → Nat → Int32) : Prop := (∀ k : Nat, k < 8 → (i 22 k).toInt = (i 424 k).toInt) ∧ ∀ k : Nat, k < 32 → (i 20 k).toInt = (i 422 k).toInt ∧ (i 21 k).toInt = (i 423 k).toInt
def LDef (i : Nat → Nat → Int32) : Prop := (i 0 7).toInt = (i 36 41).toInt
def LDia (i : Nat → Nat → Int32) : Prop := (i 3 1).toInt = (i 36 7).toInt
def LTo (i : Nat → Nat → Int32) : Prop := (i 23 10).toInt = (i 36 81).toInt
def LX (i : Nat → Nat → Int32) : Prop := LErr i ∧ LCnt i ∧ LDef i ∧ LDia i ∧ LTo i
def LRX (i : Nat → Nat → Int32) (r : Nat → Nat → Nat) (d : Nat → Nat → UInt64) (n : Nat) : Prop := LR i r d n ∧ LX i
section XLX
variable {i u w : Nat → Nat → Int32} {r v : Nat → Nat → Nat} {d d' : Nat → Nat → UInt64} {n : Nat}
theorem LErr_x (h : LErr i) (e3 : w 3 = i 3) (e6 : w 6 = i 6) (e7 : w 7 = i 7) (m6 : w 36 6 = i 36 6) (m1 : w 381 = i 381) : LErr w := by
  unfold LErr at h ⊢
  rw [e3, e6, e7, m6, m1]; exact h
theorem LCnt_x (h : LCnt i) (e0 : w 20 = i 20) (e1 : w 21 = i 21) (e2 : w 22 = i 22) (m2 : w 422 = i 422) (m3 : w 423 = i 423) (m4 : w 424 = i 424) : LCnt w := by
  unfold LCnt at h ⊢
  rw [e0, e1, e2, m2, m3, m4]; exact h
theorem LDef_x (h : LDef i) (e : (w 0 7).toInt = (i 0 7).toInt) (m : w 36 41 = i 36 41) : LDef w := by
  unfold LDef at h ⊢
  rw [e, m]; exact h
theorem LDia_x (h : LDia i) (e : w 3 1 = i 3 1) (m : w 36 7 = i 36 7) : LDia w := by
  unfold LDia at h ⊢
  rw [e, m]; exact h
theorem LTo_x (h : LTo i) (e : w 23 10 = i 23 10) (m : w 36 81 = i 36 81) : LTo w := by
  unfold LTo at h ⊢
  rw [e, m]; exact h
theorem LX_00 : LX i00 := by
  have z := fun (a b : Nat) (h : a ≠ 25 ∧ a ≠ 26 ∧ a ≠ 27 ∧ a ≠ 427) => z00i (n := a) (k := b) h
  refine ⟨⟨(z 3 4 (by omega)).trans (z 36 6 (by omega)).symm, fun j _ => ⟨(z 381 _ (by omega)).trans (z 6 _ (by omega)).symm, (z 381 _ (by omega)).trans (z 7 _ (by omega)).symm⟩⟩, ⟨fun k _ => (z 22 _ (by omega)).trans (z 424 _ (by omega)).symm, fun k _ => ⟨(z 20 _ (by omega)).trans (z 422 _ (by omega)).symm, (z 21 _ (by omega)).trans (z 423 _ (by omega)).symm⟩⟩, (z 0 7 (by omega)).trans (z 36 41 (by omega)).symm, (z 3 1 (by omega)).trans (z 36 7 (by omega)).symm, (z 23 10 (by omega)).trans (z 36 81 (by omega)).symm⟩
theorem LRX_00 : LRX i00 r00 d00 0 := ⟨LR_00, LX_00⟩
theorem cm_L (h : LTxt i) (hu : u 36 = i 36) (h9 : u 379 = i 379) (hO : 0 ≤ (i 1 1).toInt) : lnL (u 379) 0 (u 36 2).toInt = lnL (i 2) 0 (i 1 1).toInt := by
  rw [hu, h9, ← h.1]
  exact lnL_ext (by omega) (by omega) rfl (fun j hj => by
    rw [show (0 + (j : Int)).toNat = j by omega]
    exact (h.2 j (by omega)).symm)
theorem an_define {x va vb th k c7 m41 : Int} (hT : LTxt i) (hO : OkI i) (hD : LDef i) (hu : u 36 = i 36) (h9 : u 379 = i 379)
    (hc : (k = 0 ∧ (prOK (lnL (i 2) 0 (i 1 1).toInt) ∧ (0 ≤ x ∧ x < 8) ∧ (i 0 7).toInt < 12) ∧ va = (i 0 7).toInt ∧ c7 = (i 0 7).toInt + 1) ∨ (k = 2 ∧ ¬ (prOK (lnL (i 2) 0 (i 1 1).toInt) ∧ (0 ≤ x ∧ x < 8)) ∧ c7 = (i 0 7).toInt) ∨ (k = 3 ∧ (prOK (lnL (i 2) 0 (i 1 1).toInt) ∧ (0 ≤ x ∧ x < 8)) ∧ (i 0 7).toInt = 12 ∧ c7 = (i 0 7).toInt))
    (hm : (th = 0 ∧ (prOK (lnL (u 379) 0 (u 36 2).toInt) ∧ (0 ≤ x ∧ x < 8) ∧ (u 36 41).toInt < 12) ∧ vb = (u 36 41).toInt ∧ m41 = (u 36 41).toInt + 1) ∨ (th = 2 ∧ ¬ (prOK (lnL (u 379) 0 (u 36 2).toInt) ∧ (0 ≤ x ∧ x < 8)) ∧ m41 = (u 36 41).toInt) ∨ (th = 3 ∧ (prOK (lnL (u 379) 0 (u 36 2).toInt) ∧ (0 ≤ x ∧ x < 8)) ∧ (u 36 41).toInt = 12 ∧ m41 = (u 36 41).toInt)) : (th = k ∧ (k = 0 → va = vb)) ∧ c7 = m41 := by
  have e41 : (u 36 41).toInt = (i 0 7).toInt := by rw [hu]; exact hD.symm
  rw [cm_L hT hu h9 (hO 1 1).1] at hm
  generalize prOK (lnL (i 2) 0 (i 1 1).toInt) = P at hc hm
  rcases hc with ⟨k0, ⟨a, b, c⟩, e, e7⟩ | ⟨k0, a, e7⟩ | ⟨k0, a, c, e7⟩
  · rcases hm with ⟨t0, _, z, z4⟩ | ⟨_, z, _⟩ | ⟨_, _, z, _⟩
    · exact ⟨⟨by omega, fun _ => by omega⟩, by omega⟩
    · exact absurd ⟨a, b⟩ z
    · exfalso; omega
  · rcases hm with ⟨_, ⟨z1, z2, _⟩, _⟩ | ⟨t0, _, z4⟩ | ⟨_, z, _⟩
    · exact absurd ⟨z1, z2⟩ a
    · exact ⟨⟨by omega, fun _ => by omega⟩, by omega⟩
    · exact absurd z a
  · rcases hm with ⟨_, ⟨_, _, z⟩, _⟩ | ⟨_, z, _⟩ | ⟨t0, _, _, z4⟩
    · exfalso; omega
    · exact absurd a z
    · exact ⟨⟨by omega, fun _ => by omega⟩, by omega⟩
theorem an_look {x va vb : Int} (h : LRX i r d n) (hu : u = i)
    (hc : (x = 0 ∧ va = (i 23 8).toInt) ∨ (x = 1 ∧ va = (i 1 1).toInt) ∨ (x = 2 ∧ va = (i 13 4).toInt) ∨ (x = 3 ∧ va = (i 0 7).toInt) ∨ (x = 4 ∧ va = (i 0 11).toInt) ∨ (x = 5 ∧ va = (i 3 1).toInt) ∨ (x = 6 ∧ va = (i 23 10).toInt) ∨ (x = 7 ∧ va = (i 3 4).toInt) ∨ ((x < 0 ∨ 7 < x) ∧ va = -1))
    (hm : (x = 0 ∧ vb = (u 36 76).toInt) ∨ (x = 1 ∧ vb = (u 36 2).toInt) ∨ (x = 2 ∧ vb = (u 36 33).toInt) ∨ (x = 3 ∧ vb = (u 36 41).toInt) ∨ (x = 4 ∧ vb = (u 36 67).toInt) ∨ (x = 5 ∧ vb = (u 36 7).toInt) ∨ (x = 6 ∧ vb = (u 36 81).toInt) ∨ (x = 7 ∧ vb = (u 36 6).toInt) ∨ ((x < 0 ∨ 7 < x) ∧ vb = -1)) : va = vb := by
  subst hu
  obtain ⟨h, ⟨e1, _⟩, _, e2, e3, e4⟩ := h
  have b1 := busy_M h
  obtain ⟨_, _, _, _, ⟨t1, _⟩, hC, ⟨h1, _⟩, _⟩ := h
  have c1 := (cas_n hC).1
  unfold LDef at e2
  unfold LDia at e3
  unfold LTo at e4
  omega
theorem LErr_rd {w9 : Nat → Nat → Int32} {t : Nat} (hM : MRQ w w9 t) (e3 : w 3 = w9 3) (e6 : w 6 = w9 6) (e7 : w 7 = w9 7) : LErr w := by
  obtain ⟨⟨s1, _⟩, _, _, _, _, _, _, _, _, _, _, _, X⟩ := hM
  unfold mqX at X
  refine ⟨by rw [e3]; omega, fun j hj => ?_⟩
  rw [e6, e7]
  rw [e3] at hj
  exact X j hj
theorem an_error {x y va vb th k : Int} (h : LErr i) (hO : OkI i) (hu : u = i)
    (hc : (k = 0 ∧ (0 ≤ x ∧ x < (i 3 4).toInt) ∧ ((y = 0 ∧ va = (i 6 x.toNat).toInt) ∨ (y = 1 ∧ va = (i 7 x.toNat).toInt))) ∨ (k = 1 ∧ (x < 0 ∨ (i 3 4).toInt ≤ x ∨ y < 0 ∨ 1 < y)))
    (hm : ((x < 0 ∨ (u 36 6).toInt ≤ x ∨ y < 0 ∨ 1 < y) ∧ th = 1) ∨ (((0 ≤ x ∧ x < (u 36 6).toInt) ∧ (0 ≤ y ∧ y ≤ 1)) ∧ th = 0 ∧ vb = (u 381 (2 * x + y).toNat).toInt)) : th = k ∧ (k = 0 → va = vb) := by
  subst hu
  obtain ⟨h1, h2⟩ := h
  rcases hc with ⟨k0, a1, e⟩ | ⟨k0, a1⟩
  · rcases hm with ⟨z, _⟩ | ⟨_, t0, z⟩
    · exfalso; omega
    · refine ⟨by omega, fun _ => ?_⟩
      have h3 := h2 x.toNat (by omega)
      rcases e with ⟨y0, e⟩ | ⟨y0, e⟩
      · rw [e, z, show (2 * x + y).toNat = 2 * x.toNat by omega]; exact h3.1.symm
      · rw [e, z, show (2 * x + y).toNat = 2 * x.toNat + 1 by omega]; exact h3.2.symm
  · rcases hm with ⟨_, t0⟩ | ⟨z, _⟩
    · exact ⟨by omega, fun _ => by omega⟩
    · exfalso; omega
theorem an_command {x y z va vb : Int} (h : LRX i r d n) (eu : ∀ a : Nat, 23 ≤ a → u a = i a) (ew : ∀ a : Nat, a < 36 → w a = u a)
    (hc : (va = 1 ∧ ((i 23 8).toInt = 0 ∧ cmO 22 i x y) ∧ cmA 22 20 21 i u x y z) ∨ (va = 0 ∧ ¬ ((i 23 8).toInt = 0 ∧ cmO 22 i x y) ∧ u = i))
    (hm : (vb = 1 ∧ ((u 36 76).toInt = 0 ∧ cmO 424 u x y) ∧ cmA 424 422 423 u w x y z) ∨ (vb = 0 ∧ ¬ ((u 36 76).toInt = 0 ∧ cmO 424 u x y) ∧ w 422 = u 422 ∧ w 423 = u 423 ∧ w 424 = u 424)) : va = vb ∧ LCnt w := by
  obtain ⟨h, _, ⟨hc1, hc2⟩, _⟩ := h
  have hO := h.1.1
  have hb := busy_M h
  have e24 := eu 424 (by omega)
  have e76 : u 36 76 = i 36 76 := by rw [eu 36 (by omega)]
  have hk : cmO 22 i x y ↔ cmO 424 u x y := by
    unfold cmO
    rw [e24]
    constructor
    · rintro ⟨q1, q2, q3⟩; exact ⟨q1, q2, by rw [← hc1 _ (by omega)]; exact q3⟩
    · rintro ⟨q1, q2, q3⟩; exact ⟨q1, q2, by rw [hc1 _ (by omega)]; exact q3⟩
  have hk2 : ((i 23 8).toInt = 0 ∧ cmO 22 i x y) ↔ ((u 36 76).toInt = 0 ∧ cmO 424 u x y) := by rw [hk, hb, e76]
  have w20 := ew 20 (by omega)
  have w21 := ew 21 (by omega)
  have w22 := ew 22 (by omega)
  rcases hc with ⟨v1, a1, c1⟩ | ⟨v0, a1, c1⟩
  · rcases hm with ⟨t1, b1, g1⟩ | ⟨_, b1, _⟩
    · refine ⟨by omega, ?_, ?_⟩
      · intro k hk
        rw [w22]
        by_cases q : k = x.toNat
        · subst q
          have p1 := c1.1
          have p2 := g1.1
          rw [e24] at p2
          have p3 := hc1 _ hk
          omega
        · rw [c1.2.2.2.1 k q, g1.2.2.2.1 k q, e24]; exact hc1 k hk
      · intro k hk
        have hx := a1.2.1
        have ee : (u 424 x.toNat).toInt = (i 22 x.toNat).toInt := by rw [e24]; exact (hc1 _ (by omega)).symm
        obtain ⟨_, gC, gB, _, gf⟩ := g1
        rw [ee] at gC gB gf
        rw [w20, w21]
        by_cases q : k = (4 * x + (i 22 x.toNat).toInt).toNat
        · subst q
          exact ⟨by rw [c1.2.1, gC], by rw [c1.2.2.1, gB]⟩
        · rw [(c1.2.2.2.2 k q).1, (c1.2.2.2.2 k q).2, (gf k q).1, (gf k q).2, eu 422 (by omega), eu 423 (by omega)]
          exact hc2 k hk
    · exact absurd (hk2.mp a1) b1
  · rcases hm with ⟨_, b1, _⟩ | ⟨t0, _, g1, g2, g3⟩
    · exact absurd (hk2.mpr b1) a1
    · subst c1
      exact ⟨by omega, LCnt_x (i := u) ⟨hc1, hc2⟩ w20 w21 w22 g1 g2 g3⟩
end XLX
