/-! the answers that the law compares -/
theorem clz0 : Int32.toNatClampNeg 0 = 0 := by decide
section XAN
variable {i u w : Nat → Nat → Int32} {r v : Nat → Nat → Nat} {d d' : Nat → Nat → UInt64} {n : Nat}
theorem tgH_M2 {j t : Nat} {x : Int32} (h0 : 0 ≤ (u (357 + 2 * j) 1).toInt) (e : tgJ u j = sqz (tgLM w t)) : tgH u j x = tgHM w t x := by
  have hl : (u (357 + 2 * j) 1).toInt.toNat = (sqz (tgLM w t)).length := by rw [← e]; unfold tgJ; rw [tgL_len]
  have hv : tgV u j x = mr (tb x) (tgLM w t) true [] [] := by rw [tgV_J, e]; exact mr_filter _ _ _ _ _
  have hz : decide ((u (357 + 2 * j) 1).toInt = 0) = decide (sqz (tgLM w t) = []) := by
    by_cases q : sqz (tgLM w t) = []
    · rw [q] at hl
      have e9 : (u (357 + 2 * j) 1).toInt.toNat = 0 := hl
      rw [decide_eq_true q, decide_eq_true (by omega)]
    · rw [decide_eq_false q, decide_eq_false (fun q2 => q (List.length_eq_zero_iff.mp (by rw [← hl, q2]; rfl)))]
  unfold tgH tgHM
  rw [hz, hv]
/-- as many cases here as there, their tags are the same -/
theorem cas_n (h : LCas i r) : (i 13 4).toInt = (i 36 33).toInt ∧ ∀ m : Nat, (m : Int) < (i 13 4).toInt → ctag i m = i 400 m := by
  obtain ⟨Lc, h1, h2, _⟩ := h
  have e1 := h1.1
  have e2 := h2.1
  refine ⟨by omega, fun m hm => ?_⟩
  obtain ⟨p, hp⟩ : ∃ p, Lc[m]? = some p := ⟨_, List.getElem?_eq_getElem (show m < Lc.length by omega)⟩
  exact (h1.2 m p.1 p.2 hp).2.trans (h2.2 m p.1 p.2 hp).2.symm
theorem cnt_M {a : Nat} (hOu : OkI u) (ha : a < 11) (hJ : tgJ u a = sqz (tgLM w 8)) (hC : LCas i r) (e4 : w 400 = i 400) : cnl (fun c9 => tgH u a (ctag i c9)) (i 13 4).toInt.toNat = cnl (mcw w) (i 36 33).toInt.toNat := by
  obtain ⟨c1, c2⟩ := cas_n hC
  have h0 : 0 ≤ (u (357 + 2 * a) 1).toInt := by have h8 := hOu (357 + 2 * a) 1; rw [bx_tag ha 1] at h8; exact h8.1
  rw [c1]
  refine cnl_same _ (fun k hk => ?_)
  show tgH u a (ctag i k) = tgHM w 8 (w 400 k)
  rw [c2 k (by omega), tgH_M2 h0 hJ, e4]
theorem an_hook {y va vb th k : Int} (hT : LTxt i) (hH : LHok i) (hu : u 36 = i 36) (h9 : u 379 = i 379)
    (hc : (k = 0 ∧ (cTk i ∧ (0 ≤ y ∧ y < 8) ∧ (i 0 11).toInt < 8) ∧ va = (i 0 11).toInt) ∨ (k = 2 ∧ ¬ (cTk i ∧ (0 ≤ y ∧ y < 8))) ∨ (k = 3 ∧ (cTk i ∧ (0 ≤ y ∧ y < 8)) ∧ (i 0 11).toInt = 8))
    (hm : (th = 0 ∧ (mTk u ∧ (0 ≤ y ∧ y < 8) ∧ (u 36 67).toInt < 8) ∧ vb = (u 36 67).toInt) ∨ (th = 2 ∧ ¬ (mTk u ∧ (0 ≤ y ∧ y < 8))) ∨ (th = 3 ∧ (mTk u ∧ (0 ≤ y ∧ y < 8)) ∧ (u 36 67).toInt = 8)) : th = k ∧ (k = 0 → va = vb) := by
  have tk : cTk i ↔ mTk u := (cm_Tk hT).trans (mTk_e (by rw [hu]) h9).2.symm
  have e67 : (u 36 67).toInt = (i 0 11).toInt := by rw [hu]; exact hH.1.symm
  rw [tk] at hc
  rcases hc with ⟨k0, ⟨a, b, c⟩, e⟩ | ⟨k0, a⟩ | ⟨k0, a, c⟩
  · rcases hm with ⟨t0, _, z⟩ | ⟨_, z⟩ | ⟨_, _, z⟩
    · exact ⟨by omega, fun _ => by omega⟩
    · exact absurd ⟨a, b⟩ z
    · exfalso; omega
  · rcases hm with ⟨_, ⟨z1, z2, _⟩, _⟩ | ⟨t0, _⟩ | ⟨_, z, _⟩
    · exact absurd ⟨z1, z2⟩ a
    · exact ⟨by omega, fun _ => by omega⟩
    · exact absurd z a
  · rcases hm with ⟨_, ⟨_, _, z⟩, _⟩ | ⟨_, z⟩ | ⟨t0, _, _⟩
    · exfalso; omega
    · exact absurd a z
    · exact ⟨by omega, fun _ => by omega⟩
theorem an_filter {a b : Nat} {va vb th k : Int} (h : LR i r d n) (hOu : OkI u) (hb : b < 11) (hu : u 36 = i 36) (h9 : u 379 = i 379) (hf : ftC i u r v a b) (hfm : ftM u w) (e4 : w 400 = i 400)
    (hc : (k = 0 ∧ cTk i ∧ va = (cnl (fun c9 => tgH u b (ctag i c9)) (i 13 4).toInt.toNat : Int)) ∨ (k = 2 ∧ ¬ cTk i))
    (hm : (th = 0 ∧ mTk u ∧ vb = (cnl (mcw w) (u 36 33).toInt.toNat : Int)) ∨ (th = 2 ∧ ¬ mTk u)) : th = k ∧ (k = 0 → va = vb) := by
  obtain ⟨_, _, _, _, hT, hC, _⟩ := h
  have tm := mTk_e (i := i) (u := u) (by rw [hu]) h9
  have tk : cTk i ↔ mTk u := (cm_Tk hT).trans tm.2.symm
  rcases hc with ⟨k0, a1, e⟩ | ⟨k0, a1⟩
  · rcases hm with ⟨t0, _, z⟩ | ⟨_, z⟩
    · refine ⟨by omega, fun _ => ?_⟩
      have hJ : tgJ u b = sqz (tgLM w 8) := by
        rcases hf with ⟨q, _⟩ | ⟨_, _, _, q4, _⟩
        · exact absurd a1 q
        · rcases hfm with ⟨q, _⟩ | ⟨_, q2, _⟩
          · exact absurd (tk.mp a1) q
          · rw [q4, q2, cm_Tx hT, tm.1]
      rw [e, z, hu, cnt_M hOu hb hJ hC e4]
    · exact absurd (tk.mp a1) z
  · rcases hm with ⟨_, z, _⟩ | ⟨t0, _⟩
    · exact absurd (tk.mpr z) a1
    · exact ⟨by omega, fun _ => by omega⟩
theorem an_start {a : Nat} {x va vb th k : Int} (h : LR i r d n) (ha : a < 11) (hJ : tgJ i a = sqz (tgLM i 8)) (hu : u 36 = i 36) (e4 : u 400 = i 400) (e6 : u 416 = i 416) (e7 : u 417 = i 417)
    (hc : (k = 0 ∧ (1 ≤ x ∧ x ≤ 3) ∧ va = (cnl (fun c9 => tgH i a (ctag i c9)) (i 13 4).toInt.toNat : Int)) ∨ (k = 2 ∧ (x < 1 ∨ 3 < x)))
    (hm : ((x < 1 ∨ 3 < x) ∧ th = 2) ∨ ((1 ≤ x ∧ x ≤ 3) ∧ th = 0 ∧ vb = (cnl (mcw u) (u 36 33).toInt.toNat : Int))) : th = k ∧ (k = 0 → va = vb) := by
  obtain ⟨⟨hO, _⟩, _, _, _, _, hC, _⟩ := h
  rcases hc with ⟨k0, a1, e⟩ | ⟨k0, a1⟩
  · rcases hm with ⟨z, _⟩ | ⟨_, t0, z⟩
    · exfalso; omega
    · refine ⟨by omega, fun _ => ?_⟩
      rw [e, z, mcw_fr e4 e6 e7, hu, cnt_M hO ha hJ hC rfl]
  · rcases hm with ⟨_, t0⟩ | ⟨z, _⟩
    · exact ⟨by omega, fun _ => by omega⟩
    · exfalso; omega
end XAN
