/-! a run: what is left of it -/
def rest (i : Nat → Nat → Int32) (r : Nat → Nat → Nat) : Int := qrem i r + wrem i r 0 + wrem i r 1 + wrem i r 2
def act1 (i : Nat → Nat → Int32) (w : Nat) : Int := if (i (25 + 1 * w) 1).toInt < 0 then 0 else 1
def act (i : Nat → Nat → Int32) : Int := act1 i 0 + act1 i 1 + act1 i 2
def wfin (i : Nat → Nat → Int32) (d : Nat → Nat → UInt64) (w : Nat) : Prop := 0 ≤ (i (25 + 1 * w) 1).toInt → (i (25 + 1 * w) 4).toInt = 0 → dfin (d (25 + 1 * w) 5)
/-- a run that goes on, or has just come to its end -/
def RU (i : Nat → Nat → Int32) (r : Nat → Nat → Nat) (d : Nat → Nat → UInt64) : Prop := (1 ≤ (i 23 1).toInt ∧ (i 23 2).toInt < (i 23 1).toInt ∧ (i 23 5).toInt ≤ (i 23 4).toInt ∧ (i 23 6).toInt ≤ (i 23 4).toInt ∧ (i 23 5).toInt = (i 23 6).toInt + act i) ∧ PQ i ∧ (∀ w : Nat, w < 3 → WB i r w) ∧ (∀ w : Nat, w < 3 → wfin i d w) ∧ (∀ w : Nat, w < 3 → (i 23 1).toInt ≤ (w : Int) → (i (25 + 1 * w) 1).toInt < 0)
theorem act1_or (i : Nat → Nat → Int32) (w : Nat) : ((i (25 + 1 * w) 1).toInt < 0 ∧ act1 i w = 0) ∨ (0 ≤ (i (25 + 1 * w) 1).toInt ∧ act1 i w = 1) := by
  unfold act1
  by_cases h : (i (25 + 1 * w) 1).toInt < 0
  · rw [if_pos h]; exact Or.inl ⟨h, rfl⟩
  · rw [if_neg h]; exact Or.inr ⟨by omega, rfl⟩
section RL
variable {i u : Nat → Nat → Int32} {r : Nat → Nat → Nat} {d d' : Nat → Nat → UInt64} {w : Nat}
theorem PQ_same (h : PQ i) (h28 : u 28 = i 28) (h4 : (u 23 4).toInt = (i 23 4).toInt) (h13 : (u 13 4).toInt = (i 13 4).toInt) : PQ u := fun k hk => by rw [h28, h13]; exact h k (by omega)
theorem rest_same (hO : OkI i) (hPC : PC i r) (hR : RU i r d) (hSC : SC i u) (h28 : u 28 = i 28) (h4 : (u 23 4).toInt = (i 23 4).toInt) (h5 : (u 23 5).toInt = (i 23 5).toInt) (hw : ∀ a : Nat, a < 3 → u (25 + 1 * a) = i (25 + 1 * a)) : rest u r = rest i r := by
  have e2 := qrem_eq hO hPC hR.2.1 hSC h28 h4 h5 hR.1.2.2.1
  have e1 : qrem i r = qsum (caseM i r) (i 28) (i 23 4).toInt.toNat - qsum (caseM i r) (i 28) (i 23 5).toInt.toNat := rfl
  unfold rest
  rw [wrem_same hO hPC hSC (hw 0 (by omega)) (hR.2.2.1 0 (by omega)), wrem_same hO hPC hSC (hw 1 (by omega)) (hR.2.2.1 1 (by omega)), wrem_same hO hPC hSC (hw 2 (by omega)) (hR.2.2.1 2 (by omega)), e2, e1]
theorem RU_same (hO : OkI i) (hPC : PC i r) (hR : RU i r d) (hSC : SC i u) (h28 : u 28 = i 28) (h1 : (u 23 1).toInt = (i 23 1).toInt) (h2 : (u 23 2).toInt < (i 23 1).toInt) (h4 : (u 23 4).toInt = (i 23 4).toInt) (h5 : (u 23 5).toInt = (i 23 5).toInt) (h6 : (u 23 6).toInt = (i 23 6).toInt) (h13 : (u 13 4).toInt = (i 13 4).toInt) (hw : ∀ a : Nat, a < 3 → u (25 + 1 * a) = i (25 + 1 * a)) : RU u r d := by
  have ea : act u = act i := by unfold act act1; rw [hw 0 (by omega), hw 1 (by omega), hw 2 (by omega)]
  refine ⟨by have := hR.1; rw [ea]; omega, PQ_same hR.2.1 h28 h4 h13, fun a ha => WB_same hO hPC hSC (hw a ha) h13 (hR.2.2.1 a ha), fun a ha => ?_, fun a ha g => ?_⟩
  · unfold wfin; rw [hw a ha]; exact hR.2.2.2.1 a ha
  · rw [hw a ha]; exact hR.2.2.2.2 a ha (by omega)
/-- one move of worker w -/
theorem go_step (hO : OkI i) (hPC : PC i r) (hR : RU i r d) (hSC : SC i u) (hw3 : w < 3) (hwc : (w : Int) < (i 23 1).toInt) (h28 : u 28 = i 28) (h1 : (u 23 1).toInt = (i 23 1).toInt) (h2 : (u 23 2).toInt = (i 23 2).toInt) (h4 : (u 23 4).toInt = (i 23 4).toInt) (h13 : (u 13 4).toInt = (i 13 4).toInt) (hw : ∀ a : Nat, a < 3 → a ≠ w → u (25 + 1 * a) = i (25 + 1 * a)) (hd : ∀ a, ¬ (a = 25 + 1 * w) → d' a = d a)
    (habc : ((i (25 + 1 * w) 1).toInt < 0 ∧ (i 23 5).toInt < (i 23 4).toInt ∧ (u 23 5).toInt = (i 23 5).toInt + 1 ∧ (u 23 6).toInt = (i 23 6).toInt ∧ 0 ≤ (u (25 + 1 * w) 1).toInt) ∨ (0 ≤ (i (25 + 1 * w) 1).toInt ∧ (u 23 5).toInt = (i 23 5).toInt ∧ (u 23 6).toInt = (i 23 6).toInt ∧ 0 ≤ (u (25 + 1 * w) 1).toInt) ∨ (0 ≤ (i (25 + 1 * w) 1).toInt ∧ (u 23 5).toInt = (i 23 5).toInt ∧ (u 23 6).toInt = (i 23 6).toInt + 1 ∧ (u (25 + 1 * w) 1).toInt < 0))
    (hWB : WB u r w) (hf : wfin u d' w) (hp : qrem u r + wrem u r w + 1 = qrem i r + wrem i r w) : RU u r d' ∧ rest u r + 1 = rest i r := by
  have hws : ∀ a : Nat, a < 3 → a ≠ w → wrem u r a = wrem i r a := fun a ha hn => wrem_same hO hPC hSC (hw a ha hn) (hR.2.2.1 a ha)
  have has : ∀ a : Nat, a < 3 → a ≠ w → act1 u a = act1 i a := fun a ha hn => by unfold act1; rw [hw a ha hn]
  have h3 := act1_or i w
  have h7 := act1_or u w
  have h8 := hR.1
  have h9 := act1_or i 0
  have h10 := act1_or i 1
  have h11 := act1_or i 2
  have ha : act u = act i + act1 u w - act1 i w := by
    unfold act
    rcases (show w = 0 ∨ w = 1 ∨ w = 2 by omega) with rfl | rfl | rfl
    · rw [has 1 (by omega) (by omega), has 2 (by omega) (by omega)]; omega
    · rw [has 0 (by omega) (by omega), has 2 (by omega) (by omega)]; omega
    · rw [has 0 (by omega) (by omega), has 1 (by omega) (by omega)]; omega
  have hge : act1 i w ≤ act i := by
    unfold act
    rcases (show w = 0 ∨ w = 1 ∨ w = 2 by omega) with rfl | rfl | rfl <;> omega
  refine ⟨⟨by omega, PQ_same hR.2.1 h28 h4 h13, fun a ha9 => ?_, fun a ha9 => ?_, fun a ha9 g => ?_⟩, ?_⟩
  · by_cases q : a = w
    · subst q; exact hWB
    · exact WB_same hO hPC hSC (hw a ha9 q) h13 (hR.2.2.1 a ha9)
  · by_cases q : a = w
    · subst q; exact hf
    · unfold wfin; rw [hw a ha9 q, hd _ (by omega)]; exact hR.2.2.2.1 a ha9
  · have q : a ≠ w := by omega
    rw [hw a ha9 q]; exact hR.2.2.2.2 a ha9 (by omega)
  · unfold rest
    rcases (show w = 0 ∨ w = 1 ∨ w = 2 by omega) with rfl | rfl | rfl
    · rw [hws 1 (by omega) (by omega), hws 2 (by omega) (by omega)]; omega
    · rw [hws 0 (by omega) (by omega), hws 2 (by omega) (by omega)]; omega
    · rw [hws 0 (by omega) (by omega), hws 1 (by omega) (by omega)]; omega
theorem scn_0 (hO : OkI i) {q : Nat} (h1 : 37 ≤ q) (h2 : q < 96) : 0 ≤ scn i q := by
  have h3 := bxp hO h1 h2
  have h4 := bxp hO (p := 37) (by omega) (by omega)
  have h5 := bgc_or i q
  have h6 := scn_or i q
  have h7 := bxp hO (p := 37 + 1 * (i q 6).toInt.toNat) (by omega) (by omega)
  omega
theorem caseM_2 (hO : OkI i) {c : Nat} (h1 : 37 ≤ r (216 + 1 * c) 0) (h2 : r (216 + 1 * c) 0 < 96) : 2 ≤ caseM i r c := by
  have := scn_0 hO h1 h2
  unfold caseM; omega
theorem wrem_0 (hO : OkI i) (hPC : PC i r) (hw3 : w < 3) (g : WB i r w) : act1 i w ≤ wrem i r w := by
  have ha := act1_or i w
  have hb : (0 : Int) ≤ (i (25 + 1 * w) 2).toInt ∧ (i (25 + 1 * w) 2).toInt ≤ 2 := by have h9 := hO (25 + 1 * w) 2; rw [bx_wk hw3 2] at h9; exact h9
  have h11 : 0 ≤ (i 0 11).toInt := (hO 0 11).1
  unfold WB at g
  rcases g with g | ⟨c, g1, g2, g3, g4, g5⟩
  · rw [wrem_no g]; omega
  · have h8 : (i 13 4).toInt ≤ 24 := (hO 13 4).2
    have h7 := (hPC c (by omega)).1 g2
    rw [wrem_eq hO (SC.refl i) (c := c) (by omega) (by omega) (by omega) g1 rfl rfl]
    have h6 := scn_0 hO (q := r (216 + 1 * c) 0) (by omega) (by omega)
    rcases (show (i (25 + 1 * w) 2).toInt = 0 ∨ (i (25 + 1 * w) 2).toInt = 1 ∨ (i (25 + 1 * w) 2).toInt = 2 by omega) with q | q | q
    · rw [q, wremF0]
      have h5 := cnl_up (P := hdue i 1 (ctag i c)) (a := (i (25 + 1 * w) 3).toInt.toNat) (b := hcN i) (by unfold hcN; have := g3 q; omega)
      omega
    · rw [q, wremF1]; have := g4 q; omega
    · rw [q, wremF2]; omega
theorem qsum_up {f : Nat → Int} {q : Nat → Int32} {a : Nat} : ∀ {b : Nat}, a ≤ b → (∀ k : Nat, k < b → 2 ≤ f (q k).toInt.toNat) → qsum f q a + 2 * ((b : Int) - (a : Int)) ≤ qsum f q b := by
  intro b h
  induction h with
  | refl => intro _; omega
  | step h9 ih =>
    intro hk
    have h1 := ih (fun k hk9 => hk k (by omega))
    rw [qsum_s]
    have h2 := hk _ (Nat.lt_succ_self _)
    omega
theorem qrem_0 (hO : OkI i) (hPC : PC i r) (hPQ : PQ i) (h : (i 23 5).toInt ≤ (i 23 4).toInt) : 2 * ((i 23 4).toInt - (i 23 5).toInt) ≤ qrem i r := by
  have h5 : 0 ≤ (i 23 5).toInt := (hO 23 5).1
  have h8 : (i 13 4).toInt ≤ 24 := (hO 13 4).2
  have h9 := qsum_up (f := caseM i r) (q := i 28) (a := (i 23 5).toInt.toNat) (b := (i 23 4).toInt.toNat) (by omega) (fun k hk => by
    have h6 := hPQ k (by omega)
    have h7 := (hPC (i 28 k).toInt.toNat (by omega)).1 (by omega)
    exact caseM_2 hO (by omega) (by omega))
  unfold qrem; omega
/-- a run is over when nothing is left, and not before -/
theorem go_end (hO : OkI i) (hPC : PC i r) (hR : RU i r d) : ((i 23 4).toInt ≤ (i 23 6).toInt → (∀ w : Nat, w < 3 → (i (25 + 1 * w) 1).toInt < 0) ∧ rest i r = 0) ∧ ((i 23 6).toInt < (i 23 4).toInt → 1 ≤ rest i r) := by
  have h0 := hR.1
  have a0 := act1_or i 0
  have a1 := act1_or i 1
  have a2 := act1_or i 2
  have w0 := wrem_0 hO hPC (by omega) (hR.2.2.1 0 (by omega))
  have w1 := wrem_0 hO hPC (by omega) (hR.2.2.1 1 (by omega))
  have w2 := wrem_0 hO hPC (by omega) (hR.2.2.1 2 (by omega))
  have hq := qrem_0 hO hPC hR.2.1 h0.2.2.1
  have ha : act i = act1 i 0 + act1 i 1 + act1 i 2 := rfl
  have hr : rest i r = qrem i r + wrem i r 0 + wrem i r 1 + wrem i r 2 := rfl
  refine ⟨fun h => ?_, fun h => by omega⟩
  have hs : ∀ w : Nat, w < 3 → (i (25 + 1 * w) 1).toInt < 0 := by
    intro w hw
    rcases (show w = 0 ∨ w = 1 ∨ w = 2 by omega) with rfl | rfl | rfl <;> omega
  refine ⟨hs, ?_⟩
  have hz : qrem i r = 0 := by
    unfold qrem
    rw [show (i 23 5).toInt = (i 23 4).toInt by omega]; omega
  rw [hr, hz, wrem_no (hs 0 (by omega)), wrem_no (hs 1 (by omega)), wrem_no (hs 2 (by omega))]; rfl
end RL
/-- between calls: no run is under way, or one that isn't over -/
def RI (i : Nat → Nat → Int32) (r : Nat → Nat → Nat) (d : Nat → Nat → UInt64) : Prop := ((i 23 8).toInt = 0 ∧ (∀ w : Nat, w < 3 → (i (25 + 1 * w) 1).toInt < 0)) ∨ ((i 23 8).toInt = 1 ∧ RU i r d ∧ (i 23 6).toInt < (i 23 4).toInt)
theorem go_inv {i8 j8 k8 t R Rj Rk q4 q6 : Int} (h : (i8 = 0 ∧ t = 0 ∧ j8 = 0) ∨ (i8 = 1 ∧ (j8 = 1 → (Rj + t = R ∧ 1 ≤ Rj)) ∧ (j8 = 0 → t = R))) (hj : j8 = 1) (h1 : Rk + 1 = Rj) (he : (q6 < q4 ∧ k8 = 1) ∨ (q4 ≤ q6 ∧ k8 = 0)) (h0 : q4 ≤ q6 → Rk = 0) (hp : q6 < q4 → 1 ≤ Rk) : (i8 = 0 ∧ t + 1 = 0 ∧ k8 = 0) ∨ (i8 = 1 ∧ (k8 = 1 → (Rk + (t + 1) = R ∧ 1 ≤ Rk)) ∧ (k8 = 0 → t + 1 = R)) := by
  subst hj
  rcases h with h | ⟨h2, h3, h4⟩
  · exact absurd h.2.2 (by decide)
  · refine Or.inr ⟨h2, ?_⟩
    have h5 := h3 rfl
    rcases he with ⟨e1, e2⟩ | ⟨e1, e2⟩
    · have := hp e1
      exact ⟨fun _ => ⟨by omega, by omega⟩, fun q => by omega⟩
    · have := h0 e1
      exact ⟨fun q => by omega, fun _ => by omega⟩
theorem go_out {i8 k8 t x R Rk v : Int} (h : (i8 = 0 ∧ t = 0 ∧ k8 = 0) ∨ (i8 = 1 ∧ (k8 = 1 → (Rk + t = R ∧ 1 ≤ Rk)) ∧ (k8 = 0 → t = R))) (hk : k8 = 0 ∨ k8 = 1) (ht : t ≤ x) (hx : 1 ≤ x ∧ x ≤ 40) (hq : k8 = 0 ∨ x ≤ t) (hv : v = t) {A : Prop} : A ∨ ((1 ≤ x ∧ x ≤ 40) ∧ ((i8 = 0 ∧ v = 0 ∧ k8 = 0) ∨ (i8 = 1 ∧ ((R ≤ x ∧ v = R ∧ k8 = 0) ∨ (x < R ∧ v = x ∧ k8 = 1 ∧ Rk + x = R))))) := by
  refine Or.inr ⟨hx, ?_⟩
  subst hv
  rcases h with ⟨h1, h2, h3⟩ | ⟨h2, h3, h4⟩
  · exact Or.inl ⟨h1, h2, h3⟩
  · refine Or.inr ⟨h2, ?_⟩
    rcases hk with q | q
    · have := h4 q
      exact Or.inl ⟨by omega, this, q⟩
    · have := h3 q
      exact Or.inr ⟨by omega, by omega, q, by omega⟩
