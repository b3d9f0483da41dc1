/-! which hooks are due; what a case still takes -/
def cnl (P : Nat → Bool) : Nat → Nat
  | 0 => 0
  | n + 1 => cnl P n + (if P n = true then 1 else 0)
theorem cnl_no {P : Nat → Bool} {n : Nat} (h : P n = false) : cnl P (n + 1) = cnl P n := by
  show cnl P n + _ = _
  rw [if_neg (by rw [h]; decide)]; rfl
theorem cnl_yes {P : Nat → Bool} {n : Nat} (h : P n = true) : cnl P (n + 1) = cnl P n + 1 := by
  show cnl P n + _ = _
  rw [if_pos h]
/-- whether expression h holds for a row of tags -/
def tgH (i : Nat → Nat → Int32) (j : Nat) (x : Int32) : Bool := decide ((i (357 + 2 * j) 1).toInt = 0) || (tgV i j x == some true)
/-- an expression that is kept: without blanks, and well formed -/
def tgO (i : Nat → Nat → Int32) (j : Nat) : Prop := (∀ k : Nat, k < (i (357 + 2 * j) 1).toInt.toNat → (i (357 + 2 * j + 1) k).toInt ≠ 32) ∧ ((i (357 + 2 * j) 1).toInt = 0 ∨ tgV i j 0 ≠ none)
/-- the expressions' texts are the same -/
def tgE (i u : Nat → Nat → Int32) : Prop := ∀ t : Nat, t < 11 → u (357 + 2 * t + 1) = i (357 + 2 * t + 1) ∧ (u (357 + 2 * t) 1).toInt = (i (357 + 2 * t) 1).toInt
theorem tgE.refl (i : Nat → Nat → Int32) : tgE i i := fun _ _ => ⟨rfl, rfl⟩
theorem tgE.trans {i u w : Nat → Nat → Int32} (h1 : tgE i u) (h2 : tgE u w) : tgE i w := fun t ht => ⟨(h2 t ht).1.trans (h1 t ht).1, (h2 t ht).2.trans (h1 t ht).2⟩
theorem tgE.of {i u : Nat → Nat → Int32} (h : ∀ a, (357 ≤ a ∧ a < 379) → u a = i a) : tgE i u := fun t ht => ⟨h _ ⟨by omega, by omega⟩, by rw [h (357 + 2 * t) ⟨by omega, by omega⟩]⟩
theorem tgE.one {i u : Nat → Nat → Int32} {j : Nat} (hj : j < 11) (h : ∀ a, ¬ (a = 357 + 2 * j) → u a = i a) (h2 : (u (357 + 2 * j) 1).toInt = (i (357 + 2 * j) 1).toInt) : tgE i u := fun t ht => by
  refine ⟨h _ (by omega), ?_⟩
  by_cases q : t = j
  · subst q; exact h2
  · rw [h _ (by omega)]
theorem tgE.v {i u : Nat → Nat → Int32} (h : tgE i u) {j : Nat} (hj : j < 11) (x : Int32) : tgV u j x = tgV i j x := tgV_fr (h j hj).1 (h j hj).2
theorem tgE.h {i u : Nat → Nat → Int32} (h : tgE i u) {j : Nat} (hj : j < 11) (x : Int32) : tgH u j x = tgH i j x := by unfold tgH; rw [h.v hj, (h j hj).2]
theorem tgE.o {i u : Nat → Nat → Int32} (h : tgE i u) {j : Nat} (hj : j < 11) (ho : tgO i j) : tgO u j := by
  unfold tgO
  rw [(h j hj).1, (h j hj).2, h.v hj]; exact ho
theorem hold_tgH {i : Nat → Nat → Int32} {j : Nat} {x : Int32} {v : Int} (ho : tgO i j) (h0 : (i (357 + 2 * j) 1).toInt = 0 → v = 1) (h1 : ∀ b : Bool, (i (357 + 2 * j) 1).toInt ≠ 0 → tgV i j x = some b → v = (if b then 1 else 0)) : v = if tgH i j x = true then 1 else 0 := by
  unfold tgH
  by_cases q : (i (357 + 2 * j) 1).toInt = 0
  · rw [h0 q]; simp [q]
  · have h2 : tgV i j x ≠ none := fun h => (ho.2.resolve_left q) ((tgV_none i j x 0).mp h)
    cases h3 : tgV i j x with
    | none => exact absurd h3 h2
    | some b => rw [h1 b q h3]; cases b <;> simp [q]
/-- hook h is due before (1) or after (0) a case with these tags -/
def hdue (i : Nat → Nat → Int32) (b : Int) (x : Int32) (h : Nat) : Bool := decide (h < 11) && (decide ((i 33 h).toInt = b) && tgH i h x)
theorem hdue_no {i : Nat → Nat → Int32} {b : Int} {x : Int32} {h : Nat} (g : (i 33 h).toInt ≠ b) : hdue i b x h = false := by unfold hdue; simp [g]
theorem hdue_v {i : Nat → Nat → Int32} {b : Int} {x : Int32} {h : Nat} (g : (i 33 h).toInt = b) (hh : h < 11) : hdue i b x h = tgH i h x := by unfold hdue; simp [g, hh]
/-- all hooks that are kept are well formed -/
def PK (i : Nat → Nat → Int32) : Prop := ∀ h : Nat, (h : Int) < (i 0 11).toInt → tgO i h
theorem PK.same {i u : Nat → Nat → Int32} (hO : OkI i) (h : PK i) (e : tgE i u) (h2 : (u 0 11).toInt = (i 0 11).toInt) : PK u := fun t ht => e.o (by have := (hO 0 11).2; have h9 : (bx 0 11).2 = 8 := rfl; omega) (h t (by omega))
theorem hdue_same {i u : Nat → Nat → Int32} (e : tgE i u) (h33 : u 33 = i 33) (b : Int) (x : Int32) : hdue u b x = hdue i b x := by
  funext h
  unfold hdue
  by_cases hh : h < 11
  · rw [h33, e.h hh]
  · simp [hh]
theorem cnl_same {P Q : Nat → Bool} : ∀ n : Nat, (∀ k : Nat, k < n → P k = Q k) → cnl P n = cnl Q n
  | 0, _ => rfl
  | n + 1, h => by
    show cnl P n + _ = cnl Q n + _
    rw [cnl_same n (fun k hk => h k (by omega)), h n (by omega)]
theorem cnl_up {P : Nat → Bool} {a : Nat} : ∀ {b : Nat}, a ≤ b → cnl P a ≤ cnl P b := by
  intro b h
  induction h with
  | refl => exact Nat.le_refl _
  | step _ ih => exact Nat.le_trans ih (Nat.le_add_right _ _)
def ctag (i : Nat → Nat → Int32) (c : Nat) : Int32 := i (216 + 1 * c) 3
def hcN (i : Nat → Nat → Int32) : Nat := (i 0 11).toInt.toNat
/-- how many moves a case takes; how many a worker still has to make in its case; those of the cases that wait -/
def caseM (i : Nat → Nat → Int32) (r : Nat → Nat → Nat) (c : Nat) : Int := 2 + (cnl (hdue i 1 (ctag i c)) (hcN i) : Int) + scn i (r (216 + 1 * c) 0) + (cnl (hdue i 0 (ctag i c)) (hcN i) : Int)
def wremF (i : Nat → Nat → Int32) (r : Nat → Nat → Nat) (c : Nat) (st nx : Int) : Int :=
  if st = 0 then (cnl (hdue i 1 (ctag i c)) (hcN i) : Int) - (cnl (hdue i 1 (ctag i c)) nx.toNat : Int) + scn i (r (216 + 1 * c) 0) + (cnl (hdue i 0 (ctag i c)) (hcN i) : Int) + 1
  else if st = 1 then scn i (r (216 + 1 * c) 0) - nx + (cnl (hdue i 0 (ctag i c)) (hcN i) : Int) + 1
  else (cnl (hdue i 0 (ctag i c)) (nx + 1).toNat : Int) + 1
def wrem (i : Nat → Nat → Int32) (r : Nat → Nat → Nat) (w : Nat) : Int := if (i (25 + 1 * w) 1).toInt < 0 then 0 else wremF i r (i (25 + 1 * w) 1).toInt.toNat (i (25 + 1 * w) 2).toInt (i (25 + 1 * w) 3).toInt
def qsum (f : Nat → Int) (q : Nat → Int32) : Nat → Int
  | 0 => 0
  | n + 1 => qsum f q n + f (q n).toInt.toNat
def qrem (i : Nat → Nat → Int32) (r : Nat → Nat → Nat) : Int := qsum (caseM i r) (i 28) (i 23 4).toInt.toNat - qsum (caseM i r) (i 28) (i 23 5).toInt.toNat
/-- what the moves of a case hang on is the same -/
def SC (i u : Nat → Nat → Int32) : Prop := u 33 = i 33 ∧ (u 0 11).toInt = (i 0 11).toInt ∧ tgE i u ∧ (∀ c : Nat, c < 24 → u (216 + 1 * c) 3 = i (216 + 1 * c) 3) ∧ (∀ a, (37 ≤ a ∧ a < 96) → u a = i a)
theorem SC.refl (i : Nat → Nat → Int32) : SC i i := ⟨rfl, rfl, tgE.refl i, fun _ _ => rfl, fun _ _ => rfl⟩
theorem SC.trans {i u v : Nat → Nat → Int32} (h : SC i u) (g : SC u v) : SC i v := ⟨g.1.trans h.1, g.2.1.trans h.2.1, h.2.2.1.trans g.2.2.1, fun c hc => (g.2.2.2.1 c hc).trans (h.2.2.2.1 c hc), fun a ha => (g.2.2.2.2 a ha).trans (h.2.2.2.2 a ha)⟩
section SCL
variable {i u : Nat → Nat → Int32} {r : Nat → Nat → Nat} {c w : Nat}
theorem SC.hc (h : SC i u) : hcN u = hcN i := by unfold hcN; rw [h.2.1]
theorem SC.due (h : SC i u) (b : Int) (x : Int32) : hdue u b x = hdue i b x := hdue_same h.2.2.1 h.1 b x
theorem SC.tag (h : SC i u) (hc : c < 24) : ctag u c = ctag i c := h.2.2.2.1 c hc
theorem SC.sc (hO : OkI i) (h : SC i u) {q : Nat} (h1 : 37 ≤ q) (h2 : q < 96) : scn u q = scn i q := scn_fr hO h1 h2 h.2.2.2.2
theorem caseM_same (hO : OkI i) (h : SC i u) (hc : c < 24) (h1 : 37 ≤ r (216 + 1 * c) 0) (h2 : r (216 + 1 * c) 0 < 96) : caseM u r c = caseM i r c := by
  unfold caseM
  rw [h.hc, h.tag hc, h.due, h.due, SC.sc hO h h1 h2]
theorem wrem_eq (hO : OkI i) (h : SC i u) {st nx : Int} (hc : c < 24) (h1 : 37 ≤ r (216 + 1 * c) 0) (h2 : r (216 + 1 * c) 0 < 96) (hs : (u (25 + 1 * w) 1).toInt = (c : Int)) (hst : (u (25 + 1 * w) 2).toInt = st) (hnx : (u (25 + 1 * w) 3).toInt = nx) : wrem u r w = wremF i r c st nx := by
  unfold wrem
  rw [if_neg (by omega), hs, hst, hnx, Int.toNat_natCast]
  unfold wremF
  rw [h.hc, h.tag hc, h.due, h.due, SC.sc hO h h1 h2]
theorem wrem_no (hs : (u (25 + 1 * w) 1).toInt < 0) : wrem u r w = 0 := by unfold wrem; rw [if_pos hs]
theorem wremF0 {nx : Int} : wremF i r c 0 nx = (cnl (hdue i 1 (ctag i c)) (hcN i) : Int) - (cnl (hdue i 1 (ctag i c)) nx.toNat : Int) + scn i (r (216 + 1 * c) 0) + (cnl (hdue i 0 (ctag i c)) (hcN i) : Int) + 1 := by unfold wremF; rw [if_pos rfl]
theorem wremF1 {nx : Int} : wremF i r c 1 nx = scn i (r (216 + 1 * c) 0) - nx + (cnl (hdue i 0 (ctag i c)) (hcN i) : Int) + 1 := by unfold wremF; rw [if_neg (by decide), if_pos rfl]
theorem wremF2 {nx : Int} : wremF i r c 2 nx = (cnl (hdue i 0 (ctag i c)) (nx + 1).toNat : Int) + 1 := by unfold wremF; rw [if_neg (by decide), if_neg (by decide)]
theorem qsum_same {f g : Nat → Int} {q : Nat → Int32} : ∀ n : Nat, (∀ k : Nat, k < n → f (q k).toInt.toNat = g (q k).toInt.toNat) → qsum f q n = qsum g q n
  | 0, _ => rfl
  | n + 1, h => by
    show qsum f q n + _ = qsum g q n + _
    rw [qsum_same n (fun k hk => h k (by omega)), h n (by omega)]
/-- every case that is queued is one -/
def PQ (i : Nat → Nat → Int32) : Prop := ∀ k : Nat, (k : Int) < (i 23 4).toInt → 0 ≤ (i 28 k).toInt ∧ (i 28 k).toInt < (i 13 4).toInt
theorem qrem_eq (hO : OkI i) (hPC : PC i r) (hPQ : PQ i) (h : SC i u) (h28 : u 28 = i 28) (h4 : (u 23 4).toInt = (i 23 4).toInt) {t : Int} (h5 : (u 23 5).toInt = t) (ht : t ≤ (i 23 4).toInt) : qrem u r = qsum (caseM i r) (i 28) (i 23 4).toInt.toNat - qsum (caseM i r) (i 28) t.toNat := by
  have e : ∀ n : Nat, (n : Int) ≤ (i 23 4).toInt → qsum (caseM u r) (i 28) n = qsum (caseM i r) (i 28) n := by
    intro n hn
    refine qsum_same n (fun k hk => ?_)
    have h9 := hPQ k (by omega)
    have h8 : (i 13 4).toInt ≤ 24 := (hO 13 4).2
    have h7 := (hPC (i 28 k).toInt.toNat (by omega)).1 (by omega)
    exact caseM_same hO h (by omega) (by omega) (by omega)
  have h3 : 0 ≤ (i 23 4).toInt := (hO 23 4).1
  unfold qrem
  rw [h28, h4, h5, e _ (by omega), e _ (by omega)]
theorem qsum_s (f : Nat → Int) (q : Nat → Int32) (n : Nat) : qsum f q (n + 1) = qsum f q n + f (q n).toInt.toNat := rfl
end SCL
/-- where a worker stands in its case -/
def WB (i : Nat → Nat → Int32) (r : Nat → Nat → Nat) (w : Nat) : Prop := (i (25 + 1 * w) 1).toInt < 0 ∨ ∃ c : Nat, (i (25 + 1 * w) 1).toInt = (c : Int) ∧ (c : Int) < (i 13 4).toInt ∧ ((i (25 + 1 * w) 2).toInt = 0 → 0 ≤ (i (25 + 1 * w) 3).toInt ∧ (i (25 + 1 * w) 3).toInt ≤ (i 0 11).toInt) ∧ ((i (25 + 1 * w) 2).toInt = 1 → 0 ≤ (i (25 + 1 * w) 3).toInt ∧ (i (25 + 1 * w) 3).toInt ≤ scn i (r (216 + 1 * c) 0)) ∧ ((i (25 + 1 * w) 2).toInt = 2 → -1 ≤ (i (25 + 1 * w) 3).toInt ∧ (i (25 + 1 * w) 3).toInt < (i 0 11).toInt)
theorem WB_same {i u : Nat → Nat → Int32} {r : Nat → Nat → Nat} {w : Nat} (hO : OkI i) (hPC : PC i r) (h : SC i u) (hw : u (25 + 1 * w) = i (25 + 1 * w)) (h13 : (u 13 4).toInt = (i 13 4).toInt) (g : WB i r w) : WB u r w := by
  unfold WB at g ⊢
  rw [hw, h13, h.2.1]
  rcases g with g | ⟨c, g1, g2, g3, g4, g5⟩
  · exact Or.inl g
  · refine Or.inr ⟨c, g1, g2, g3, fun q => ?_, g5⟩
    have h8 : (i 13 4).toInt ≤ 24 := (hO 13 4).2
    have h7 := (hPC c (by omega)).1 g2
    rw [SC.sc hO h (by omega) (by omega)]
    exact g4 q
theorem wrem_same {i u : Nat → Nat → Int32} {r : Nat → Nat → Nat} {w : Nat} (hO : OkI i) (hPC : PC i r) (h : SC i u) (hw : u (25 + 1 * w) = i (25 + 1 * w)) (g : WB i r w) : wrem u r w = wrem i r w := by
  unfold WB at g
  rcases g with g | ⟨c, g1, g2, g3, g4, g5⟩
  · rw [wrem_no g, wrem_no (by rw [hw]; exact g)]
  · have h8 : (i 13 4).toInt ≤ 24 := (hO 13 4).2
    have h7 := (hPC c (by omega)).1 g2
    rw [wrem_eq hO h (c := c) (by omega) (by omega) (by omega) (by rw [hw]; exact g1) rfl rfl, wrem_eq hO (SC.refl i) (c := c) (by omega) (by omega) (by omega) g1 rfl rfl, hw]
