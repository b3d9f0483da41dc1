/-! tag expressions: signs read one by one, with a stack of values and a stack of signs -/
def tgL (f : Nat → Int32) : Nat → Nat → List Int
  | _, 0 => []
  | a, k + 1 => (f a).toInt :: tgL f (a + 1) k
def bnd (c : Int) : Int := if c = 38 then 2 else if c = 124 then 1 else 0
def mapp (c : Int) : List Bool → List Bool
  | [] => []
  | y :: r => if c = 33 then (!y) :: r else match r with
    | [] => [y]
    | x :: t => (if c = 38 then (x && y) else (x || y)) :: t
def mneg : List Bool → List Int → List Bool × List Int
  | vs, [] => (vs, [])
  | vs, c :: ss => if c = 33 then mneg (mapp 33 vs) ss else (vs, c :: ss)
def mpop (b : Int) : List Bool → List Int → List Bool × List Int
  | vs, [] => (vs, [])
  | vs, c :: ss => if c = 40 ∨ bnd c < b then (vs, c :: ss) else mpop b (mapp c vs) ss
def mfin : List Bool → List Int → Option Bool
  | vs, [] => vs.head?
  | vs, c :: ss => if c = 40 then none else mfin (mapp c vs) ss
def mr (T : Int → Bool) : List Int → Bool → List Bool → List Int → Option Bool
  | [], due, vs, ss => if due = true then none else mfin vs ss
  | c :: l, due, vs, ss =>
    if c = 32 then mr T l due vs ss
    else if due = true then
      if c = 33 ∨ c = 40 then mr T l true vs (c :: ss)
      else if c < 97 ∨ 112 < c then none
      else mr T l false (mneg (T c :: vs) ss).1 (mneg (T c :: vs) ss).2
    else if c ≠ 38 ∧ c ≠ 124 ∧ c ≠ 41 then none
    else if c ≠ 41 then mr T l true (mpop (bnd c) vs ss).1 (c :: (mpop (bnd c) vs ss).2)
    else match (mpop 0 vs ss).2 with
      | [] => none
      | _ :: s2 => mr T l false (mneg (mpop 0 vs ss).1 s2).1 (mneg (mpop 0 vs ss).1 s2).2
theorem bnd_le (c : Int) : bnd c ≤ 2 := by unfold bnd; split <;> (try split) <;> omega
theorem tgL_step {f : Nat → Int32} {a n : Nat} (h : a < n) : tgL f a (n - a) = (f a).toInt :: tgL f (a + 1) (n - (a + 1)) := by
  rw [show n - a = (n - (a + 1)) + 1 by omega]; rfl
theorem tgL_end {f : Nat → Int32} {a n : Nat} (h : n ≤ a) : tgL f a (n - a) = [] := by
  rw [show n - a = 0 by omega]; rfl
section MR
variable {T : Int → Bool}
theorem mr_and (x y : Bool) (vs : List Bool) (ss : List Int) : ∀ l : List Int, mr T l false (y :: x :: vs) (38 :: ss) = mr T l false ((x && y) :: vs) ss
  | [] => by
    show mfin (y :: x :: vs) (38 :: ss) = mfin _ ss
    show (if (38 : Int) = 40 then none else mfin (mapp 38 (y :: x :: vs)) ss) = _
    rw [if_neg (by decide)]; rfl
  | c :: l => by
    have e : ∀ b : Int, b ≤ 2 → mpop b (y :: x :: vs) (38 :: ss) = mpop b ((x && y) :: vs) ss := by
      intro b hb
      show (if (38 : Int) = 40 ∨ bnd 38 < b then _ else mpop b (mapp 38 (y :: x :: vs)) ss) = _
      rw [if_neg (by have : bnd 38 = 2 := rfl; omega)]; rfl
    by_cases h : c = 32
    · simp only [mr, if_pos h]; exact mr_and x y vs ss l
    · simp only [mr, Bool.false_eq_true, if_false, if_neg h, e _ (bnd_le c), e 0 (by decide)]
theorem mr_or (x y : Bool) (vs : List Bool) (ss : List Int) (l : List Int) (h1 : l.head? ≠ some 38) (h2 : l.head? ≠ some 32) : mr T l false (y :: x :: vs) (124 :: ss) = mr T l false ((x || y) :: vs) ss := by
  have e : ∀ b : Int, b ≤ 1 → mpop b (y :: x :: vs) (124 :: ss) = mpop b ((x || y) :: vs) ss := by
    intro b hb
    show (if (124 : Int) = 40 ∨ bnd 124 < b then _ else mpop b (mapp 124 (y :: x :: vs)) ss) = _
    rw [if_neg (by have : bnd 124 = 1 := rfl; omega)]; rfl
  cases l with
  | nil =>
    show (if (124 : Int) = 40 then none else mfin (mapp 124 (y :: x :: vs)) ss) = mfin _ ss
    rw [if_neg (by decide)]; rfl
  | cons c l =>
    have g1 : c ≠ 38 := fun q => h1 (by rw [q]; rfl)
    have g2 : c ≠ 32 := fun q => h2 (by rw [q]; rfl)
    by_cases g3 : c = 124
    · subst g3
      simp only [mr, Bool.false_eq_true, if_false, if_neg g2, e (bnd 124) (by decide), e 0 (by decide)]
    · by_cases g4 : c = 41
      · subst g4
        simp only [mr, Bool.false_eq_true, if_false, if_neg g2, e 0 (by decide)]
        rfl
      · have g5 : c ≠ 38 ∧ c ≠ 124 ∧ c ≠ 41 := ⟨g1, g3, g4⟩
        simp only [mr, Bool.false_eq_true, if_false, if_neg g2, if_pos g5]
def rep (k : Nat) (ss : List Int) : List Int := List.replicate k 33 ++ ss
theorem rep_s (k : Nat) (ss : List Int) : rep k (33 :: ss) = rep (k + 1) ss := by
  unfold rep
  rw [List.replicate_succ', List.append_assoc]; rfl
def flp (k : Nat) (v : Bool) : Bool := if k % 2 = 1 then !v else v
theorem mneg_rep (vs : List Bool) (ss : List Int) (h : ss.head? ≠ some 33) : ∀ (k : Nat) (v : Bool), mneg (v :: vs) (rep k ss) = (flp k v :: vs, ss)
  | 0, v => by
    show mneg (v :: vs) ss = _
    cases ss with
    | nil => rfl
    | cons c s2 =>
      show (if c = 33 then _ else _) = _
      rw [if_neg (fun q => h (by rw [q]; rfl))]; rfl
  | k + 1, v => by
    show (if (33 : Int) = 33 then mneg (mapp 33 (v :: vs)) (rep k ss) else _) = _
    rw [if_pos rfl]
    show mneg ((!v) :: vs) (rep k ss) = _
    rw [mneg_rep vs ss h k (!v)]
    unfold flp
    by_cases h2 : k % 2 = 1
    · rw [if_pos h2, if_neg (by omega)]; cases v <;> rfl
    · rw [if_neg h2, if_pos (by omega)]
/-- which signs may lie on top: level 0 where an operand comes, 1 where a row of & comes, 2 where a row of | comes -/
def tgC (lev : Nat) (ss : List Int) : Prop := ss.head? ≠ some 33 ∧ (1 ≤ lev → ss.head? ≠ some 38) ∧ (2 ≤ lev → ss.head? ≠ some 124)
def tgR (T : Int → Bool) (lev : Nat) (f : Nat → Int32) (n a a' : Nat) (v : Bool) : Prop := ∀ vs ss, tgC lev ss → mr T (tgL f a (n - a)) true vs ss = mr T (tgL f a' (n - a')) false (v :: vs) ss
def tgX (T : Int → Bool) (lev : Nat) (f : Nat → Int32) (n a : Nat) : Prop := ∀ vs ss, tgC lev ss → mr T (tgL f a (n - a)) true vs ss = none
def tgB (T : Int → Bool) (f : Nat → Int32) (n a a' k : Nat) : Prop := ∀ vs ss, mr T (tgL f a (n - a)) true vs ss = mr T (tgL f a' (n - a')) true vs (rep k ss)
variable {f : Nat → Int32} {n a b c k : Nat} {u v : Bool}
theorem tgR_up {lev lev' : Nat} (hl : lev ≤ lev') (h : tgR T lev f n a b v) : tgR T lev' f n a b v := fun vs ss hc => h vs ss ⟨hc.1, fun q => hc.2.1 (by omega), fun q => hc.2.2 (by omega)⟩
theorem tgX_up {lev lev' : Nat} (hl : lev ≤ lev') (h : tgX T lev f n a) : tgX T lev' f n a := fun vs ss hc => h vs ss ⟨hc.1, fun q => hc.2.1 (by omega), fun q => hc.2.2 (by omega)⟩
theorem tgB_0 : tgB T f n a a 0 := fun _ _ => rfl
theorem tgB_s (h : tgB T f n a b k) (hb : b < n) (hf : (f b).toInt = 33) : tgB T f n a (b + 1) (k + 1) := by
  intro vs ss
  rw [h vs ss, tgL_step hb, hf, ← rep_s]
  show (if (33 : Int) = 32 then _ else if true = true then (if (33 : Int) = 33 ∨ (33 : Int) = 40 then mr T _ true vs (33 :: rep k ss) else _) else _) = _
  rw [if_neg (by decide), if_pos rfl, if_pos (Or.inl rfl)]
  congr 1
  unfold rep
  rw [← List.cons_append, ← List.replicate_succ, List.replicate_succ', List.append_assoc]; rfl
theorem one_end {lev : Nat} (h : tgB T f n a b k) (hb : n ≤ b) : tgX T lev f n a := by
  intro vs ss _
  rw [h vs ss, tgL_end hb]; rfl
theorem one_let (h : tgB T f n a b k) (hb : b < n) (h1 : 97 ≤ (f b).toInt) (h2 : (f b).toInt ≤ 112) : tgR T 0 f n a (b + 1) (flp k (T (f b).toInt)) := by
  intro vs ss hc
  rw [h vs ss, tgL_step hb]
  simp only [mr, if_neg (show ¬ (f b).toInt = 32 by omega), if_neg (show ¬ ((f b).toInt = 33 ∨ (f b).toInt = 40) by omega), if_neg (show ¬ ((f b).toInt < 97 ∨ 112 < (f b).toInt) by omega), if_true]
  rw [mneg_rep vs ss hc.1 k (T (f b).toInt)]
theorem one_bad {lev : Nat} (h : tgB T f n a b k) (hb : b < n) (h0 : (f b).toInt ≠ 32) (h1 : (f b).toInt ≠ 33) (h2 : (f b).toInt ≠ 40) (h3 : (f b).toInt < 97 ∨ 112 < (f b).toInt) : tgX T lev f n a := by
  intro vs ss _
  rw [h vs ss, tgL_step hb]
  simp only [mr, if_neg h0, if_neg (show ¬ ((f b).toInt = 33 ∨ (f b).toInt = 40) by omega), if_pos h3, if_true]
theorem par_in (h : tgB T f n a b k) (hb : b < n) (hf : (f b).toInt = 40) (vs : List Bool) (ss : List Int) : mr T (tgL f a (n - a)) true vs ss = mr T (tgL f (b + 1) (n - (b + 1))) true vs (40 :: rep k ss) := by
  rw [h vs ss, tgL_step hb, hf]
  show (if (40 : Int) = 32 then _ else if true = true then (if (40 : Int) = 33 ∨ (40 : Int) = 40 then mr T _ true vs (40 :: rep k ss) else _) else _) = _
  rw [if_neg (by decide), if_pos rfl, if_pos (Or.inr rfl)]
theorem c40 (lev : Nat) (ss : List Int) : tgC lev (40 :: ss) := ⟨by simp, fun _ => by simp, fun _ => by simp⟩
theorem one_par (h : tgB T f n a b k) (hb : b < n) (hf : (f b).toInt = 40) (hi : tgR T 2 f n (b + 1) c v) (hc : c < n) (hg : (f c).toInt = 41) : tgR T 0 f n a (c + 1) (flp k v) := by
  intro vs ss hs
  rw [par_in h hb hf, hi vs _ (c40 2 _), tgL_step hc, hg]
  have e : mpop 0 (v :: vs) (40 :: rep k ss) = (v :: vs, 40 :: rep k ss) := by
    show (if (40 : Int) = 40 ∨ _ then _ else _) = _
    rw [if_pos (Or.inl rfl)]
  simp only [mr, if_neg (show ¬ (41 : Int) = 32 by decide), e]
  simp only [mneg_rep vs ss hs.1 k v]
  simp
theorem one_parX {lev : Nat} (h : tgB T f n a b k) (hb : b < n) (hf : (f b).toInt = 40) (hi : tgX T 2 f n (b + 1)) : tgX T lev f n a := by
  intro vs ss _
  rw [par_in h hb hf]; exact hi vs _ (c40 2 _)
theorem one_parY {lev : Nat} (h : tgB T f n a b k) (hb : b < n) (hf : (f b).toInt = 40) (hi : tgR T 2 f n (b + 1) c v) (hn : n ≤ c ∨ ((f c).toInt ≠ 41 ∧ (f c).toInt ≠ 38 ∧ (f c).toInt ≠ 124 ∧ (f c).toInt ≠ 32)) : tgX T lev f n a := by
  intro vs ss _
  rw [par_in h hb hf, hi vs _ (c40 2 _)]
  by_cases hc : n ≤ c
  · rw [tgL_end hc]; rfl
  · rcases hn with q | ⟨g1, g2, g3, g4⟩
    · exact absurd q hc
    · rw [tgL_step (by omega)]
      simp only [mr, Bool.false_eq_true, if_false, if_neg g4, if_pos (show (f c).toInt ≠ 38 ∧ (f c).toInt ≠ 124 ∧ (f c).toInt ≠ 41 from ⟨g2, g3, g1⟩)]
theorem and_in (hi : tgR T 1 f n a b u) (hb : b < n) (hf : (f b).toInt = 38) (vs : List Bool) (ss : List Int) (hc : tgC 1 ss) : mr T (tgL f a (n - a)) true vs ss = mr T (tgL f (b + 1) (n - (b + 1))) true (u :: vs) (38 :: ss) := by
  rw [hi vs ss hc, tgL_step hb, hf]
  have e : mpop (bnd 38) (u :: vs) ss = (u :: vs, ss) := by
    cases ss with
    | nil => rfl
    | cons d s2 =>
      show (if d = 40 ∨ bnd d < bnd 38 then _ else _) = _
      have g : d ≠ 38 := fun q => hc.2.1 (Nat.le_refl _) (by rw [q]; rfl)
      rw [if_pos (by
        right
        unfold bnd
        rw [if_neg g, if_pos rfl]
        split <;> omega)]
  simp only [mr, if_neg (show ¬ (38 : Int) = 32 by decide), e]
  simp
theorem c38 (ss : List Int) : tgC 0 (38 :: ss) := ⟨by simp, fun q => absurd q (by decide), fun q => absurd q (by decide)⟩
theorem c124 (ss : List Int) : tgC 1 (124 :: ss) := ⟨by simp, fun _ => by simp, fun q => absurd q (by decide)⟩
theorem all_step (hi : tgR T 1 f n a b u) (hb : b < n) (hf : (f b).toInt = 38) (hj : tgR T 0 f n (b + 1) c v) : tgR T 1 f n a c (u && v) := by
  intro vs ss hc
  rw [and_in hi hb hf vs ss hc, hj _ _ (c38 ss), mr_and]
theorem all_X (hi : tgR T 1 f n a b u) (hb : b < n) (hf : (f b).toInt = 38) (hj : tgX T 0 f n (b + 1)) : tgX T 1 f n a := by
  intro vs ss hc
  rw [and_in hi hb hf vs ss hc]; exact hj _ _ (c38 ss)
theorem or_in (hi : tgR T 2 f n a b u) (hb : b < n) (hf : (f b).toInt = 124) (vs : List Bool) (ss : List Int) (hc : tgC 2 ss) : mr T (tgL f a (n - a)) true vs ss = mr T (tgL f (b + 1) (n - (b + 1))) true (u :: vs) (124 :: ss) := by
  rw [hi vs ss hc, tgL_step hb, hf]
  have e : mpop (bnd 124) (u :: vs) ss = (u :: vs, ss) := by
    cases ss with
    | nil => rfl
    | cons d s2 =>
      show (if d = 40 ∨ bnd d < bnd 124 then _ else _) = _
      have g : d ≠ 38 := fun q => hc.2.1 (by omega) (by rw [q]; rfl)
      have g2 : d ≠ 124 := fun q => hc.2.2 (by omega) (by rw [q]; rfl)
      rw [if_pos (by
        right
        unfold bnd
        rw [if_neg g, if_neg g2, if_neg (by decide), if_pos rfl]
        decide)]
  simp only [mr, if_neg (show ¬ (124 : Int) = 32 by decide), e]
  simp
theorem any_step (hi : tgR T 2 f n a b u) (hb : b < n) (hf : (f b).toInt = 124) (hj : tgR T 1 f n (b + 1) c v) (hn : n ≤ c ∨ ((f c).toInt ≠ 38 ∧ (f c).toInt ≠ 32)) : tgR T 2 f n a c (u || v) := by
  intro vs ss hc
  rw [or_in hi hb hf vs ss hc, hj _ _ (c124 ss)]
  refine mr_or _ _ _ _ _ ?_ ?_ <;>
  · by_cases h : n ≤ c
    · rw [tgL_end h]; simp
    · rcases hn with q | q
      · exact absurd q h
      · rw [tgL_step (by omega)]
        simp only [List.head?_cons]
        intro q2
        have := Option.some.inj q2
        omega
theorem any_X (hi : tgR T 2 f n a b u) (hb : b < n) (hf : (f b).toInt = 124) (hj : tgX T 1 f n (b + 1)) : tgX T 2 f n a := by
  intro vs ss hc
  rw [or_in hi hb hf vs ss hc]; exact hj _ _ (c124 ss)
end MR
def tb (t : Int32) (c : Int) : Bool := decide (((t >>> ((Int32.ofInt c - 97) &&& 31)) &&& 1) = 1)
theorem tb_eq {t s w z1 z2 : Int32} (ew : s - 97 = w) (e1 : z1 = t >>> (w &&& 31)) (e2 : z2 = z1 &&& 1) : tb t s.toInt = decide (z2 = 1) := by
  unfold tb
  rw [Int32.ofInt_toInt, ew, ← e1, ← e2]
theorem flp_v {k : Nat} {u v w : Int} (hk : (k % 2 = 0 ∧ u = 1) ∨ (k % 2 = 1 ∧ u = 0)) (hw : w = 0 ∨ w = 1) (hv : (w = u ∧ v = 1) ∨ (w ≠ u ∧ v = 0)) : flp k (decide (w = 1)) = decide (v = 1) := by
  unfold flp
  rcases hk with ⟨h1, h2⟩ | ⟨h1, h2⟩ <;> rcases hw with h3 | h3 <;> rcases hv with ⟨h4, h5⟩ | ⟨h4, h5⟩ <;> subst h2 <;> subst h3 <;> subst h5 <;> simp [h1] at h4 ⊢
theorem tb_v {z : Int32} {w : Int} (h : (z.toInt = 1 ∧ w = 1) ∨ (z.toInt ≠ 1 ∧ w = 0)) : decide (z = 1) = decide (w = 1) := by
  rcases h with ⟨h1, h2⟩ | ⟨h1, h2⟩
  · have : z = 1 := Int32.toInt_inj.mp (by rw [h1]; rfl)
    subst h2; rw [this]; rfl
  · subst h2
    rw [decide_eq_false (fun q => h1 (by rw [q]; rfl))]; rfl
theorem nc_and {n c : Nat} {P Q : Prop} (g : n ≤ c ∨ P) (q : c < n → Q) : n ≤ c ∨ (P ∧ Q) := by
  by_cases h : n ≤ c
  · exact Or.inl h
  · exact Or.inr ⟨g.resolve_left h, q (by omega)⟩
