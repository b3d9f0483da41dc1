/-! one character read by the stacks -/
section M3
variable {T : Int → Bool} {l : List Int} {V : List Bool} {S : List Int} {c : Int}
theorem mr_blank {d : Bool} : mr T (32 :: l) d V S = mr T l d V S := by simp only [mr, if_true]
theorem mr_push (h : c = 33 ∨ c = 40) : mr T (c :: l) true V S = mr T l true V (c :: S) := by
  simp only [mr, if_neg (show ¬ c = 32 by omega), if_pos h, if_true]
theorem mr_let (h1 : 97 ≤ c) (h2 : c ≤ 112) : mr T (c :: l) true V S = mr T l false (mneg (T c :: V) S).1 (mneg (T c :: V) S).2 := by
  simp only [mr, if_neg (show ¬ c = 32 by omega), if_neg (show ¬ (c = 33 ∨ c = 40) by omega), if_neg (show ¬ (c < 97 ∨ 112 < c) by omega), if_true]
theorem mr_badT (h0 : c ≠ 32) (h1 : c ≠ 33) (h2 : c ≠ 40) (h3 : c < 97 ∨ 112 < c) : mr T (c :: l) true V S = none := by
  simp only [mr, if_neg h0, if_neg (show ¬ (c = 33 ∨ c = 40) by omega), if_pos h3, if_true]
theorem mr_op (h : c = 38 ∨ c = 124) : mr T (c :: l) false V S = mr T l true (mpop (bnd c) V S).1 (c :: (mpop (bnd c) V S).2) := by
  simp only [mr, Bool.false_eq_true, if_false, if_neg (show ¬ c = 32 by omega), if_neg (show ¬ (c ≠ 38 ∧ c ≠ 124 ∧ c ≠ 41) by omega), if_pos (show c ≠ 41 by omega)]
theorem mr_close0 (h : (mpop 0 V S).2 = []) : mr T (41 :: l) false V S = none := by
  simp only [mr, Bool.false_eq_true, if_false, if_neg (show ¬ (41 : Int) = 32 by decide), if_neg (show ¬ ((41 : Int) ≠ 38 ∧ (41 : Int) ≠ 124 ∧ (41 : Int) ≠ 41) by decide), if_neg (show ¬ ((41 : Int) ≠ 41) by decide), h]
theorem mr_close1 {d : Int} {s2 : List Int} {p : List Bool × List Int} (h : (mpop 0 V S).2 = d :: s2) (h2 : mneg (mpop 0 V S).1 s2 = p) : mr T (41 :: l) false V S = mr T l false p.1 p.2 := by
  simp only [mr, Bool.false_eq_true, if_false, if_neg (show ¬ (41 : Int) = 32 by decide), if_neg (show ¬ ((41 : Int) ≠ 38 ∧ (41 : Int) ≠ 124 ∧ (41 : Int) ≠ 41) by decide), if_neg (show ¬ ((41 : Int) ≠ 41) by decide), h, h2]
theorem mr_badF (h0 : c ≠ 32) (h1 : c ≠ 38) (h2 : c ≠ 124) (h3 : c ≠ 41) : mr T (c :: l) false V S = none := by
  simp only [mr, Bool.false_eq_true, if_false, if_neg h0, if_pos (show c ≠ 38 ∧ c ≠ 124 ∧ c ≠ 41 from ⟨h1, h2, h3⟩)]
end M3
theorem sqz_snoc (f : Nat → Int32) (a k : Nat) : sqz (tgL f a (k + 1)) = sqz (tgL f a k) ++ (if (f (a + k)).toInt = 32 then [] else [(f (a + k)).toInt]) := by
  unfold sqz
  rw [tgL_snoc, List.filter_append]
  congr 1
  by_cases h : (f (a + k)).toInt = 32
  · rw [if_pos h]; simp [h]
  · rw [if_neg h]; simp [h]
theorem stkV_len (f : Nat → Int32) : ∀ n : Nat, (stkV f n).length = n
  | 0 => rfl
  | n + 1 => by show (stkV f n).length + 1 = _; rw [stkV_len f n]
theorem stkS_len (f : Nat → Int32) : ∀ n : Nat, (stkS f n).length = n
  | 0 => rfl
  | n + 1 => by show (stkS f n).length + 1 = _; rw [stkS_len f n]
theorem nbS_len : ∀ s : List Int, nbS s ≤ s.length
  | [] => Nat.le_refl _
  | c :: s => by have := nbS_len s; have := nbS_or c s; simp only [List.length_cons]; omega
