/-! a whole tag expression -/
theorem c0 : tgC 2 [] := ⟨by simp, fun _ => by simp, fun _ => by simp⟩
theorem top_fin {T : Int → Bool} {f : Nat → Int32} {n : Nat} {v : Bool} (h : tgR T 2 f n 0 n v) : mr T (tgL f 0 n) true [] [] = some v := by
  have h1 := h [] [] c0
  rw [tgL_end (Nat.le_refl n)] at h1
  exact h1
theorem top_none {T : Int → Bool} {f : Nat → Int32} {n b : Nat} {v : Bool} (h : tgR T 2 f n 0 b v) (hb : b < n) (h1 : (f b).toInt ≠ 38) (h2 : (f b).toInt ≠ 124) (h3 : (f b).toInt ≠ 32) : mr T (tgL f 0 n) true [] [] = none := by
  have h4 := h [] [] c0
  rw [tgL_step hb] at h4
  refine h4.trans ?_
  by_cases h5 : (f b).toInt = 41
  · rw [h5]; rfl
  · simp only [mr, Bool.false_eq_true, if_false, if_neg h3, if_pos (show (f b).toInt ≠ 38 ∧ (f b).toInt ≠ 124 ∧ (f b).toInt ≠ 41 from ⟨h1, h2, h5⟩)]
theorem top_X {T : Int → Bool} {f : Nat → Int32} {n : Nat} (h : tgX T 2 f n 0) : mr T (tgL f 0 n) true [] [] = none := h [] [] c0
/-- what the text of expression j says of a row of tags -/
def tgV (i : Nat → Nat → Int32) (j : Nat) (x : Int32) : Option Bool := mr (tb x) (tgL (i (357 + 2 * j + 1)) 0 (i (357 + 2 * j) 1).toInt.toNat) true [] []
theorem mr_filter (T : Int → Bool) : ∀ (l : List Int) (due : Bool) (vs : List Bool) (ss : List Int), mr T (l.filter (fun c => decide (c ≠ 32))) due vs ss = mr T l due vs ss
  | [], _, _, _ => rfl
  | c :: l, due, vs, ss => by
    by_cases h : c = 32
    · rw [List.filter_cons_of_neg (by simp [h])]
      simp only [mr, if_pos h]
      exact mr_filter T l due vs ss
    · rw [List.filter_cons_of_pos (by simp [h])]
      simp only [mr, if_neg h, mr_filter T l]
theorem tgL_snoc (f : Nat → Int32) : ∀ (k a : Nat), tgL f a (k + 1) = tgL f a k ++ [(f (a + k)).toInt]
  | 0, a => rfl
  | k + 1, a => by
    show (f a).toInt :: tgL f (a + 1) (k + 1) = (f a).toInt :: (tgL f (a + 1) k ++ [(f (a + (k + 1))).toInt])
    rw [tgL_snoc f k (a + 1), show a + 1 + k = a + (k + 1) by omega]
theorem tgL_upd {f : Nat → Int32} {m : Nat} {v : Int32} : ∀ (k a : Nat), a + k ≤ m → tgL (upd f m v) a k = tgL f a k
  | 0, _, _ => rfl
  | k + 1, a, h => by
    show (upd f m v a).toInt :: tgL (upd f m v) (a + 1) k = _
    rw [tgL_upd k (a + 1) (by omega), upd_ne (by omega)]; rfl
theorem tgL_sq {f h : Nat → Int32} {k m : Nat} {v : Int32} (e : tgL h 0 m = (tgL f 0 k).filter (fun c => decide (c ≠ 32))) (hv : v.toInt = (f k).toInt) (h2 : (f k).toInt ≠ 32) : tgL (upd h m v) 0 (m + 1) = (tgL f 0 (k + 1)).filter (fun c => decide (c ≠ 32)) := by
  rw [tgL_snoc, tgL_snoc, List.filter_append, ← e, tgL_upd m 0 (by omega), Nat.zero_add, Nat.zero_add, upd_at, hv]
  congr 1
  simp [h2]
theorem tgL_sk {f h : Nat → Int32} {k m : Nat} (e : tgL h 0 m = (tgL f 0 k).filter (fun c => decide (c ≠ 32))) (h2 : (f k).toInt = 32) : tgL h 0 m = (tgL f 0 (k + 1)).filter (fun c => decide (c ≠ 32)) := by
  rw [tgL_snoc, List.filter_append, ← e, Nat.zero_add]
  simp [h2]
theorem mapp33_len (vs : List Bool) : (mapp 33 vs).length = vs.length := by
  cases vs with
  | nil => rfl
  | cons a r => rfl
theorem mapp_len (c : Int) (vs ws : List Bool) (h : vs.length = ws.length) : (mapp c vs).length = (mapp c ws).length := by
  match vs, ws, h with
  | [], [], _ => rfl
  | [a], [b], _ =>
    simp only [mapp]
    by_cases h3 : c = 33 <;> simp [h3]
  | a :: a2 :: r, b :: b2 :: t, h =>
    simp only [mapp]
    simp only [List.length_cons] at h
    by_cases h3 : c = 33 <;> simp [h3] <;> omega
theorem mneg_len : ∀ (ss : List Int) (vs ws : List Bool), vs.length = ws.length → (mneg vs ss).1.length = (mneg ws ss).1.length ∧ (mneg vs ss).2 = (mneg ws ss).2
  | [], _, _, h => ⟨h, rfl⟩
  | c :: ss, vs, ws, h => by
    unfold mneg
    split
    · exact mneg_len ss _ _ (mapp_len 33 vs ws h)
    · exact ⟨h, rfl⟩
theorem mpop_len (b : Int) : ∀ (ss : List Int) (vs ws : List Bool), vs.length = ws.length → (mpop b vs ss).1.length = (mpop b ws ss).1.length ∧ (mpop b vs ss).2 = (mpop b ws ss).2
  | [], _, _, h => ⟨h, rfl⟩
  | c :: ss, vs, ws, h => by
    unfold mpop
    split
    · exact ⟨h, rfl⟩
    · exact mpop_len b ss _ _ (mapp_len c vs ws h)
theorem mfin_len : ∀ (ss : List Int) (vs ws : List Bool), vs.length = ws.length → (mfin vs ss = none ↔ mfin ws ss = none)
  | [], vs, ws, h => by
    show vs.head? = none ↔ ws.head? = none
    rw [List.head?_eq_none_iff, List.head?_eq_none_iff]
    constructor
    · intro q; rw [q] at h; exact List.eq_nil_of_length_eq_zero h.symm
    · intro q; rw [q] at h; exact List.eq_nil_of_length_eq_zero h
  | c :: ss, vs, ws, h => by
    unfold mfin
    split
    · exact Iff.rfl
    · exact mfin_len ss _ _ (mapp_len c vs ws h)
/-- whether a text is a tag expression does not hang on the tags -/
theorem mr_len (T T' : Int → Bool) : ∀ (l : List Int) (due : Bool) (vs ws : List Bool) (ss : List Int), vs.length = ws.length → (mr T l due vs ss = none ↔ mr T' l due ws ss = none)
  | [], due, vs, ws, ss, h => by
    unfold mr
    split
    · exact Iff.rfl
    · exact mfin_len ss vs ws h
  | c :: l, due, vs, ws, ss, h => by
    unfold mr
    split
    · exact mr_len T T' l due vs ws ss h
    · split
      · split
        · exact mr_len T T' l true vs ws _ h
        · split
          · exact Iff.rfl
          · have e := mneg_len ss (T c :: vs) (T' c :: ws) (by simp [h])
            rw [e.2]
            exact mr_len T T' l false _ _ _ e.1
      · split
        · exact Iff.rfl
        · split
          · have e := mpop_len (bnd c) ss vs ws h
            rw [e.2]
            exact mr_len T T' l true _ _ _ e.1
          · have e := mpop_len 0 ss vs ws h
            rw [e.2]
            split
            · exact Iff.rfl
            · rename_i s2 _
              have e2 := mneg_len s2 _ _ e.1
              rw [e2.2]
              exact mr_len T T' l false _ _ _ e2.1
theorem tgV_none (i : Nat → Nat → Int32) (j : Nat) (x y : Int32) : tgV i j x = none ↔ tgV i j y = none := mr_len _ _ _ _ _ _ _ rfl
def tgQ (n : Int) (Q : Prop) : Prop := n ≠ 0 → Q
theorem tgV_fr {i u : Nat → Nat → Int32} {j : Nat} {x : Int32} (h1 : u (357 + 2 * j + 1) = i (357 + 2 * j + 1)) (h2 : (u (357 + 2 * j) 1).toInt = (i (357 + 2 * j) 1).toInt) : tgV u j x = tgV i j x := by unfold tgV; rw [h1, h2]
/-- the characters of the text of s; those of an expression without blanks -/
def sqz (l : List Int) : List Int := l.filter (fun c => decide (c ≠ 32))
