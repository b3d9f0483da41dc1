def cnc (f : Nat → Int32) : Nat → Nat
  | 0 => 0
  | n + 1 => cnc f n + (if f n = 47 then 0 else 1)
theorem cnc_upd {f : Nat → Int32} {k : Nat} {v : Int32} : ∀ n : Nat, n ≤ k → cnc (upd f k v) n = cnc f n
  | 0, _ => rfl
  | n + 1, h => by
    show cnc (upd f k v) n + _ = cnc f n + _
    rw [cnc_upd n (by omega)]
    unfold upd
    rw [if_neg (show ¬ n = k by omega)]
theorem cnc_le {f : Nat → Int32} {k : Nat} {v : Int32} : cnc (upd f k v) (k + 1) ≤ cnc f k + 1 := by
  show cnc (upd f k v) k + _ ≤ _
  rw [cnc_upd k (Nat.le_refl k)]
  split <;> omega
theorem cnc_or (f : Nat → Int32) (n : Nat) : ((f n).toInt = 47 ∧ cnc f (n + 1) = cnc f n) ∨ ((f n).toInt ≠ 47 ∧ cnc f (n + 1) = cnc f n + 1) := by
  by_cases h : f n = 47
  · refine Or.inl ⟨by rw [h]; rfl, ?_⟩
    show cnc f n + (if f n = 47 then 0 else 1) = _
    rw [if_pos h]; rfl
  · refine Or.inr ⟨fun q => h (Int32.toInt_inj.mp (by rw [q]; rfl)), ?_⟩
    show cnc f n + (if f n = 47 then 0 else 1) = _
    rw [if_neg h]
theorem cnc_mono (f : Nat → Int32) {n : Nat} : ∀ {m : Nat}, n ≤ m → cnc f n ≤ cnc f m := by
  intro m h
  induction h with
  | refl => exact Nat.le_refl _
  | step _ ih => exact Nat.le_trans ih (Nat.le_add_right _ _)
theorem cnc_47 {f : Nat → Int32} {k : Nat} : cnc (upd f k 47) (k + 1) = cnc f k := by
  show cnc (upd f k 47) k + _ = _
  rw [cnc_upd k (Nat.le_refl k)]
  unfold upd
  rw [if_pos rfl, if_pos rfl]; rfl
theorem up2_r (i : Nat → Nat → Int32) (n k : Nat) (v : Int32) : up2 i n k v n = upd (i n) k v := by unfold up2; exact va_up_self _ _ _
/-- where the choice that is being taken ends and begins; how many elements are parameters -/
def kC (i : Nat → Nat → Int32) (j : Nat) : Int := (i (240 + 9 * j + 2) ((i (240 + 9 * j) 2).toInt + 1).toNat).toInt
def kB (i : Nat → Nat → Int32) (j : Nat) : Int := (i (240 + 9 * j + 2) ((i (240 + 9 * j) 2).toInt).toNat).toInt
def cn (i : Nat → Nat → Int32) (j : Nat) : Nat := cnc (i (240 + 9 * j + 3)) (i (240 + 9 * j) 5).toInt.toNat
/-- the choices that were taken follow one another; an element's choices are among them -/
def mono (i : Nat → Nat → Int32) (j : Nat) : Prop := (∀ c : Nat, (c : Int) < (i (240 + 9 * j) 2).toInt → (i (240 + 9 * j + 2) c).toInt ≤ (i (240 + 9 * j + 2) (c + 1)).toInt) ∧ (∀ e : Nat, 1 ≤ e → (e : Int) ≤ (i (240 + 9 * j) 5).toInt → (i (240 + 9 * j + 4) e).toInt ≤ (i (240 + 9 * j) 2).toInt)
theorem upd_ne {f : Nat → Int32} {k m : Nat} {v : Int32} (h : m ≠ k) : upd f k v m = f m := if_neg h
theorem upd_at {f : Nat → Int32} {k : Nat} {v : Int32} : upd f k v k = v := if_pos rfl
theorem mono_add {i u : Nat → Nat → Int32} {j k : Nat} {z : Int32} (h : mono i j) (r2 : u (240 + 9 * j + 2) = upd (i (240 + 9 * j + 2)) k z) (hk : k = ((i (240 + 9 * j) 2).toInt + 1).toNat) (r4 : u (240 + 9 * j + 4) = i (240 + 9 * j + 4)) (e2 : (u (240 + 9 * j) 2).toInt = (i (240 + 9 * j) 2).toInt) (e5 : (u (240 + 9 * j) 5).toInt = (i (240 + 9 * j) 5).toInt) : mono u j := by
  refine ⟨fun c hc => ?_, fun e h1 h2 => ?_⟩
  · rw [r2, upd_ne (by omega), upd_ne (by omega)]; exact h.1 c (by omega)
  · rw [r4, e2]; exact h.2 e h1 (by omega)
theorem mono_choice {i u : Nat → Nat → Int32} {j k : Nat} {z : Int32} (h : mono i j) (hb : kB i j ≤ kC i j) (h0 : 0 ≤ (i (240 + 9 * j) 2).toInt) (r2 : u (240 + 9 * j + 2) = upd (i (240 + 9 * j + 2)) k z) (hk : k = ((i (240 + 9 * j) 2).toInt + 2).toNat) (r4 : u (240 + 9 * j + 4) = i (240 + 9 * j + 4)) (e2 : (u (240 + 9 * j) 2).toInt = (i (240 + 9 * j) 2).toInt + 1) (e5 : (u (240 + 9 * j) 5).toInt = (i (240 + 9 * j) 5).toInt) : mono u j := by
  refine ⟨fun c hc => ?_, fun e h1 h2 => ?_⟩
  · rw [r2, upd_ne (by omega), upd_ne (by omega)]
    by_cases h9 : (c : Int) < (i (240 + 9 * j) 2).toInt
    · exact h.1 c h9
    · have e1 : c = ((i (240 + 9 * j) 2).toInt).toNat := by omega
      have e3 : c + 1 = ((i (240 + 9 * j) 2).toInt + 1).toNat := by omega
      rw [e3, e1]; exact hb
  · rw [r4, e2]
    have h8 := h.2 e h1 (by omega)
    omega
theorem mono_same {i u : Nat → Nat → Int32} {j : Nat} (h : mono i j) (r2 : u (240 + 9 * j + 2) = i (240 + 9 * j + 2)) (r4 : u (240 + 9 * j + 4) = i (240 + 9 * j + 4)) (e2 : (u (240 + 9 * j) 2).toInt = (i (240 + 9 * j) 2).toInt) (e5 : (u (240 + 9 * j) 5).toInt = (i (240 + 9 * j) 5).toInt) : mono u j := by
  refine ⟨fun c hc => ?_, fun e h1 h2 => ?_⟩
  · rw [r2]; exact h.1 c (by omega)
  · rw [r4, e2]; exact h.2 e h1 (by omega)
theorem mono_elem {i u : Nat → Nat → Int32} {j k : Nat} (h : mono i j) (h0 : 0 ≤ (i (240 + 9 * j) 5).toInt) (r2 : u (240 + 9 * j + 2) = i (240 + 9 * j + 2)) (r4 : u (240 + 9 * j + 4) = upd (i (240 + 9 * j + 4)) k (i (240 + 9 * j) 2)) (hk : k = ((i (240 + 9 * j) 5).toInt + 1).toNat) (e2 : (u (240 + 9 * j) 2).toInt = (i (240 + 9 * j) 2).toInt) (e5 : (u (240 + 9 * j) 5).toInt = (i (240 + 9 * j) 5).toInt + 1) : mono u j := by
  refine ⟨fun c hc => ?_, fun e h1 h2 => ?_⟩
  · rw [r2]; exact h.1 c (by omega)
  · rw [r4, e2]
    by_cases h9 : e = k
    · subst h9; rw [upd_at]; exact Int.le_refl _
    · rw [upd_ne h9]; exact h.2 e h1 (by omega)
/-- a text is being taken and x characters of it are done with -/
def exT (i : Nat → Nat → Int32) (j : Nat) (x : Int) : Prop := (i (240 + 9 * j) 2).toInt ≤ x ∧ (i (240 + 9 * j) 5).toInt ≤ x ∧ kC i j ≤ x ∧ kB i j = kC i j ∧ (cn i j : Int) ≤ (i (240 + 9 * j) 6).toInt ∧ (i (240 + 9 * j + 2) 0).toInt = 0 ∧ mono i j
theorem dX2_endsWord_0 : decode cX2_endsWord 0 = .ok (.iload_n 1, 1) := by decide +kernel
theorem dX2_endsWord_1 : decode cX2_endsWord 1 = .ok (.bipush 123, 2) := by decide +kernel
theorem dX2_endsWord_3 : decode cX2_endsWord 3 = .ok (.if_icmp .eq 27, 3) := by decide +kernel
theorem dX2_endsWord_30 : decode cX2_endsWord 30 = .ok (.iconst 1, 1) := by decide +kernel
theorem dX2_endsWord_31 : decode cX2_endsWord 31 = .ok (.goto 4, 3) := by decide +kernel
theorem dX2_endsWord_35 : decode cX2_endsWord 35 = .ok (.ireturn, 1) := by decide +kernel
theorem dX2_endsWord_6 : decode cX2_endsWord 6 = .ok (.iload_n 1, 1) := by decide +kernel
theorem dX2_endsWord_7 : decode cX2_endsWord 7 = .ok (.bipush 125, 2) := by decide +kernel
theorem dX2_endsWord_9 : decode cX2_endsWord 9 = .ok (.if_icmp .eq 21, 3) := by decide +kernel
theorem dX2_endsWord_12 : decode cX2_endsWord 12 = .ok (.iload_n 1, 1) := by decide +kernel
theorem dX2_endsWord_13 : decode cX2_endsWord 13 = .ok (.bipush 40, 2) := by decide +kernel
theorem dX2_endsWord_15 : decode cX2_endsWord 15 = .ok (.if_icmp .eq 15, 3) := by decide +kernel
theorem dX2_endsWord_18 : decode cX2_endsWord 18 = .ok (.iload_n 1, 1) := by decide +kernel
theorem dX2_endsWord_19 : decode cX2_endsWord 19 = .ok (.bipush 41, 2) := by decide +kernel
theorem dX2_endsWord_21 : decode cX2_endsWord 21 = .ok (.if_icmp .eq 9, 3) := by decide +kernel
theorem dX2_endsWord_24 : decode cX2_endsWord 24 = .ok (.iload_n 1, 1) := by decide +kernel
theorem dX2_endsWord_25 : decode cX2_endsWord 25 = .ok (.bipush 32, 2) := by decide +kernel
theorem dX2_endsWord_27 : decode cX2_endsWord 27 = .ok (.if_icmp .ne 7, 3) := by decide +kernel
theorem dX2_endsWord_34 : decode cX2_endsWord 34 = .ok (.iconst 0, 1) := by decide +kernel
theorem dX2_choiceLength_0 : decode cX2_choiceLength 0 = .ok (.aload_n 0, 1) := by decide +kernel
theorem dX2_choiceLength_1 : decode cX2_choiceLength 1 = .ok (.getfield 15, 3) := by decide +kernel
theorem dX2_choiceLength_4 : decode cX2_choiceLength 4 = .ok (.iload_n 1, 1) := by decide +kernel
theorem dX2_choiceLength_5 : decode cX2_choiceLength 5 = .ok (.iconst 1, 1) := by decide +kernel
theorem dX2_choiceLength_6 : decode cX2_choiceLength 6 = .ok (.iadd, 1) := by decide +kernel
theorem dX2_choiceLength_7 : decode cX2_choiceLength 7 = .ok (.iaload, 1) := by decide +kernel
theorem dX2_choiceLength_8 : decode cX2_choiceLength 8 = .ok (.aload_n 0, 1) := by decide +kernel
theorem dX2_choiceLength_9 : decode cX2_choiceLength 9 = .ok (.getfield 15, 3) := by decide +kernel
theorem dX2_choiceLength_12 : decode cX2_choiceLength 12 = .ok (.iload_n 1, 1) := by decide +kernel
theorem dX2_choiceLength_13 : decode cX2_choiceLength 13 = .ok (.iaload, 1) := by decide +kernel
theorem dX2_choiceLength_14 : decode cX2_choiceLength 14 = .ok (.isub, 1) := by decide +kernel
theorem dX2_choiceLength_15 : decode cX2_choiceLength 15 = .ok (.ireturn, 1) := by decide +kernel
theorem dX2_addChar_0 : decode cX2_addChar 0 = .ok (.aload_n 0, 1) := by decide +kernel
theorem dX2_addChar_1 : decode cX2_addChar 1 = .ok (.getfield 11, 3) := by decide +kernel
theorem dX2_addChar_4 : decode cX2_addChar 4 = .ok (.aload_n 0, 1) := by decide +kernel
theorem dX2_addChar_5 : decode cX2_addChar 5 = .ok (.getfield 15, 3) := by decide +kernel
theorem dX2_addChar_8 : decode cX2_addChar 8 = .ok (.aload_n 0, 1) := by decide +kernel
theorem dX2_addChar_9 : decode cX2_addChar 9 = .ok (.getfield 42, 3) := by decide +kernel
theorem dX2_addChar_12 : decode cX2_addChar 12 = .ok (.iconst 1, 1) := by decide +kernel
theorem dX2_addChar_13 : decode cX2_addChar 13 = .ok (.iadd, 1) := by decide +kernel
theorem dX2_addChar_14 : decode cX2_addChar 14 = .ok (.iaload, 1) := by decide +kernel
theorem dX2_addChar_15 : decode cX2_addChar 15 = .ok (.iload_n 1, 1) := by decide +kernel
theorem dX2_addChar_16 : decode cX2_addChar 16 = .ok (.castore, 1) := by decide +kernel
theorem dX2_addChar_17 : decode cX2_addChar 17 = .ok (.aload_n 0, 1) := by decide +kernel
theorem dX2_addChar_18 : decode cX2_addChar 18 = .ok (.getfield 15, 3) := by decide +kernel
theorem dX2_addChar_21 : decode cX2_addChar 21 = .ok (.aload_n 0, 1) := by decide +kernel
theorem dX2_addChar_22 : decode cX2_addChar 22 = .ok (.getfield 42, 3) := by decide +kernel
theorem dX2_addChar_25 : decode cX2_addChar 25 = .ok (.iconst 1, 1) := by decide +kernel
theorem dX2_addChar_26 : decode cX2_addChar 26 = .ok (.iadd, 1) := by decide +kernel
theorem dX2_addChar_27 : decode cX2_addChar 27 = .ok (.dup2, 1) := by decide +kernel
theorem dX2_addChar_28 : decode cX2_addChar 28 = .ok (.iaload, 1) := by decide +kernel
theorem dX2_addChar_29 : decode cX2_addChar 29 = .ok (.iconst 1, 1) := by decide +kernel
theorem dX2_addChar_30 : decode cX2_addChar 30 = .ok (.iadd, 1) := by decide +kernel
theorem dX2_addChar_31 : decode cX2_addChar 31 = .ok (.iastore, 1) := by decide +kernel
theorem dX2_addChar_32 : decode cX2_addChar 32 = .ok (.return_, 1) := by decide +kernel
theorem dX2_endChoice_0 : decode cX2_endChoice 0 = .ok (.aload_n 0, 1) := by decide +kernel
theorem dX2_endChoice_1 : decode cX2_endChoice 1 = .ok (.dup, 1) := by decide +kernel
theorem dX2_endChoice_2 : decode cX2_endChoice 2 = .ok (.getfield 42, 3) := by decide +kernel
theorem dX2_endChoice_5 : decode cX2_endChoice 5 = .ok (.iconst 1, 1) := by decide +kernel
theorem dX2_endChoice_6 : decode cX2_endChoice 6 = .ok (.iadd, 1) := by decide +kernel
theorem dX2_endChoice_7 : decode cX2_endChoice 7 = .ok (.putfield 42, 3) := by decide +kernel
theorem dX2_endChoice_10 : decode cX2_endChoice 10 = .ok (.aload_n 0, 1) := by decide +kernel
theorem dX2_endChoice_11 : decode cX2_endChoice 11 = .ok (.getfield 15, 3) := by decide +kernel
theorem dX2_endChoice_14 : decode cX2_endChoice 14 = .ok (.aload_n 0, 1) := by decide +kernel
theorem dX2_endChoice_15 : decode cX2_endChoice 15 = .ok (.getfield 42, 3) := by decide +kernel
theorem dX2_endChoice_18 : decode cX2_endChoice 18 = .ok (.iconst 1, 1) := by decide +kernel
theorem dX2_endChoice_19 : decode cX2_endChoice 19 = .ok (.iadd, 1) := by decide +kernel
theorem dX2_endChoice_20 : decode cX2_endChoice 20 = .ok (.aload_n 0, 1) := by decide +kernel
theorem dX2_endChoice_21 : decode cX2_endChoice 21 = .ok (.getfield 15, 3) := by decide +kernel
theorem dX2_endChoice_24 : decode cX2_endChoice 24 = .ok (.aload_n 0, 1) := by decide +kernel
theorem dX2_endChoice_25 : decode cX2_endChoice 25 = .ok (.getfield 42, 3) := by decide +kernel
theorem dX2_endChoice_28 : decode cX2_endChoice 28 = .ok (.iaload, 1) := by decide +kernel
theorem dX2_endChoice_29 : decode cX2_endChoice 29 = .ok (.iastore, 1) := by decide +kernel
theorem dX2_endChoice_30 : decode cX2_endChoice 30 = .ok (.return_, 1) := by decide +kernel
theorem dX2_endElement_0 : decode cX2_endElement 0 = .ok (.aload_n 0, 1) := by decide +kernel
theorem dX2_endElement_1 : decode cX2_endElement 1 = .ok (.getfield 19, 3) := by decide +kernel
theorem dX2_endElement_4 : decode cX2_endElement 4 = .ok (.aload_n 0, 1) := by decide +kernel
theorem dX2_endElement_5 : decode cX2_endElement 5 = .ok (.getfield 38, 3) := by decide +kernel
theorem dX2_endElement_8 : decode cX2_endElement 8 = .ok (.iload_n 1, 1) := by decide +kernel
theorem dX2_endElement_9 : decode cX2_endElement 9 = .ok (.castore, 1) := by decide +kernel
theorem dX2_endElement_10 : decode cX2_endElement 10 = .ok (.aload_n 0, 1) := by decide +kernel
theorem dX2_endElement_11 : decode cX2_endElement 11 = .ok (.dup, 1) := by decide +kernel
theorem dX2_endElement_12 : decode cX2_endElement 12 = .ok (.getfield 38, 3) := by decide +kernel
theorem dX2_endElement_15 : decode cX2_endElement 15 = .ok (.iconst 1, 1) := by decide +kernel
theorem dX2_endElement_16 : decode cX2_endElement 16 = .ok (.iadd, 1) := by decide +kernel
theorem dX2_endElement_17 : decode cX2_endElement 17 = .ok (.putfield 38, 3) := by decide +kernel
theorem dX2_endElement_20 : decode cX2_endElement 20 = .ok (.aload_n 0, 1) := by decide +kernel
theorem dX2_endElement_21 : decode cX2_endElement 21 = .ok (.getfield 22, 3) := by decide +kernel
theorem dX2_endElement_24 : decode cX2_endElement 24 = .ok (.aload_n 0, 1) := by decide +kernel
theorem dX2_endElement_25 : decode cX2_endElement 25 = .ok (.getfield 38, 3) := by decide +kernel
theorem dX2_endElement_28 : decode cX2_endElement 28 = .ok (.aload_n 0, 1) := by decide +kernel
theorem dX2_endElement_29 : decode cX2_endElement 29 = .ok (.getfield 42, 3) := by decide +kernel
theorem dX2_endElement_32 : decode cX2_endElement 32 = .ok (.iastore, 1) := by decide +kernel
theorem dX2_endElement_33 : decode cX2_endElement 33 = .ok (.return_, 1) := by decide +kernel
theorem dX2_takeOptional_0 : decode cX2_takeOptional 0 = .ok (.iload_n 2, 1) := by decide +kernel
theorem dX2_takeOptional_1 : decode cX2_takeOptional 1 = .ok (.iconst 1, 1) := by decide +kernel
theorem dX2_takeOptional_2 : decode cX2_takeOptional 2 = .ok (.iadd, 1) := by decide +kernel
theorem dX2_takeOptional_3 : decode cX2_takeOptional 3 = .ok (.istore_n 3, 1) := by decide +kernel
theorem dX2_takeOptional_4 : decode cX2_takeOptional 4 = .ok (.iload_n 3, 1) := by decide +kernel
theorem dX2_takeOptional_5 : decode cX2_takeOptional 5 = .ok (.aload_n 1, 1) := by decide +kernel
theorem dX2_takeOptional_6 : decode cX2_takeOptional 6 = .ok (.getfield 48, 3) := by decide +kernel
theorem dX2_takeOptional_9 : decode cX2_takeOptional 9 = .ok (.if_icmp .ge 52, 3) := by decide +kernel
theorem dX2_takeOptional_61 : decode cX2_takeOptional 61 = .ok (.iload_n 3, 1) := by decide +kernel
theorem dX2_takeOptional_62 : decode cX2_takeOptional 62 = .ok (.aload_n 1, 1) := by decide +kernel
theorem dX2_takeOptional_63 : decode cX2_takeOptional 63 = .ok (.getfield 48, 3) := by decide +kernel
theorem dX2_takeOptional_66 : decode cX2_takeOptional 66 = .ok (.if_icmp .ge 14, 3) := by decide +kernel
theorem dX2_takeOptional_80 : decode cX2_takeOptional 80 = .ok (.iconst (-1), 1) := by decide +kernel
theorem dX2_takeOptional_81 : decode cX2_takeOptional 81 = .ok (.ireturn, 1) := by decide +kernel
theorem dX2_takeOptional_69 : decode cX2_takeOptional 69 = .ok (.aload_n 0, 1) := by decide +kernel
theorem dX2_takeOptional_70 : decode cX2_takeOptional 70 = .ok (.aload_n 0, 1) := by decide +kernel
theorem dX2_takeOptional_71 : decode cX2_takeOptional 71 = .ok (.getfield 42, 3) := by decide +kernel
theorem dX2_takeOptional_74 : decode cX2_takeOptional 74 = .ok (.invokevirtual 88, 3) := by decide +kernel
theorem dX2_takeOptional_77 : decode cX2_takeOptional 77 = .ok (.ifCond .ne 5, 3) := by decide +kernel
theorem dX2_takeOptional_82 : decode cX2_takeOptional 82 = .ok (.aload_n 0, 1) := by decide +kernel
theorem dX2_takeOptional_83 : decode cX2_takeOptional 83 = .ok (.invokevirtual 68, 3) := by decide +kernel
theorem dX2_takeOptional_86 : decode cX2_takeOptional 86 = .ok (.aload_n 0, 1) := by decide +kernel
theorem dX2_takeOptional_87 : decode cX2_takeOptional 87 = .ok (.invokevirtual 68, 3) := by decide +kernel
theorem dX2_takeOptional_90 : decode cX2_takeOptional 90 = .ok (.aload_n 0, 1) := by decide +kernel
theorem dX2_takeOptional_91 : decode cX2_takeOptional 91 = .ok (.bipush 47, 2) := by decide +kernel
theorem dX2_takeOptional_93 : decode cX2_takeOptional 93 = .ok (.invokevirtual 71, 3) := by decide +kernel
theorem dX2_takeOptional_96 : decode cX2_takeOptional 96 = .ok (.iload_n 3, 1) := by decide +kernel
theorem dX2_takeOptional_97 : decode cX2_takeOptional 97 = .ok (.iconst 1, 1) := by decide +kernel
theorem dX2_takeOptional_98 : decode cX2_takeOptional 98 = .ok (.iadd, 1) := by decide +kernel
theorem dX2_takeOptional_99 : decode cX2_takeOptional 99 = .ok (.ireturn, 1) := by decide +kernel
theorem dX2_takeOptional_12 : decode cX2_takeOptional 12 = .ok (.aload_n 1, 1) := by decide +kernel
theorem dX2_takeOptional_13 : decode cX2_takeOptional 13 = .ok (.iload_n 3, 1) := by decide +kernel
theorem dX2_takeOptional_14 : decode cX2_takeOptional 14 = .ok (.invokevirtual 77, 3) := by decide +kernel
theorem dX2_takeOptional_17 : decode cX2_takeOptional 17 = .ok (.bipush 41, 2) := by decide +kernel
theorem dX2_takeOptional_19 : decode cX2_takeOptional 19 = .ok (.if_icmp .eq 42, 3) := by decide +kernel
theorem dX2_takeOptional_22 : decode cX2_takeOptional 22 = .ok (.aload_n 1, 1) := by decide +kernel
theorem dX2_takeOptional_23 : decode cX2_takeOptional 23 = .ok (.iload_n 3, 1) := by decide +kernel
theorem dX2_takeOptional_24 : decode cX2_takeOptional 24 = .ok (.invokevirtual 77, 3) := by decide +kernel
theorem dX2_takeOptional_27 : decode cX2_takeOptional 27 = .ok (.bipush 92, 2) := by decide +kernel
theorem dX2_takeOptional_29 : decode cX2_takeOptional 29 = .ok (.if_icmp .ne 6, 3) := by decide +kernel
theorem dX2_takeOptional_35 : decode cX2_takeOptional 35 = .ok (.iload_n 3, 1) := by decide +kernel
theorem dX2_takeOptional_36 : decode cX2_takeOptional 36 = .ok (.aload_n 1, 1) := by decide +kernel
theorem dX2_takeOptional_37 : decode cX2_takeOptional 37 = .ok (.getfield 48, 3) := by decide +kernel
theorem dX2_takeOptional_40 : decode cX2_takeOptional 40 = .ok (.if_icmp .lt 5, 3) := by decide +kernel
theorem dX2_takeOptional_45 : decode cX2_takeOptional 45 = .ok (.aload_n 0, 1) := by decide +kernel
theorem dX2_takeOptional_46 : decode cX2_takeOptional 46 = .ok (.aload_n 1, 1) := by decide +kernel
theorem dX2_takeOptional_47 : decode cX2_takeOptional 47 = .ok (.getfield 57, 3) := by decide +kernel
theorem dX2_takeOptional_50 : decode cX2_takeOptional 50 = .ok (.iload_n 3, 1) := by decide +kernel
theorem dX2_takeOptional_51 : decode cX2_takeOptional 51 = .ok (.caload, 1) := by decide +kernel
theorem dX2_takeOptional_52 : decode cX2_takeOptional 52 = .ok (.invokevirtual 64, 3) := by decide +kernel
theorem dX2_takeOptional_55 : decode cX2_takeOptional 55 = .ok (.iinc 3 1, 3) := by decide +kernel
theorem dX2_takeOptional_58 : decode cX2_takeOptional 58 = .ok (.goto (-54), 3) := by decide +kernel
theorem dX2_takeOptional_43 : decode cX2_takeOptional 43 = .ok (.iconst (-1), 1) := by decide +kernel
theorem dX2_takeOptional_44 : decode cX2_takeOptional 44 = .ok (.ireturn, 1) := by decide +kernel
theorem dX2_takeOptional_32 : decode cX2_takeOptional 32 = .ok (.iinc 3 1, 3) := by decide +kernel
theorem dX2_takeWord_0 : decode cX2_takeWord 0 = .ok (.iload_n 2, 1) := by decide +kernel
theorem dX2_takeWord_1 : decode cX2_takeWord 1 = .ok (.istore_n 3, 1) := by decide +kernel
theorem dX2_takeWord_2 : decode cX2_takeWord 2 = .ok (.iload_n 3, 1) := by decide +kernel
theorem dX2_takeWord_3 : decode cX2_takeWord 3 = .ok (.aload_n 1, 1) := by decide +kernel
theorem dX2_takeWord_4 : decode cX2_takeWord 4 = .ok (.getfield 48, 3) := by decide +kernel
theorem dX2_takeWord_7 : decode cX2_takeWord 7 = .ok (.if_icmp .ge 85, 3) := by decide +kernel
theorem dX2_takeWord_92 : decode cX2_takeWord 92 = .ok (.aload_n 0, 1) := by decide +kernel
theorem dX2_takeWord_93 : decode cX2_takeWord 93 = .ok (.aload_n 0, 1) := by decide +kernel
theorem dX2_takeWord_94 : decode cX2_takeWord 94 = .ok (.getfield 42, 3) := by decide +kernel
theorem dX2_takeWord_97 : decode cX2_takeWord 97 = .ok (.invokevirtual 88, 3) := by decide +kernel
theorem dX2_takeWord_100 : decode cX2_takeWord 100 = .ok (.ifCond .ne 5, 3) := by decide +kernel
theorem dX2_takeWord_105 : decode cX2_takeWord 105 = .ok (.aload_n 0, 1) := by decide +kernel
theorem dX2_takeWord_106 : decode cX2_takeWord 106 = .ok (.invokevirtual 68, 3) := by decide +kernel
theorem dX2_takeWord_109 : decode cX2_takeWord 109 = .ok (.aload_n 0, 1) := by decide +kernel
theorem dX2_takeWord_110 : decode cX2_takeWord 110 = .ok (.bipush 47, 2) := by decide +kernel
theorem dX2_takeWord_112 : decode cX2_takeWord 112 = .ok (.invokevirtual 71, 3) := by decide +kernel
theorem dX2_takeWord_115 : decode cX2_takeWord 115 = .ok (.iload_n 3, 1) := by decide +kernel
theorem dX2_takeWord_116 : decode cX2_takeWord 116 = .ok (.ireturn, 1) := by decide +kernel
theorem dX2_takeWord_103 : decode cX2_takeWord 103 = .ok (.iconst (-1), 1) := by decide +kernel
theorem dX2_takeWord_104 : decode cX2_takeWord 104 = .ok (.ireturn, 1) := by decide +kernel
theorem dX2_takeWord_10 : decode cX2_takeWord 10 = .ok (.aload_n 0, 1) := by decide +kernel
theorem dX2_takeWord_11 : decode cX2_takeWord 11 = .ok (.aload_n 1, 1) := by decide +kernel
theorem dX2_takeWord_12 : decode cX2_takeWord 12 = .ok (.getfield 57, 3) := by decide +kernel
theorem dX2_takeWord_15 : decode cX2_takeWord 15 = .ok (.iload_n 3, 1) := by decide +kernel
theorem dX2_takeWord_16 : decode cX2_takeWord 16 = .ok (.caload, 1) := by decide +kernel
theorem dX2_takeWord_17 : decode cX2_takeWord 17 = .ok (.invokevirtual 91, 3) := by decide +kernel
theorem dX2_takeWord_20 : decode cX2_takeWord 20 = .ok (.ifCond .ne 72, 3) := by decide +kernel
theorem dX2_takeWord_23 : decode cX2_takeWord 23 = .ok (.aload_n 1, 1) := by decide +kernel
theorem dX2_takeWord_24 : decode cX2_takeWord 24 = .ok (.iload_n 3, 1) := by decide +kernel
theorem dX2_takeWord_25 : decode cX2_takeWord 25 = .ok (.invokevirtual 77, 3) := by decide +kernel
theorem dX2_takeWord_28 : decode cX2_takeWord 28 = .ok (.bipush 47, 2) := by decide +kernel
theorem dX2_takeWord_30 : decode cX2_takeWord 30 = .ok (.if_icmp .ne 23, 3) := by decide +kernel
theorem dX2_takeWord_53 : decode cX2_takeWord 53 = .ok (.aload_n 1, 1) := by decide +kernel
theorem dX2_takeWord_54 : decode cX2_takeWord 54 = .ok (.iload_n 3, 1) := by decide +kernel
theorem dX2_takeWord_55 : decode cX2_takeWord 55 = .ok (.invokevirtual 77, 3) := by decide +kernel
theorem dX2_takeWord_58 : decode cX2_takeWord 58 = .ok (.bipush 92, 2) := by decide +kernel
theorem dX2_takeWord_60 : decode cX2_takeWord 60 = .ok (.if_icmp .ne 6, 3) := by decide +kernel
theorem dX2_takeWord_66 : decode cX2_takeWord 66 = .ok (.iload_n 3, 1) := by decide +kernel
theorem dX2_takeWord_67 : decode cX2_takeWord 67 = .ok (.aload_n 1, 1) := by decide +kernel
theorem dX2_takeWord_68 : decode cX2_takeWord 68 = .ok (.getfield 48, 3) := by decide +kernel
theorem dX2_takeWord_71 : decode cX2_takeWord 71 = .ok (.if_icmp .lt 5, 3) := by decide +kernel
theorem dX2_takeWord_76 : decode cX2_takeWord 76 = .ok (.aload_n 0, 1) := by decide +kernel
theorem dX2_takeWord_77 : decode cX2_takeWord 77 = .ok (.aload_n 1, 1) := by decide +kernel
theorem dX2_takeWord_78 : decode cX2_takeWord 78 = .ok (.getfield 57, 3) := by decide +kernel
theorem dX2_takeWord_81 : decode cX2_takeWord 81 = .ok (.iload_n 3, 1) := by decide +kernel
theorem dX2_takeWord_82 : decode cX2_takeWord 82 = .ok (.caload, 1) := by decide +kernel
theorem dX2_takeWord_83 : decode cX2_takeWord 83 = .ok (.invokevirtual 64, 3) := by decide +kernel
theorem dX2_takeWord_86 : decode cX2_takeWord 86 = .ok (.iinc 3 1, 3) := by decide +kernel
theorem dX2_takeWord_89 : decode cX2_takeWord 89 = .ok (.goto (-87), 3) := by decide +kernel
theorem dX2_takeWord_74 : decode cX2_takeWord 74 = .ok (.iconst (-1), 1) := by decide +kernel
theorem dX2_takeWord_75 : decode cX2_takeWord 75 = .ok (.ireturn, 1) := by decide +kernel
theorem dX2_takeWord_63 : decode cX2_takeWord 63 = .ok (.iinc 3 1, 3) := by decide +kernel
theorem dX2_takeWord_33 : decode cX2_takeWord 33 = .ok (.aload_n 0, 1) := by decide +kernel
theorem dX2_takeWord_34 : decode cX2_takeWord 34 = .ok (.aload_n 0, 1) := by decide +kernel
theorem dX2_takeWord_35 : decode cX2_takeWord 35 = .ok (.getfield 42, 3) := by decide +kernel
theorem dX2_takeWord_38 : decode cX2_takeWord 38 = .ok (.invokevirtual 88, 3) := by decide +kernel
theorem dX2_takeWord_41 : decode cX2_takeWord 41 = .ok (.ifCond .ne 5, 3) := by decide +kernel
theorem dX2_takeWord_46 : decode cX2_takeWord 46 = .ok (.aload_n 0, 1) := by decide +kernel
theorem dX2_takeWord_47 : decode cX2_takeWord 47 = .ok (.invokevirtual 68, 3) := by decide +kernel
theorem dX2_takeWord_50 : decode cX2_takeWord 50 = .ok (.goto 36, 3) := by decide +kernel
theorem dX2_takeWord_44 : decode cX2_takeWord 44 = .ok (.iconst (-1), 1) := by decide +kernel
theorem dX2_takeWord_45 : decode cX2_takeWord 45 = .ok (.ireturn, 1) := by decide +kernel
theorem dX2_takeParameter_0 : decode cX2_takeParameter 0 = .ok (.aload_n 1, 1) := by decide +kernel
theorem dX2_takeParameter_1 : decode cX2_takeParameter 1 = .ok (.iload_n 2, 1) := by decide +kernel
theorem dX2_takeParameter_2 : decode cX2_takeParameter 2 = .ok (.iconst 1, 1) := by decide +kernel
theorem dX2_takeParameter_3 : decode cX2_takeParameter 3 = .ok (.iadd, 1) := by decide +kernel
theorem dX2_takeParameter_4 : decode cX2_takeParameter 4 = .ok (.invokevirtual 77, 3) := by decide +kernel
theorem dX2_takeParameter_7 : decode cX2_takeParameter 7 = .ok (.istore_n 3, 1) := by decide +kernel
theorem dX2_takeParameter_8 : decode cX2_takeParameter 8 = .ok (.iload_n 3, 1) := by decide +kernel
theorem dX2_takeParameter_9 : decode cX2_takeParameter 9 = .ok (.ifCond .lt 17, 3) := by decide +kernel
theorem dX2_takeParameter_26 : decode cX2_takeParameter 26 = .ok (.iconst 0, 1) := by decide +kernel
theorem dX2_takeParameter_27 : decode cX2_takeParameter 27 = .ok (.istore 4, 2) := by decide +kernel
theorem dX2_takeParameter_29 : decode cX2_takeParameter 29 = .ok (.iload 4, 2) := by decide +kernel
theorem dX2_takeParameter_31 : decode cX2_takeParameter 31 = .ok (.ifCond .eq 24, 3) := by decide +kernel
theorem dX2_takeParameter_55 : decode cX2_takeParameter 55 = .ok (.iconst (-1), 1) := by decide +kernel
theorem dX2_takeParameter_56 : decode cX2_takeParameter 56 = .ok (.ireturn, 1) := by decide +kernel
theorem dX2_takeParameter_12 : decode cX2_takeParameter 12 = .ok (.ldc 81, 2) := by decide +kernel
theorem dX2_takeParameter_14 : decode cX2_takeParameter 14 = .ok (.iload_n 3, 1) := by decide +kernel
theorem dX2_takeParameter_15 : decode cX2_takeParameter 15 = .ok (.i2c, 1) := by decide +kernel
theorem dX2_takeParameter_16 : decode cX2_takeParameter 16 = .ok (.invokevirtual 83, 3) := by decide +kernel
theorem dX2_takeParameter_19 : decode cX2_takeParameter 19 = .ok (.ifCond .lt 7, 3) := by decide +kernel
theorem dX2_takeParameter_22 : decode cX2_takeParameter 22 = .ok (.iconst 1, 1) := by decide +kernel
theorem dX2_takeParameter_23 : decode cX2_takeParameter 23 = .ok (.goto 4, 3) := by decide +kernel
theorem dX2_takeParameter_34 : decode cX2_takeParameter 34 = .ok (.aload_n 1, 1) := by decide +kernel
theorem dX2_takeParameter_35 : decode cX2_takeParameter 35 = .ok (.iload_n 2, 1) := by decide +kernel
theorem dX2_takeParameter_36 : decode cX2_takeParameter 36 = .ok (.iconst 2, 1) := by decide +kernel
theorem dX2_takeParameter_37 : decode cX2_takeParameter 37 = .ok (.iadd, 1) := by decide +kernel
theorem dX2_takeParameter_38 : decode cX2_takeParameter 38 = .ok (.invokevirtual 77, 3) := by decide +kernel
theorem dX2_takeParameter_41 : decode cX2_takeParameter 41 = .ok (.bipush 125, 2) := by decide +kernel
theorem dX2_takeParameter_43 : decode cX2_takeParameter 43 = .ok (.if_icmp .ne 12, 3) := by decide +kernel
theorem dX2_takeParameter_46 : decode cX2_takeParameter 46 = .ok (.aload_n 0, 1) := by decide +kernel
theorem dX2_takeParameter_47 : decode cX2_takeParameter 47 = .ok (.getfield 45, 3) := by decide +kernel
theorem dX2_takeParameter_50 : decode cX2_takeParameter 50 = .ok (.bipush 6, 2) := by decide +kernel
theorem dX2_takeParameter_52 : decode cX2_takeParameter 52 = .ok (.if_icmp .lt 5, 3) := by decide +kernel
theorem dX2_takeParameter_57 : decode cX2_takeParameter 57 = .ok (.aload_n 0, 1) := by decide +kernel
theorem dX2_takeParameter_58 : decode cX2_takeParameter 58 = .ok (.getfield 35, 3) := by decide +kernel
theorem dX2_takeParameter_61 : decode cX2_takeParameter 61 = .ok (.aload_n 0, 1) := by decide +kernel
theorem dX2_takeParameter_62 : decode cX2_takeParameter 62 = .ok (.getfield 45, 3) := by decide +kernel
theorem dX2_takeParameter_65 : decode cX2_takeParameter 65 = .ok (.iload_n 3, 1) := by decide +kernel
theorem dX2_takeParameter_66 : decode cX2_takeParameter 66 = .ok (.i2c, 1) := by decide +kernel
theorem dX2_takeParameter_67 : decode cX2_takeParameter 67 = .ok (.castore, 1) := by decide +kernel
theorem dX2_takeParameter_68 : decode cX2_takeParameter 68 = .ok (.aload_n 0, 1) := by decide +kernel
theorem dX2_takeParameter_69 : decode cX2_takeParameter 69 = .ok (.dup, 1) := by decide +kernel
theorem dX2_takeParameter_70 : decode cX2_takeParameter 70 = .ok (.getfield 45, 3) := by decide +kernel
theorem dX2_takeParameter_73 : decode cX2_takeParameter 73 = .ok (.iconst 1, 1) := by decide +kernel
theorem dX2_takeParameter_74 : decode cX2_takeParameter 74 = .ok (.iadd, 1) := by decide +kernel
theorem dX2_takeParameter_75 : decode cX2_takeParameter 75 = .ok (.putfield 45, 3) := by decide +kernel
theorem dX2_takeParameter_78 : decode cX2_takeParameter 78 = .ok (.aload_n 0, 1) := by decide +kernel
theorem dX2_takeParameter_79 : decode cX2_takeParameter 79 = .ok (.iload_n 3, 1) := by decide +kernel
theorem dX2_takeParameter_80 : decode cX2_takeParameter 80 = .ok (.i2c, 1) := by decide +kernel
theorem dX2_takeParameter_81 : decode cX2_takeParameter 81 = .ok (.invokevirtual 71, 3) := by decide +kernel
theorem dX2_takeParameter_84 : decode cX2_takeParameter 84 = .ok (.iload_n 2, 1) := by decide +kernel
theorem dX2_takeParameter_85 : decode cX2_takeParameter 85 = .ok (.iconst 3, 1) := by decide +kernel
theorem dX2_takeParameter_86 : decode cX2_takeParameter 86 = .ok (.iadd, 1) := by decide +kernel
theorem dX2_takeParameter_87 : decode cX2_takeParameter 87 = .ok (.ireturn, 1) := by decide +kernel
theorem dX2_takeElement_0 : decode cX2_takeElement 0 = .ok (.aload_n 1, 1) := by decide +kernel
theorem dX2_takeElement_1 : decode cX2_takeElement 1 = .ok (.getfield 57, 3) := by decide +kernel
theorem dX2_takeElement_4 : decode cX2_takeElement 4 = .ok (.iload_n 2, 1) := by decide +kernel
theorem dX2_takeElement_5 : decode cX2_takeElement 5 = .ok (.caload, 1) := by decide +kernel
theorem dX2_takeElement_6 : decode cX2_takeElement 6 = .ok (.istore_n 3, 1) := by decide +kernel
theorem dX2_takeElement_7 : decode cX2_takeElement 7 = .ok (.iload_n 3, 1) := by decide +kernel
theorem dX2_takeElement_8 : decode cX2_takeElement 8 = .ok (.bipush 123, 2) := by decide +kernel
theorem dX2_takeElement_10 : decode cX2_takeElement 10 = .ok (.if_icmp .ne 10, 3) := by decide +kernel
theorem dX2_takeElement_20 : decode cX2_takeElement 20 = .ok (.iload_n 3, 1) := by decide +kernel
theorem dX2_takeElement_21 : decode cX2_takeElement 21 = .ok (.bipush 40, 2) := by decide +kernel
theorem dX2_takeElement_23 : decode cX2_takeElement 23 = .ok (.if_icmp .ne 10, 3) := by decide +kernel
theorem dX2_takeElement_33 : decode cX2_takeElement 33 = .ok (.iload_n 3, 1) := by decide +kernel
theorem dX2_takeElement_34 : decode cX2_takeElement 34 = .ok (.bipush 32, 2) := by decide +kernel
theorem dX2_takeElement_36 : decode cX2_takeElement 36 = .ok (.if_icmp .ne 22, 3) := by decide +kernel
theorem dX2_takeElement_58 : decode cX2_takeElement 58 = .ok (.aload_n 0, 1) := by decide +kernel
theorem dX2_takeElement_59 : decode cX2_takeElement 59 = .ok (.aload_n 1, 1) := by decide +kernel
theorem dX2_takeElement_60 : decode cX2_takeElement 60 = .ok (.iload_n 2, 1) := by decide +kernel
theorem dX2_takeElement_61 : decode cX2_takeElement 61 = .ok (.invokevirtual 74, 3) := by decide +kernel
theorem dX2_takeElement_64 : decode cX2_takeElement 64 = .ok (.ireturn, 1) := by decide +kernel
theorem dX2_takeElement_39 : decode cX2_takeElement 39 = .ok (.aload_n 0, 1) := by decide +kernel
theorem dX2_takeElement_40 : decode cX2_takeElement 40 = .ok (.iload_n 3, 1) := by decide +kernel
theorem dX2_takeElement_41 : decode cX2_takeElement 41 = .ok (.invokevirtual 64, 3) := by decide +kernel
theorem dX2_takeElement_44 : decode cX2_takeElement 44 = .ok (.aload_n 0, 1) := by decide +kernel
theorem dX2_takeElement_45 : decode cX2_takeElement 45 = .ok (.invokevirtual 68, 3) := by decide +kernel
theorem dX2_takeElement_48 : decode cX2_takeElement 48 = .ok (.aload_n 0, 1) := by decide +kernel
theorem dX2_takeElement_49 : decode cX2_takeElement 49 = .ok (.bipush 47, 2) := by decide +kernel
theorem dX2_takeElement_51 : decode cX2_takeElement 51 = .ok (.invokevirtual 71, 3) := by decide +kernel
theorem dX2_takeElement_54 : decode cX2_takeElement 54 = .ok (.iload_n 2, 1) := by decide +kernel
theorem dX2_takeElement_55 : decode cX2_takeElement 55 = .ok (.iconst 1, 1) := by decide +kernel
theorem dX2_takeElement_56 : decode cX2_takeElement 56 = .ok (.iadd, 1) := by decide +kernel
theorem dX2_takeElement_57 : decode cX2_takeElement 57 = .ok (.ireturn, 1) := by decide +kernel
theorem dX2_takeElement_26 : decode cX2_takeElement 26 = .ok (.aload_n 0, 1) := by decide +kernel
theorem dX2_takeElement_27 : decode cX2_takeElement 27 = .ok (.aload_n 1, 1) := by decide +kernel
theorem dX2_takeElement_28 : decode cX2_takeElement 28 = .ok (.iload_n 2, 1) := by decide +kernel
theorem dX2_takeElement_29 : decode cX2_takeElement 29 = .ok (.invokevirtual 61, 3) := by decide +kernel
theorem dX2_takeElement_32 : decode cX2_takeElement 32 = .ok (.ireturn, 1) := by decide +kernel
theorem dX2_takeElement_13 : decode cX2_takeElement 13 = .ok (.aload_n 0, 1) := by decide +kernel
theorem dX2_takeElement_14 : decode cX2_takeElement 14 = .ok (.aload_n 1, 1) := by decide +kernel
theorem dX2_takeElement_15 : decode cX2_takeElement 15 = .ok (.iload_n 2, 1) := by decide +kernel
theorem dX2_takeElement_16 : decode cX2_takeElement 16 = .ok (.invokevirtual 58, 3) := by decide +kernel
theorem dX2_takeElement_19 : decode cX2_takeElement 19 = .ok (.ireturn, 1) := by decide +kernel
theorem dX2_take_0 : decode cX2_take 0 = .ok (.aload_n 0, 1) := by decide +kernel
theorem dX2_take_1 : decode cX2_take 1 = .ok (.iconst 0, 1) := by decide +kernel
theorem dX2_take_2 : decode cX2_take 2 = .ok (.putfield 38, 3) := by decide +kernel
theorem dX2_take_5 : decode cX2_take 5 = .ok (.aload_n 0, 1) := by decide +kernel
theorem dX2_take_6 : decode cX2_take 6 = .ok (.iconst 0, 1) := by decide +kernel
theorem dX2_take_7 : decode cX2_take 7 = .ok (.putfield 42, 3) := by decide +kernel
theorem dX2_take_10 : decode cX2_take 10 = .ok (.aload_n 0, 1) := by decide +kernel
theorem dX2_take_11 : decode cX2_take 11 = .ok (.getfield 15, 3) := by decide +kernel
theorem dX2_take_14 : decode cX2_take 14 = .ok (.iconst 1, 1) := by decide +kernel
theorem dX2_take_15 : decode cX2_take 15 = .ok (.iconst 0, 1) := by decide +kernel
theorem dX2_take_16 : decode cX2_take 16 = .ok (.iastore, 1) := by decide +kernel
theorem dX2_take_17 : decode cX2_take 17 = .ok (.aload_n 0, 1) := by decide +kernel
theorem dX2_take_18 : decode cX2_take 18 = .ok (.iconst 0, 1) := by decide +kernel
theorem dX2_take_19 : decode cX2_take 19 = .ok (.putfield 45, 3) := by decide +kernel
theorem dX2_take_22 : decode cX2_take 22 = .ok (.aload_n 1, 1) := by decide +kernel
theorem dX2_take_23 : decode cX2_take 23 = .ok (.getfield 48, 3) := by decide +kernel
theorem dX2_take_26 : decode cX2_take 26 = .ok (.iconst 1, 1) := by decide +kernel
theorem dX2_take_27 : decode cX2_take 27 = .ok (.if_icmp .lt 12, 3) := by decide +kernel
theorem dX2_take_39 : decode cX2_take 39 = .ok (.iconst 0, 1) := by decide +kernel
theorem dX2_take_40 : decode cX2_take 40 = .ok (.ireturn, 1) := by decide +kernel
theorem dX2_take_30 : decode cX2_take 30 = .ok (.aload_n 1, 1) := by decide +kernel
theorem dX2_take_31 : decode cX2_take 31 = .ok (.getfield 48, 3) := by decide +kernel
theorem dX2_take_34 : decode cX2_take 34 = .ok (.bipush 60, 2) := by decide +kernel
theorem dX2_take_36 : decode cX2_take 36 = .ok (.if_icmp .le 5, 3) := by decide +kernel
theorem dX2_take_41 : decode cX2_take 41 = .ok (.iconst 0, 1) := by decide +kernel
theorem dX2_take_42 : decode cX2_take 42 = .ok (.istore_n 2, 1) := by decide +kernel
theorem dX2_take_43 : decode cX2_take 43 = .ok (.iconst 0, 1) := by decide +kernel
theorem dX2_take_44 : decode cX2_take 44 = .ok (.istore_n 3, 1) := by decide +kernel
theorem dX2_take_45 : decode cX2_take 45 = .ok (.iload_n 3, 1) := by decide +kernel
theorem dX2_take_46 : decode cX2_take 46 = .ok (.bipush 60, 2) := by decide +kernel
theorem dX2_take_48 : decode cX2_take 48 = .ok (.if_icmp .ge 28, 3) := by decide +kernel
theorem dX2_take_76 : decode cX2_take 76 = .ok (.iload_n 2, 1) := by decide +kernel
theorem dX2_take_77 : decode cX2_take 77 = .ok (.aload_n 1, 1) := by decide +kernel
theorem dX2_take_78 : decode cX2_take 78 = .ok (.getfield 48, 3) := by decide +kernel
theorem dX2_take_81 : decode cX2_take 81 = .ok (.if_icmp .ne 7, 3) := by decide +kernel
theorem dX2_take_88 : decode cX2_take 88 = .ok (.iconst 0, 1) := by decide +kernel
theorem dX2_take_89 : decode cX2_take 89 = .ok (.ireturn, 1) := by decide +kernel
theorem dX2_take_84 : decode cX2_take 84 = .ok (.iconst 1, 1) := by decide +kernel
theorem dX2_take_85 : decode cX2_take 85 = .ok (.goto 4, 3) := by decide +kernel
theorem dX2_take_51 : decode cX2_take 51 = .ok (.iload_n 2, 1) := by decide +kernel
theorem dX2_take_52 : decode cX2_take 52 = .ok (.ifCond .lt 24, 3) := by decide +kernel
theorem dX2_take_55 : decode cX2_take 55 = .ok (.iload_n 2, 1) := by decide +kernel
theorem dX2_take_56 : decode cX2_take 56 = .ok (.aload_n 1, 1) := by decide +kernel
theorem dX2_take_57 : decode cX2_take 57 = .ok (.getfield 48, 3) := by decide +kernel
theorem dX2_take_60 : decode cX2_take 60 = .ok (.if_icmp .ge 16, 3) := by decide +kernel
theorem dX2_take_63 : decode cX2_take 63 = .ok (.aload_n 0, 1) := by decide +kernel
theorem dX2_take_64 : decode cX2_take 64 = .ok (.aload_n 1, 1) := by decide +kernel
theorem dX2_take_65 : decode cX2_take 65 = .ok (.iload_n 2, 1) := by decide +kernel
theorem dX2_take_66 : decode cX2_take 66 = .ok (.invokevirtual 53, 3) := by decide +kernel
theorem dX2_take_69 : decode cX2_take 69 = .ok (.istore_n 2, 1) := by decide +kernel
theorem dX2_take_70 : decode cX2_take 70 = .ok (.iinc 3 1, 3) := by decide +kernel
theorem dX2_take_73 : decode cX2_take 73 = .ok (.goto (-28), 3) := by decide +kernel
theorem gw_X2_choiceLength : wsX2_choiceLength.all goodWord = true := by decide +kernel
theorem gX2_takeOptional_X2_choiceLength : GoodIn wsX2_takeOptional (wsV RX2 88 RX2 yX2_choiceLength wsX2_choiceLength) := goodIn_app (goodIn_sub (List.forall_mem_cons.mpr ⟨(List.mem_cons_of_mem _ (List.mem_append_left _ (List.mem_append_left _ (List.mem_append_left _ lm17)))), List.forall_mem_cons.mpr ⟨(List.mem_cons_of_mem _ (List.mem_append_left _ (List.mem_append_left _ (List.mem_append_left _ lm18)))), List.forall_mem_cons.mpr ⟨(List.mem_cons_of_mem _ (List.mem_append_left _ (List.mem_append_left _ (List.mem_append_left _ lm19)))), List.forall_mem_cons.mpr ⟨(List.mem_cons_of_mem _ (List.mem_append_left _ (List.mem_append_left _ (List.mem_append_left _ lm13)))), (fun _ h => absurd h List.not_mem_nil)⟩⟩⟩⟩) (by decide +kernel)) (goodIn_sub (by unfold wsX2_choiceLength; exact List.forall_mem_cons.mpr ⟨(List.mem_cons_of_mem _ (List.mem_append_left _ (List.mem_append_left _ (List.mem_append_left _ lm20)))), List.forall_mem_append.mpr ⟨List.forall_mem_cons.mpr ⟨(List.mem_cons_of_mem _ (List.mem_append_left _ (List.mem_append_left _ (List.mem_append_left _ lm16)))), (fun _ h => absurd h List.not_mem_nil)⟩, (fun _ h => (List.mem_cons_of_mem _ (List.mem_append_right _ h)))⟩⟩) gw_X2_choiceLength)
theorem gw_X2_endChoice : wsX2_endChoice.all goodWord = true := by decide +kernel
theorem gX2_takeOptional_X2_endChoice : GoodIn wsX2_takeOptional (wsV RX2 68 RX2 yX2_endChoice wsX2_endChoice) := goodIn_app (goodIn_sub (List.forall_mem_cons.mpr ⟨(List.mem_cons_of_mem _ (List.mem_append_left _ (List.mem_append_left _ (List.mem_append_left _ lm21)))), List.forall_mem_cons.mpr ⟨(List.mem_cons_of_mem _ (List.mem_append_left _ (List.mem_append_left _ (List.mem_append_left _ lm22)))), List.forall_mem_cons.mpr ⟨(List.mem_cons_of_mem _ (List.mem_append_left _ (List.mem_append_left _ (List.mem_append_left _ lm23)))), List.forall_mem_cons.mpr ⟨(List.mem_cons_of_mem _ (List.mem_append_left _ (List.mem_append_left _ (List.mem_append_left _ lm13)))), (fun _ h => absurd h List.not_mem_nil)⟩⟩⟩⟩) (by decide +kernel)) (goodIn_sub (by unfold wsX2_endChoice; exact List.forall_mem_cons.mpr ⟨(List.mem_cons_of_mem _ (List.mem_append_left _ (List.mem_append_left _ (List.mem_append_right _ lm0)))), List.forall_mem_append.mpr ⟨List.forall_mem_cons.mpr ⟨(List.mem_cons_of_mem _ (List.mem_append_left _ (List.mem_append_left _ (List.mem_append_left _ lm2)))), List.forall_mem_cons.mpr ⟨(List.mem_cons_of_mem _ (List.mem_append_left _ (List.mem_append_left _ (List.mem_append_left _ lm16)))), (fun _ h => absurd h List.not_mem_nil)⟩⟩, (fun _ h => (List.mem_cons_of_mem _ (List.mem_append_right _ h)))⟩⟩) gw_X2_endChoice)
theorem gw_X2_endElement : wsX2_endElement.all goodWord = true := by decide +kernel
theorem gX2_takeOptional_X2_endElement : GoodIn wsX2_takeOptional (wsV RX2 71 RX2 yX2_endElement wsX2_endElement) := goodIn_app (goodIn_sub (List.forall_mem_cons.mpr ⟨(List.mem_cons_of_mem _ (List.mem_append_left _ (List.mem_append_left _ (List.mem_append_right _ lm1)))), List.forall_mem_cons.mpr ⟨(List.mem_cons_of_mem _ (List.mem_append_left _ (List.mem_append_left _ (List.mem_append_right _ lm2)))), List.forall_mem_cons.mpr ⟨(List.mem_cons_of_mem _ (List.mem_append_left _ (List.mem_append_left _ (List.mem_append_right _ lm3)))), List.forall_mem_cons.mpr ⟨(List.mem_cons_of_mem _ (List.mem_append_left _ (List.mem_append_left _ (List.mem_append_left _ lm13)))), (fun _ h => absurd h List.not_mem_nil)⟩⟩⟩⟩) (by decide +kernel)) (goodIn_sub (by unfold wsX2_endElement; exact List.forall_mem_cons.mpr ⟨(List.mem_cons_of_mem _ (List.mem_append_left _ (List.mem_append_left _ (List.mem_append_right _ lm4)))), List.forall_mem_append.mpr ⟨List.forall_mem_cons.mpr ⟨(List.mem_cons_of_mem _ (List.mem_append_left _ (List.mem_append_left _ (List.mem_append_right _ lm5)))), List.forall_mem_cons.mpr ⟨(List.mem_cons_of_mem _ (List.mem_append_left _ (List.mem_append_left _ (List.mem_append_right _ lm6)))), List.forall_mem_cons.mpr ⟨(List.mem_cons_of_mem _ (List.mem_append_left _ (List.mem_append_left _ (List.mem_append_right _ lm7)))), List.forall_mem_cons.mpr ⟨(List.mem_cons_of_mem _ (List.mem_append_left _ (List.mem_append_left _ (List.mem_append_left _ lm2)))), (fun _ h => absurd h List.not_mem_nil)⟩⟩⟩⟩, (fun _ h => (List.mem_cons_of_mem _ (List.mem_append_right _ h)))⟩⟩) gw_X2_endElement)
theorem gX2_takeOptional_X3_at : GoodIn wsX2_takeOptional (wsV RX2 77 RX3 yX3_at wsX3_at) := goodIn_app (goodIn_sub (List.forall_mem_cons.mpr ⟨(List.mem_cons_of_mem _ (List.mem_append_left _ (List.mem_append_left _ (List.mem_append_left _ lm3)))), List.forall_mem_cons.mpr ⟨(List.mem_cons_of_mem _ (List.mem_append_left _ (List.mem_append_left _ (List.mem_append_left _ lm4)))), List.forall_mem_cons.mpr ⟨(List.mem_cons_of_mem _ (List.mem_append_left _ (List.mem_append_left _ (List.mem_append_left _ lm5)))), List.forall_mem_cons.mpr ⟨(List.mem_cons_of_mem _ (List.mem_append_left _ (List.mem_append_left _ (List.mem_append_left _ lm6)))), (fun _ h => absurd h List.not_mem_nil)⟩⟩⟩⟩) (by decide +kernel)) (goodIn_sub (by unfold wsX3_at; exact List.forall_mem_cons.mpr ⟨(List.mem_cons_of_mem _ (List.mem_append_left _ (List.mem_append_left _ (List.mem_append_left _ lm7)))), List.forall_mem_append.mpr ⟨List.forall_mem_cons.mpr ⟨(List.mem_cons_of_mem _ (List.mem_append_left _ (List.mem_append_left _ (List.mem_append_left _ lm8)))), List.forall_mem_cons.mpr ⟨(List.mem_cons_of_mem _ (List.mem_append_left _ (List.mem_append_left _ (List.mem_append_left _ lm9)))), (fun _ h => absurd h List.not_mem_nil)⟩⟩, (fun _ h => (List.mem_cons_of_mem _ (List.mem_append_left _ (List.mem_append_right _ h))))⟩⟩) gw_X3_at)
theorem gw_X2_addChar : wsX2_addChar.all goodWord = true := by decide +kernel
theorem gX2_takeOptional_X2_addChar : GoodIn wsX2_takeOptional (wsV RX2 64 RX2 yX2_addChar wsX2_addChar) := goodIn_app (goodIn_sub (List.forall_mem_cons.mpr ⟨(List.mem_cons_of_mem _ (List.mem_append_left _ (List.mem_append_left _ (List.mem_append_left _ lm10)))), List.forall_mem_cons.mpr ⟨(List.mem_cons_of_mem _ (List.mem_append_left _ (List.mem_append_left _ (List.mem_append_left _ lm11)))), List.forall_mem_cons.mpr ⟨(List.mem_cons_of_mem _ (List.mem_append_left _ (List.mem_append_left _ (List.mem_append_left _ lm12)))), List.forall_mem_cons.mpr ⟨(List.mem_cons_of_mem _ (List.mem_append_left _ (List.mem_append_left _ (List.mem_append_left _ lm13)))), (fun _ h => absurd h List.not_mem_nil)⟩⟩⟩⟩) (by decide +kernel)) (goodIn_sub (by unfold wsX2_addChar; exact List.forall_mem_cons.mpr ⟨(List.mem_cons_of_mem _ (List.mem_append_left _ (List.mem_append_left _ (List.mem_append_left _ lm14)))), List.forall_mem_append.mpr ⟨List.forall_mem_cons.mpr ⟨(List.mem_cons_of_mem _ (List.mem_append_left _ (List.mem_append_left _ (List.mem_append_left _ lm15)))), List.forall_mem_cons.mpr ⟨(List.mem_cons_of_mem _ (List.mem_append_left _ (List.mem_append_left _ (List.mem_append_left _ lm16)))), List.forall_mem_cons.mpr ⟨(List.mem_cons_of_mem _ (List.mem_append_left _ (List.mem_append_left _ (List.mem_append_left _ lm2)))), (fun _ h => absurd h List.not_mem_nil)⟩⟩⟩, (fun _ h => (List.mem_cons_of_mem _ (List.mem_append_right _ h)))⟩⟩) gw_X2_addChar)
theorem gX2_takeWord_X2_choiceLength : GoodIn wsX2_takeWord (wsV RX2 88 RX2 yX2_choiceLength wsX2_choiceLength) := goodIn_app (goodIn_sub (List.forall_mem_cons.mpr ⟨(List.mem_cons_of_mem _ (List.mem_append_left _ (List.mem_append_left _ (List.mem_append_left _ lm15)))), List.forall_mem_cons.mpr ⟨(List.mem_cons_of_mem _ (List.mem_append_left _ (List.mem_append_left _ (List.mem_append_left _ lm16)))), List.forall_mem_cons.mpr ⟨(List.mem_cons_of_mem _ (List.mem_append_left _ (List.mem_append_left _ (List.mem_append_left _ lm17)))), List.forall_mem_cons.mpr ⟨(List.mem_cons_of_mem _ (List.mem_append_left _ (List.mem_append_left _ (List.mem_append_left _ lm6)))), (fun _ h => absurd h List.not_mem_nil)⟩⟩⟩⟩) (by decide +kernel)) (goodIn_sub (by unfold wsX2_choiceLength; exact List.forall_mem_cons.mpr ⟨(List.mem_cons_of_mem _ (List.mem_append_left _ (List.mem_append_left _ (List.mem_append_left _ lm18)))), List.forall_mem_append.mpr ⟨List.forall_mem_cons.mpr ⟨(List.mem_cons_of_mem _ (List.mem_append_left _ (List.mem_append_left _ (List.mem_append_left _ lm19)))), (fun _ h => absurd h List.not_mem_nil)⟩, (fun _ h => (List.mem_cons_of_mem _ (List.mem_append_right _ h)))⟩⟩) gw_X2_choiceLength)
theorem gX2_takeWord_X2_endChoice : GoodIn wsX2_takeWord (wsV RX2 68 RX2 yX2_endChoice wsX2_endChoice) := goodIn_app (goodIn_sub (List.forall_mem_cons.mpr ⟨(List.mem_cons_of_mem _ (List.mem_append_left _ (List.mem_append_left _ (List.mem_append_left _ lm20)))), List.forall_mem_cons.mpr ⟨(List.mem_cons_of_mem _ (List.mem_append_left _ (List.mem_append_left _ (List.mem_append_left _ lm21)))), List.forall_mem_cons.mpr ⟨(List.mem_cons_of_mem _ (List.mem_append_left _ (List.mem_append_left _ (List.mem_append_left _ lm22)))), List.forall_mem_cons.mpr ⟨(List.mem_cons_of_mem _ (List.mem_append_left _ (List.mem_append_left _ (List.mem_append_left _ lm6)))), (fun _ h => absurd h List.not_mem_nil)⟩⟩⟩⟩) (by decide +kernel)) (goodIn_sub (by unfold wsX2_endChoice; exact List.forall_mem_cons.mpr ⟨(List.mem_cons_of_mem _ (List.mem_append_left _ (List.mem_append_left _ (List.mem_append_left _ lm23)))), List.forall_mem_append.mpr ⟨List.forall_mem_cons.mpr ⟨(List.mem_cons_of_mem _ (List.mem_append_left _ (List.mem_append_left _ (List.mem_append_left _ lm2)))), List.forall_mem_cons.mpr ⟨(List.mem_cons_of_mem _ (List.mem_append_left _ (List.mem_append_left _ (List.mem_append_left _ lm19)))), (fun _ h => absurd h List.not_mem_nil)⟩⟩, (fun _ h => (List.mem_cons_of_mem _ (List.mem_append_right _ h)))⟩⟩) gw_X2_endChoice)
theorem gX2_takeWord_X2_endElement : GoodIn wsX2_takeWord (wsV RX2 71 RX2 yX2_endElement wsX2_endElement) := goodIn_app (goodIn_sub (List.forall_mem_cons.mpr ⟨(List.mem_cons_of_mem _ (List.mem_append_left _ (List.mem_append_left _ (List.mem_append_right _ lm5)))), List.forall_mem_cons.mpr ⟨(List.mem_cons_of_mem _ (List.mem_append_left _ (List.mem_append_left _ (List.mem_append_right _ lm6)))), List.forall_mem_cons.mpr ⟨(List.mem_cons_of_mem _ (List.mem_append_left _ (List.mem_append_left _ (List.mem_append_right _ lm7)))), List.forall_mem_cons.mpr ⟨(List.mem_cons_of_mem _ (List.mem_append_left _ (List.mem_append_left _ (List.mem_append_left _ lm6)))), (fun _ h => absurd h List.not_mem_nil)⟩⟩⟩⟩) (by decide +kernel)) (goodIn_sub (by unfold wsX2_endElement; exact List.forall_mem_cons.mpr ⟨(List.mem_cons_of_mem _ (List.mem_append_left _ (List.mem_append_left _ (List.mem_append_right _ lm8)))), List.forall_mem_append.mpr ⟨List.forall_mem_cons.mpr ⟨(List.mem_cons_of_mem _ (List.mem_append_left _ (List.mem_append_left _ (List.mem_append_right _ lm9)))), List.forall_mem_cons.mpr ⟨(List.mem_cons_of_mem _ (List.mem_append_left _ (List.mem_append_left _ (List.mem_append_right _ lm10)))), List.forall_mem_cons.mpr ⟨(List.mem_cons_of_mem _ (List.mem_append_left _ (List.mem_append_left _ (List.mem_append_right _ lm11)))), List.forall_mem_cons.mpr ⟨(List.mem_cons_of_mem _ (List.mem_append_left _ (List.mem_append_left _ (List.mem_append_left _ lm2)))), (fun _ h => absurd h List.not_mem_nil)⟩⟩⟩⟩, (fun _ h => (List.mem_cons_of_mem _ (List.mem_append_right _ h)))⟩⟩) gw_X2_endElement)
theorem gw_X2_endsWord : wsX2_endsWord.all goodWord = true := by decide +kernel
theorem gX2_takeWord_X2_endsWord : GoodIn wsX2_takeWord (wsV RX2 91 RX2 yX2_endsWord wsX2_endsWord) := goodIn_app (goodIn_sub (List.forall_mem_cons.mpr ⟨(List.mem_cons_of_mem _ (List.mem_append_left _ (List.mem_append_left _ (List.mem_append_left _ lm3)))), List.forall_mem_cons.mpr ⟨(List.mem_cons_of_mem _ (List.mem_append_left _ (List.mem_append_left _ (List.mem_append_left _ lm4)))), List.forall_mem_cons.mpr ⟨(List.mem_cons_of_mem _ (List.mem_append_left _ (List.mem_append_left _ (List.mem_append_left _ lm5)))), List.forall_mem_cons.mpr ⟨(List.mem_cons_of_mem _ (List.mem_append_left _ (List.mem_append_left _ (List.mem_append_left _ lm6)))), (fun _ h => absurd h List.not_mem_nil)⟩⟩⟩⟩) (by decide +kernel)) (goodIn_sub (by unfold wsX2_endsWord; exact List.forall_mem_cons.mpr ⟨(List.mem_cons_of_mem _ (List.mem_append_left _ (List.mem_append_left _ (List.mem_append_left _ lm7)))), (fun _ h => absurd h List.not_mem_nil)⟩) gw_X2_endsWord)
theorem gX2_takeWord_X3_at : GoodIn wsX2_takeWord (wsV RX2 77 RX3 yX3_at wsX3_at) := goodIn_app (goodIn_sub (List.forall_mem_cons.mpr ⟨(List.mem_cons_of_mem _ (List.mem_append_left _ (List.mem_append_left _ (List.mem_append_left _ lm8)))), List.forall_mem_cons.mpr ⟨(List.mem_cons_of_mem _ (List.mem_append_left _ (List.mem_append_left _ (List.mem_append_left _ lm9)))), List.forall_mem_cons.mpr ⟨(List.mem_cons_of_mem _ (List.mem_append_left _ (List.mem_append_left _ (List.mem_append_left _ lm10)))), List.forall_mem_cons.mpr ⟨(List.mem_cons_of_mem _ (List.mem_append_left _ (List.mem_append_left _ (List.mem_append_left _ lm11)))), (fun _ h => absurd h List.not_mem_nil)⟩⟩⟩⟩) (by decide +kernel)) (goodIn_sub (by unfold wsX3_at; exact List.forall_mem_cons.mpr ⟨(List.mem_cons_of_mem _ (List.mem_append_left _ (List.mem_append_left _ (List.mem_append_left _ lm12)))), List.forall_mem_append.mpr ⟨List.forall_mem_cons.mpr ⟨(List.mem_cons_of_mem _ (List.mem_append_left _ (List.mem_append_left _ (List.mem_append_left _ lm13)))), List.forall_mem_cons.mpr ⟨(List.mem_cons_of_mem _ (List.mem_append_left _ (List.mem_append_left _ (List.mem_append_left _ lm14)))), (fun _ h => absurd h List.not_mem_nil)⟩⟩, (fun _ h => (List.mem_cons_of_mem _ (List.mem_append_left _ (List.mem_append_right _ h))))⟩⟩) gw_X3_at)
theorem gX2_takeWord_X2_addChar : GoodIn wsX2_takeWord (wsV RX2 64 RX2 yX2_addChar wsX2_addChar) := goodIn_app (goodIn_sub (List.forall_mem_cons.mpr ⟨(List.mem_cons_of_mem _ (List.mem_append_left _ (List.mem_append_left _ (List.mem_append_right _ lm0)))), List.forall_mem_cons.mpr ⟨(List.mem_cons_of_mem _ (List.mem_append_left _ (List.mem_append_left _ (List.mem_append_right _ lm1)))), List.forall_mem_cons.mpr ⟨(List.mem_cons_of_mem _ (List.mem_append_left _ (List.mem_append_left _ (List.mem_append_right _ lm2)))), List.forall_mem_cons.mpr ⟨(List.mem_cons_of_mem _ (List.mem_append_left _ (List.mem_append_left _ (List.mem_append_left _ lm6)))), (fun _ h => absurd h List.not_mem_nil)⟩⟩⟩⟩) (by decide +kernel)) (goodIn_sub (by unfold wsX2_addChar; exact List.forall_mem_cons.mpr ⟨(List.mem_cons_of_mem _ (List.mem_append_left _ (List.mem_append_left _ (List.mem_append_right _ lm3)))), List.forall_mem_append.mpr ⟨List.forall_mem_cons.mpr ⟨(List.mem_cons_of_mem _ (List.mem_append_left _ (List.mem_append_left _ (List.mem_append_right _ lm4)))), List.forall_mem_cons.mpr ⟨(List.mem_cons_of_mem _ (List.mem_append_left _ (List.mem_append_left _ (List.mem_append_left _ lm19)))), List.forall_mem_cons.mpr ⟨(List.mem_cons_of_mem _ (List.mem_append_left _ (List.mem_append_left _ (List.mem_append_left _ lm2)))), (fun _ h => absurd h List.not_mem_nil)⟩⟩⟩, (fun _ h => (List.mem_cons_of_mem _ (List.mem_append_right _ h)))⟩⟩) gw_X2_addChar)
theorem gX2_takeParameter_X3_at : GoodIn wsX2_takeParameter (wsV RX2 77 RX3 yX3_at wsX3_at) := goodIn_app (goodIn_sub (List.forall_mem_cons.mpr ⟨(List.mem_cons_of_mem _ (List.mem_append_left _ (List.mem_append_left _ (List.mem_append_left _ lm2)))), List.forall_mem_cons.mpr ⟨(List.mem_cons_of_mem _ (List.mem_append_left _ (List.mem_append_left _ (List.mem_append_left _ lm3)))), List.forall_mem_cons.mpr ⟨(List.mem_cons_of_mem _ (List.mem_append_left _ (List.mem_append_left _ (List.mem_append_left _ lm4)))), List.forall_mem_cons.mpr ⟨(List.mem_cons_of_mem _ (List.mem_append_left _ (List.mem_append_left _ (List.mem_append_left _ lm5)))), (fun _ h => absurd h List.not_mem_nil)⟩⟩⟩⟩) (by decide +kernel)) (goodIn_sub (by unfold wsX3_at; exact List.forall_mem_cons.mpr ⟨(List.mem_cons_of_mem _ (List.mem_append_left _ (List.mem_append_left _ (List.mem_append_left _ lm6)))), List.forall_mem_append.mpr ⟨List.forall_mem_cons.mpr ⟨(List.mem_cons_of_mem _ (List.mem_append_left _ (List.mem_append_left _ (List.mem_append_left _ lm7)))), List.forall_mem_cons.mpr ⟨(List.mem_cons_of_mem _ (List.mem_append_left _ (List.mem_append_left _ (List.mem_append_left _ lm8)))), (fun _ h => absurd h List.not_mem_nil)⟩⟩, (fun _ h => (List.mem_cons_of_mem _ (List.mem_append_right _ h)))⟩⟩) gw_X3_at)
theorem gw_J0_indexOf_0f7a4 : wsJ0_indexOf_0f7a4.all goodWord = true := by decide +kernel
theorem gX2_takeParameter_J0_indexOf_0f7a4 : GoodIn wsX2_takeParameter (wsV RX2 83 RJ0 yJ0_indexOf_0f7a4 wsJ0_indexOf_0f7a4) := goodIn_app (goodIn_sub (List.forall_mem_cons.mpr ⟨(List.mem_cons_of_mem _ (List.mem_append_left _ (List.mem_append_left _ (List.mem_append_left _ lm9)))), List.forall_mem_cons.mpr ⟨(List.mem_cons_of_mem _ (List.mem_append_left _ (List.mem_append_left _ (List.mem_append_left _ lm10)))), List.forall_mem_cons.mpr ⟨(List.mem_cons_of_mem _ (List.mem_append_left _ (List.mem_append_left _ (List.mem_append_left _ lm11)))), List.forall_mem_cons.mpr ⟨(List.mem_cons_of_mem _ (List.mem_append_left _ (List.mem_append_left _ (List.mem_append_left _ lm12)))), (fun _ h => absurd h List.not_mem_nil)⟩⟩⟩⟩) (by decide +kernel)) (goodIn_sub (by unfold wsJ0_indexOf_0f7a4; exact List.forall_mem_cons.mpr ⟨(List.mem_cons_of_mem _ (List.mem_append_left _ (List.mem_append_left _ (List.mem_append_left _ lm13)))), List.forall_mem_append.mpr ⟨List.forall_mem_cons.mpr ⟨(List.mem_cons_of_mem _ (List.mem_append_left _ (List.mem_append_left _ (List.mem_append_left _ lm14)))), List.forall_mem_cons.mpr ⟨(List.mem_cons_of_mem _ (List.mem_append_left _ (List.mem_append_left _ (List.mem_append_left _ lm15)))), List.forall_mem_cons.mpr ⟨(List.mem_cons_of_mem _ (List.mem_append_left _ (List.mem_append_left _ (List.mem_append_left _ lm16)))), List.forall_mem_cons.mpr ⟨(List.mem_cons_of_mem _ (List.mem_append_left _ (List.mem_append_left _ (List.mem_append_left _ lm12)))), List.forall_mem_cons.mpr ⟨(List.mem_cons_of_mem _ (List.mem_append_left _ (List.mem_append_left _ (List.mem_append_left _ lm17)))), List.forall_mem_cons.mpr ⟨(List.mem_cons_of_mem _ (List.mem_append_left _ (List.mem_append_left _ (List.mem_append_left _ lm18)))), List.forall_mem_cons.mpr ⟨(List.mem_cons_of_mem _ (List.mem_append_left _ (List.mem_append_left _ (List.mem_append_left _ lm19)))), List.forall_mem_cons.mpr ⟨(List.mem_cons_of_mem _ (List.mem_append_left _ (List.mem_append_left _ (List.mem_append_left _ lm20)))), List.forall_mem_cons.mpr ⟨(List.mem_cons_of_mem _ (List.mem_append_left _ (List.mem_append_left _ (List.mem_append_left _ lm21)))), List.forall_mem_cons.mpr ⟨(List.mem_cons_of_mem _ (List.mem_append_left _ (List.mem_append_left _ (List.mem_append_left _ lm22)))), List.forall_mem_cons.mpr ⟨(List.mem_cons_of_mem _ (List.mem_append_left _ (List.mem_append_left _ (List.mem_append_left _ lm23)))), List.forall_mem_cons.mpr ⟨(List.mem_cons_of_mem _ (List.mem_append_left _ (List.mem_append_left _ (List.mem_append_right _ (List.mem_append_left _ lm0))))), List.forall_mem_cons.mpr ⟨(List.mem_cons_of_mem _ (List.mem_append_left _ (List.mem_append_left _ (List.mem_append_right _ (List.mem_append_left _ lm1))))), List.forall_mem_cons.mpr ⟨(List.mem_cons_of_mem _ (List.mem_append_left _ (List.mem_append_left _ (List.mem_append_right _ (List.mem_append_left _ lm2))))), List.forall_mem_cons.mpr ⟨(List.mem_cons_of_mem _ (List.mem_append_left _ (List.mem_append_left _ (List.mem_append_right _ (List.mem_append_left _ lm3))))), List.forall_mem_cons.mpr ⟨(List.mem_cons_of_mem _ (List.mem_append_left _ (List.mem_append_left _ (List.mem_append_right _ (List.mem_append_left _ lm4))))), List.forall_mem_cons.mpr ⟨(List.mem_cons_of_mem _ (List.mem_append_left _ (List.mem_append_left _ (List.mem_append_right _ (List.mem_append_left _ lm5))))), List.forall_mem_cons.mpr ⟨(List.mem_cons_of_mem _ (List.mem_append_left _ (List.mem_append_left _ (List.mem_append_right _ (List.mem_append_left _ lm6))))), List.forall_mem_cons.mpr ⟨(List.mem_cons_of_mem _ (List.mem_append_left _ (List.mem_append_left _ (List.mem_append_right _ (List.mem_append_left _ lm7))))), List.forall_mem_cons.mpr ⟨(List.mem_cons_of_mem _ (List.mem_append_left _ (List.mem_append_left _ (List.mem_append_right _ (List.mem_append_left _ lm8))))), List.forall_mem_cons.mpr ⟨(List.mem_cons_of_mem _ (List.mem_append_left _ (List.mem_append_left _ (List.mem_append_right _ (List.mem_append_left _ lm9))))), List.forall_mem_cons.mpr ⟨(List.mem_cons_of_mem _ (List.mem_append_left _ (List.mem_append_left _ (List.mem_append_right _ (List.mem_append_left _ lm10))))), List.forall_mem_cons.mpr ⟨(List.mem_cons_of_mem _ (List.mem_append_left _ (List.mem_append_left _ (List.mem_append_right _ (List.mem_append_left _ lm11))))), List.forall_mem_cons.mpr ⟨(List.mem_cons_of_mem _ (List.mem_append_left _ (List.mem_append_left _ (List.mem_append_right _ (List.mem_append_left _ lm12))))), (fun _ h => absurd h List.not_mem_nil)⟩⟩⟩⟩⟩⟩⟩⟩⟩⟩⟩⟩⟩⟩⟩⟩⟩⟩⟩⟩⟩⟩⟩⟩, List.forall_mem_append.mpr ⟨List.forall_mem_cons.mpr ⟨(List.mem_cons_of_mem _ (List.mem_append_left _ (List.mem_append_left _ (List.mem_append_right _ (List.mem_append_left _ lm13))))), List.forall_mem_cons.mpr ⟨(List.mem_cons_of_mem _ (List.mem_append_left _ (List.mem_append_left _ (List.mem_append_right _ (List.mem_append_left _ lm14))))), List.forall_mem_cons.mpr ⟨(List.mem_cons_of_mem _ (List.mem_append_left _ (List.mem_append_left _ (List.mem_append_right _ (List.mem_append_left _ lm15))))), List.forall_mem_cons.mpr ⟨(List.mem_cons_of_mem _ (List.mem_append_left _ (List.mem_append_left _ (List.mem_append_right _ (List.mem_append_left _ lm16))))), List.forall_mem_cons.mpr ⟨(List.mem_cons_of_mem _ (List.mem_append_left _ (List.mem_append_left _ (List.mem_append_right _ (List.mem_append_left _ lm17))))), List.forall_mem_cons.mpr ⟨(List.mem_cons_of_mem _ (List.mem_append_left _ (List.mem_append_left _ (List.mem_append_right _ (List.mem_append_left _ lm18))))), List.forall_mem_cons.mpr ⟨(List.mem_cons_of_mem _ (List.mem_append_left _ (List.mem_append_left _ (List.mem_append_right _ (List.mem_append_left _ lm19))))), List.forall_mem_cons.mpr ⟨(List.mem_cons_of_mem _ (List.mem_append_left _ (List.mem_append_left _ (List.mem_append_right _ (List.mem_append_left _ lm20))))), List.forall_mem_cons.mpr ⟨(List.mem_cons_of_mem _ (List.mem_append_left _ (List.mem_append_left _ (List.mem_append_right _ (List.mem_append_left _ lm21))))), List.forall_mem_cons.mpr ⟨(List.mem_cons_of_mem _ (List.mem_append_left _ (List.mem_append_left _ (List.mem_append_right _ (List.mem_append_left _ lm22))))), List.forall_mem_cons.mpr ⟨(List.mem_cons_of_mem _ (List.mem_append_left _ (List.mem_append_left _ (List.mem_append_right _ (List.mem_append_left _ lm23))))), List.forall_mem_cons.mpr ⟨(List.mem_cons_of_mem _ (List.mem_append_left _ (List.mem_append_left _ (List.mem_append_right _ (List.mem_append_right _ (List.mem_append_left _ lm0)))))), List.forall_mem_cons.mpr ⟨(List.mem_cons_of_mem _ (List.mem_append_left _ (List.mem_append_left _ (List.mem_append_right _ (List.mem_append_right _ (List.mem_append_left _ lm1)))))), List.forall_mem_cons.mpr ⟨(List.mem_cons_of_mem _ (List.mem_append_left _ (List.mem_append_left _ (List.mem_append_right _ (List.mem_append_right _ (List.mem_append_left _ lm2)))))), List.forall_mem_cons.mpr ⟨(List.mem_cons_of_mem _ (List.mem_append_left _ (List.mem_append_left _ (List.mem_append_right _ (List.mem_append_right _ (List.mem_append_left _ lm3)))))), List.forall_mem_cons.mpr ⟨(List.mem_cons_of_mem _ (List.mem_append_left _ (List.mem_append_left _ (List.mem_append_right _ (List.mem_append_right _ (List.mem_append_left _ lm4)))))), List.forall_mem_cons.mpr ⟨(List.mem_cons_of_mem _ (List.mem_append_left _ (List.mem_append_left _ (List.mem_append_right _ (List.mem_append_right _ (List.mem_append_left _ lm5)))))), List.forall_mem_cons.mpr ⟨(List.mem_cons_of_mem _ (List.mem_append_left _ (List.mem_append_left _ (List.mem_append_right _ (List.mem_append_right _ (List.mem_append_left _ lm6)))))), List.forall_mem_cons.mpr ⟨(List.mem_cons_of_mem _ (List.mem_append_left _ (List.mem_append_left _ (List.mem_append_right _ (List.mem_append_right _ (List.mem_append_left _ lm7)))))), List.forall_mem_cons.mpr ⟨(List.mem_cons_of_mem _ (List.mem_append_left _ (List.mem_append_left _ (List.mem_append_right _ (List.mem_append_right _ (List.mem_append_left _ lm8)))))), List.forall_mem_cons.mpr ⟨(List.mem_cons_of_mem _ (List.mem_append_left _ (List.mem_append_left _ (List.mem_append_right _ (List.mem_append_right _ (List.mem_append_left _ lm9)))))), List.forall_mem_cons.mpr ⟨(List.mem_cons_of_mem _ (List.mem_append_left _ (List.mem_append_left _ (List.mem_append_right _ (List.mem_append_right _ (List.mem_append_left _ lm10)))))), List.forall_mem_cons.mpr ⟨(List.mem_cons_of_mem _ (List.mem_append_left _ (List.mem_append_left _ (List.mem_append_right _ (List.mem_append_right _ (List.mem_append_left _ lm11)))))), List.forall_mem_cons.mpr ⟨(List.mem_cons_of_mem _ (List.mem_append_left _ (List.mem_append_left _ (List.mem_append_right _ (List.mem_append_right _ (List.mem_append_left _ lm12)))))), (fun _ h => absurd h List.not_mem_nil)⟩⟩⟩⟩⟩⟩⟩⟩⟩⟩⟩⟩⟩⟩⟩⟩⟩⟩⟩⟩⟩⟩⟩⟩, List.forall_mem_append.mpr ⟨List.forall_mem_cons.mpr ⟨(List.mem_cons_of_mem _ (List.mem_append_left _ (List.mem_append_left _ (List.mem_append_right _ (List.mem_append_right _ (List.mem_append_left _ lm13)))))), List.forall_mem_cons.mpr ⟨(List.mem_cons_of_mem _ (List.mem_append_left _ (List.mem_append_left _ (List.mem_append_right _ (List.mem_append_right _ (List.mem_append_left _ lm14)))))), List.forall_mem_cons.mpr ⟨(List.mem_cons_of_mem _ (List.mem_append_left _ (List.mem_append_left _ (List.mem_append_right _ (List.mem_append_right _ (List.mem_append_left _ lm15)))))), List.forall_mem_cons.mpr ⟨(List.mem_cons_of_mem _ (List.mem_append_left _ (List.mem_append_left _ (List.mem_append_right _ (List.mem_append_right _ (List.mem_append_left _ lm16)))))), List.forall_mem_cons.mpr ⟨(List.mem_cons_of_mem _ (List.mem_append_left _ (List.mem_append_left _ (List.mem_append_right _ (List.mem_append_right _ (List.mem_append_left _ lm17)))))), List.forall_mem_cons.mpr ⟨(List.mem_cons_of_mem _ (List.mem_append_left _ (List.mem_append_left _ (List.mem_append_right _ (List.mem_append_right _ (List.mem_append_left _ lm18)))))), List.forall_mem_cons.mpr ⟨(List.mem_cons_of_mem _ (List.mem_append_left _ (List.mem_append_left _ (List.mem_append_right _ (List.mem_append_right _ (List.mem_append_left _ lm19)))))), List.forall_mem_cons.mpr ⟨(List.mem_cons_of_mem _ (List.mem_append_left _ (List.mem_append_left _ (List.mem_append_right _ (List.mem_append_right _ (List.mem_append_left _ lm20)))))), List.forall_mem_cons.mpr ⟨(List.mem_cons_of_mem _ (List.mem_append_left _ (List.mem_append_left _ (List.mem_append_right _ (List.mem_append_right _ (List.mem_append_left _ lm21)))))), List.forall_mem_cons.mpr ⟨(List.mem_cons_of_mem _ (List.mem_append_left _ (List.mem_append_left _ (List.mem_append_right _ (List.mem_append_right _ (List.mem_append_left _ lm22)))))), List.forall_mem_cons.mpr ⟨(List.mem_cons_of_mem _ (List.mem_append_left _ (List.mem_append_left _ (List.mem_append_right _ (List.mem_append_right _ (List.mem_append_left _ lm23)))))), List.forall_mem_cons.mpr ⟨(List.mem_cons_of_mem _ (List.mem_append_left _ (List.mem_append_left _ (List.mem_append_right _ (List.mem_append_right _ (List.mem_append_right _ (List.mem_append_left _ lm0))))))), List.forall_mem_cons.mpr ⟨(List.mem_cons_of_mem _ (List.mem_append_left _ (List.mem_append_left _ (List.mem_append_right _ (List.mem_append_right _ (List.mem_append_right _ (List.mem_append_left _ lm1))))))), List.forall_mem_cons.mpr ⟨(List.mem_cons_of_mem _ (List.mem_append_left _ (List.mem_append_left _ (List.mem_append_right _ (List.mem_append_right _ (List.mem_append_right _ (List.mem_append_left _ lm2))))))), List.forall_mem_cons.mpr ⟨(List.mem_cons_of_mem _ (List.mem_append_left _ (List.mem_append_left _ (List.mem_append_right _ (List.mem_append_right _ (List.mem_append_right _ (List.mem_append_left _ lm3))))))), List.forall_mem_cons.mpr ⟨(List.mem_cons_of_mem _ (List.mem_append_left _ (List.mem_append_left _ (List.mem_append_right _ (List.mem_append_right _ (List.mem_append_right _ (List.mem_append_left _ lm4))))))), List.forall_mem_cons.mpr ⟨(List.mem_cons_of_mem _ (List.mem_append_left _ (List.mem_append_left _ (List.mem_append_right _ (List.mem_append_right _ (List.mem_append_right _ (List.mem_append_left _ lm5))))))), List.forall_mem_cons.mpr ⟨(List.mem_cons_of_mem _ (List.mem_append_left _ (List.mem_append_left _ (List.mem_append_right _ (List.mem_append_right _ (List.mem_append_right _ (List.mem_append_left _ lm6))))))), List.forall_mem_cons.mpr ⟨(List.mem_cons_of_mem _ (List.mem_append_left _ (List.mem_append_left _ (List.mem_append_right _ (List.mem_append_right _ (List.mem_append_right _ (List.mem_append_left _ lm7))))))), List.forall_mem_cons.mpr ⟨(List.mem_cons_of_mem _ (List.mem_append_left _ (List.mem_append_left _ (List.mem_append_right _ (List.mem_append_right _ (List.mem_append_right _ (List.mem_append_left _ lm8))))))), List.forall_mem_cons.mpr ⟨(List.mem_cons_of_mem _ (List.mem_append_left _ (List.mem_append_left _ (List.mem_append_right _ (List.mem_append_right _ (List.mem_append_right _ (List.mem_append_left _ lm9))))))), List.forall_mem_cons.mpr ⟨(List.mem_cons_of_mem _ (List.mem_append_left _ (List.mem_append_left _ (List.mem_append_right _ (List.mem_append_right _ (List.mem_append_right _ (List.mem_append_left _ lm10))))))), List.forall_mem_cons.mpr ⟨(List.mem_cons_of_mem _ (List.mem_append_left _ (List.mem_append_left _ (List.mem_append_right _ (List.mem_append_right _ (List.mem_append_right _ (List.mem_append_left _ lm11))))))), List.forall_mem_cons.mpr ⟨(List.mem_cons_of_mem _ (List.mem_append_left _ (List.mem_append_left _ (List.mem_append_right _ (List.mem_append_right _ (List.mem_append_right _ (List.mem_append_left _ lm12))))))), (fun _ h => absurd h List.not_mem_nil)⟩⟩⟩⟩⟩⟩⟩⟩⟩⟩⟩⟩⟩⟩⟩⟩⟩⟩⟩⟩⟩⟩⟩⟩, List.forall_mem_cons.mpr ⟨(List.mem_cons_of_mem _ (List.mem_append_left _ (List.mem_append_left _ (List.mem_append_right _ (List.mem_append_right _ (List.mem_append_right _ (List.mem_append_left _ lm13))))))), List.forall_mem_cons.mpr ⟨(List.mem_cons_of_mem _ (List.mem_append_left _ (List.mem_append_left _ (List.mem_append_right _ (List.mem_append_right _ (List.mem_append_right _ (List.mem_append_left _ lm14))))))), List.forall_mem_cons.mpr ⟨(List.mem_cons_of_mem _ (List.mem_append_left _ (List.mem_append_left _ (List.mem_append_right _ (List.mem_append_right _ (List.mem_append_right _ (List.mem_append_left _ lm15))))))), List.forall_mem_cons.mpr ⟨(List.mem_cons_of_mem _ (List.mem_append_left _ (List.mem_append_left _ (List.mem_append_right _ (List.mem_append_right _ (List.mem_append_right _ (List.mem_append_left _ lm16))))))), List.forall_mem_cons.mpr ⟨(List.mem_cons_of_mem _ (List.mem_append_left _ (List.mem_append_left _ (List.mem_append_right _ (List.mem_append_right _ (List.mem_append_right _ (List.mem_append_left _ lm17))))))), List.forall_mem_cons.mpr ⟨(List.mem_cons_of_mem _ (List.mem_append_left _ (List.mem_append_left _ (List.mem_append_right _ (List.mem_append_right _ (List.mem_append_right _ (List.mem_append_left _ lm18))))))), List.forall_mem_cons.mpr ⟨(List.mem_cons_of_mem _ (List.mem_append_left _ (List.mem_append_left _ (List.mem_append_right _ (List.mem_append_right _ (List.mem_append_right _ (List.mem_append_left _ lm19))))))), List.forall_mem_cons.mpr ⟨(List.mem_cons_of_mem _ (List.mem_append_left _ (List.mem_append_left _ (List.mem_append_right _ (List.mem_append_right _ (List.mem_append_right _ (List.mem_append_left _ lm20))))))), List.forall_mem_cons.mpr ⟨(List.mem_cons_of_mem _ (List.mem_append_left _ (List.mem_append_left _ (List.mem_append_right _ (List.mem_append_right _ (List.mem_append_right _ (List.mem_append_left _ lm21))))))), List.forall_mem_cons.mpr ⟨(List.mem_cons_of_mem _ (List.mem_append_left _ (List.mem_append_left _ (List.mem_append_right _ (List.mem_append_right _ (List.mem_append_right _ (List.mem_append_left _ lm22))))))), List.forall_mem_cons.mpr ⟨(List.mem_cons_of_mem _ (List.mem_append_left _ (List.mem_append_left _ (List.mem_append_right _ (List.mem_append_right _ (List.mem_append_right _ (List.mem_append_left _ lm23))))))), List.forall_mem_cons.mpr ⟨(List.mem_cons_of_mem _ (List.mem_append_left _ (List.mem_append_left _ (List.mem_append_right _ (List.mem_append_right _ (List.mem_append_right _ (List.mem_append_right _ lm0))))))), List.forall_mem_cons.mpr ⟨(List.mem_cons_of_mem _ (List.mem_append_left _ (List.mem_append_left _ (List.mem_append_right _ (List.mem_append_right _ (List.mem_append_right _ (List.mem_append_right _ lm1))))))), (fun _ h => absurd h List.not_mem_nil)⟩⟩⟩⟩⟩⟩⟩⟩⟩⟩⟩⟩⟩⟩⟩⟩⟩) gw_J0_indexOf_0f7a4)
theorem gX2_takeParameter_X2_endElement : GoodIn wsX2_takeParameter (wsV RX2 71 RX2 yX2_endElement wsX2_endElement) := goodIn_app (goodIn_sub (List.forall_mem_cons.mpr ⟨(List.mem_cons_of_mem _ (List.mem_append_left _ (List.mem_append_left _ (List.mem_append_right _ (List.mem_append_right _ (List.mem_append_right _ (List.mem_append_right _ lm2))))))), List.forall_mem_cons.mpr ⟨(List.mem_cons_of_mem _ (List.mem_append_left _ (List.mem_append_left _ (List.mem_append_right _ (List.mem_append_right _ (List.mem_append_right _ (List.mem_append_right _ lm3))))))), List.forall_mem_cons.mpr ⟨(List.mem_cons_of_mem _ (List.mem_append_left _ (List.mem_append_left _ (List.mem_append_right _ (List.mem_append_right _ (List.mem_append_right _ (List.mem_append_right _ lm4))))))), List.forall_mem_cons.mpr ⟨(List.mem_cons_of_mem _ (List.mem_append_left _ (List.mem_append_left _ (List.mem_append_right _ (List.mem_append_right _ (List.mem_append_right _ (List.mem_append_right _ lm5))))))), (fun _ h => absurd h List.not_mem_nil)⟩⟩⟩⟩) (by decide +kernel)) (goodIn_sub (by unfold wsX2_endElement; exact List.forall_mem_cons.mpr ⟨(List.mem_cons_of_mem _ (List.mem_append_left _ (List.mem_append_left _ (List.mem_append_right _ (List.mem_append_right _ (List.mem_append_right _ (List.mem_append_right _ lm6))))))), List.forall_mem_append.mpr ⟨List.forall_mem_cons.mpr ⟨(List.mem_cons_of_mem _ (List.mem_append_left _ (List.mem_append_left _ (List.mem_append_right _ (List.mem_append_right _ (List.mem_append_right _ (List.mem_append_right _ lm7))))))), List.forall_mem_cons.mpr ⟨(List.mem_cons_of_mem _ (List.mem_append_left _ (List.mem_append_left _ (List.mem_append_right _ (List.mem_append_right _ (List.mem_append_right _ (List.mem_append_right _ lm8))))))), List.forall_mem_cons.mpr ⟨(List.mem_cons_of_mem _ (List.mem_append_left _ (List.mem_append_left _ (List.mem_append_right _ (List.mem_append_right _ (List.mem_append_right _ (List.mem_append_right _ lm9))))))), List.forall_mem_cons.mpr ⟨(List.mem_cons_of_mem _ (List.mem_append_left _ (List.mem_append_left _ (List.mem_append_right _ (List.mem_append_right _ (List.mem_append_right _ (List.mem_append_right _ lm10))))))), (fun _ h => absurd h List.not_mem_nil)⟩⟩⟩⟩, (fun _ h => (List.mem_cons_of_mem _ (List.mem_append_left _ (List.mem_append_right _ h))))⟩⟩) gw_X2_endElement)
theorem gw_X2_takeWord : wsX2_takeWord.all goodWord = true := by decide +kernel
theorem gX2_takeElement_X2_takeWord : GoodIn wsX2_takeElement (wsV RX2 74 RX2 yX2_takeWord wsX2_takeWord) := goodIn_app (goodIn_sub (List.forall_mem_cons.mpr ⟨(List.mem_cons_of_mem _ (List.mem_append_left _ (List.mem_append_left _ (List.mem_append_right _ (List.mem_append_right _ (List.mem_append_right _ (List.mem_append_right _ (List.mem_append_right _ lm11)))))))), List.forall_mem_cons.mpr ⟨(List.mem_cons_of_mem _ (List.mem_append_left _ (List.mem_append_left _ (List.mem_append_right _ (List.mem_append_right _ (List.mem_append_right _ (List.mem_append_right _ (List.mem_append_right _ lm12)))))))), List.forall_mem_cons.mpr ⟨(List.mem_cons_of_mem _ (List.mem_append_left _ (List.mem_append_left _ (List.mem_append_right _ (List.mem_append_right _ (List.mem_append_right _ (List.mem_append_right _ (List.mem_append_right _ lm13)))))))), List.forall_mem_cons.mpr ⟨(List.mem_cons_of_mem _ (List.mem_append_left _ (List.mem_append_left _ (List.mem_append_left _ lm4)))), (fun _ h => absurd h List.not_mem_nil)⟩⟩⟩⟩) (by decide +kernel)) (goodIn_sub (by unfold wsX2_takeWord; exact List.forall_mem_cons.mpr ⟨(List.mem_cons_of_mem _ (List.mem_append_left _ (List.mem_append_left _ (List.mem_append_right _ (List.mem_append_right _ (List.mem_append_right _ (List.mem_append_right _ (List.mem_append_right _ lm14)))))))), List.forall_mem_append.mpr ⟨List.forall_mem_append.mpr ⟨List.forall_mem_append.mpr ⟨List.forall_mem_cons.mpr ⟨(List.mem_cons_of_mem _ (List.mem_append_left _ (List.mem_append_left _ (List.mem_append_right _ (List.mem_append_right _ (List.mem_append_right _ (List.mem_append_right _ (List.mem_append_left _ lm20)))))))), List.forall_mem_cons.mpr ⟨(List.mem_cons_of_mem _ (List.mem_append_left _ (List.mem_append_left _ (List.mem_append_left _ lm0)))), List.forall_mem_cons.mpr ⟨(List.mem_cons_of_mem _ (List.mem_append_left _ (List.mem_append_left _ (List.mem_append_right _ (List.mem_append_right _ (List.mem_append_right _ (List.mem_append_right _ (List.mem_append_left _ lm15)))))))), List.forall_mem_cons.mpr ⟨(List.mem_cons_of_mem _ (List.mem_append_left _ (List.mem_append_left _ (List.mem_append_right _ (List.mem_append_right _ (List.mem_append_right _ (List.mem_append_right _ (List.mem_append_right _ lm15)))))))), List.forall_mem_cons.mpr ⟨(List.mem_cons_of_mem _ (List.mem_append_left _ (List.mem_append_left _ (List.mem_append_right _ (List.mem_append_right _ (List.mem_append_right _ (List.mem_append_right _ (List.mem_append_right _ lm16)))))))), List.forall_mem_cons.mpr ⟨(List.mem_cons_of_mem _ (List.mem_append_left _ (List.mem_append_left _ (List.mem_append_right _ (List.mem_append_right _ (List.mem_append_right _ (List.mem_append_right _ (List.mem_append_right _ lm17)))))))), List.forall_mem_cons.mpr ⟨(List.mem_cons_of_mem _ (List.mem_append_left _ (List.mem_append_left _ (List.mem_append_left _ lm4)))), List.forall_mem_cons.mpr ⟨(List.mem_cons_of_mem _ (List.mem_append_left _ (List.mem_append_left _ (List.mem_append_right _ (List.mem_append_right _ (List.mem_append_right _ (List.mem_append_right _ (List.mem_append_right _ lm18)))))))), List.forall_mem_cons.mpr ⟨(List.mem_cons_of_mem _ (List.mem_append_left _ (List.mem_append_left _ (List.mem_append_left _ lm8)))), List.forall_mem_cons.mpr ⟨(List.mem_cons_of_mem _ (List.mem_append_left _ (List.mem_append_left _ (List.mem_append_left _ lm9)))), List.forall_mem_cons.mpr ⟨(List.mem_cons_of_mem _ (List.mem_append_left _ (List.mem_append_left _ (List.mem_append_left _ lm10)))), List.forall_mem_cons.mpr ⟨(List.mem_cons_of_mem _ (List.mem_append_left _ (List.mem_append_left _ (List.mem_append_left _ lm11)))), List.forall_mem_cons.mpr ⟨(List.mem_cons_of_mem _ (List.mem_append_left _ (List.mem_append_left _ (List.mem_append_left _ lm12)))), List.forall_mem_cons.mpr ⟨(List.mem_cons_of_mem _ (List.mem_append_left _ (List.mem_append_left _ (List.mem_append_left _ lm13)))), List.forall_mem_cons.mpr ⟨(List.mem_cons_of_mem _ (List.mem_append_left _ (List.mem_append_left _ (List.mem_append_left _ lm14)))), List.forall_mem_cons.mpr ⟨(List.mem_cons_of_mem _ (List.mem_append_left _ (List.mem_append_left _ (List.mem_append_right _ (List.mem_append_right _ (List.mem_append_right _ (List.mem_append_right _ (List.mem_append_right _ lm3)))))))), List.forall_mem_cons.mpr ⟨(List.mem_cons_of_mem _ (List.mem_append_left _ (List.mem_append_left _ (List.mem_append_right _ (List.mem_append_right _ (List.mem_append_right _ (List.mem_append_right _ (List.mem_append_right _ lm4)))))))), List.forall_mem_cons.mpr ⟨(List.mem_cons_of_mem _ (List.mem_append_left _ (List.mem_append_left _ (List.mem_append_right _ (List.mem_append_right _ (List.mem_append_right _ (List.mem_append_right _ (List.mem_append_right _ lm5)))))))), List.forall_mem_cons.mpr ⟨(List.mem_cons_of_mem _ (List.mem_append_left _ (List.mem_append_left _ (List.mem_append_right _ (List.mem_append_right _ (List.mem_append_right _ (List.mem_append_right _ (List.mem_append_right _ lm6)))))))), List.forall_mem_cons.mpr ⟨(List.mem_cons_of_mem _ (List.mem_append_left _ (List.mem_append_left _ (List.mem_append_right _ (List.mem_append_right _ (List.mem_append_right _ (List.mem_append_right _ (List.mem_append_right _ lm2)))))))), List.forall_mem_cons.mpr ⟨(List.mem_cons_of_mem _ (List.mem_append_left _ (List.mem_append_left _ (List.mem_append_right _ (List.mem_append_right _ (List.mem_append_right _ (List.mem_append_right _ (List.mem_append_right _ lm7)))))))), List.forall_mem_cons.mpr ⟨(List.mem_cons_of_mem _ (List.mem_append_left _ (List.mem_append_left _ (List.mem_append_right _ (List.mem_append_right _ (List.mem_append_right _ (List.mem_append_right _ (List.mem_append_right _ lm8)))))))), List.forall_mem_cons.mpr ⟨(List.mem_cons_of_mem _ (List.mem_append_left _ (List.mem_append_left _ (List.mem_append_right _ (List.mem_append_right _ (List.mem_append_right _ (List.mem_append_right _ (List.mem_append_right _ lm9)))))))), List.forall_mem_cons.mpr ⟨(List.mem_cons_of_mem _ (List.mem_append_left _ (List.mem_append_left _ (List.mem_append_right _ (List.mem_append_right _ (List.mem_append_right _ (List.mem_append_right _ (List.mem_append_right _ lm10)))))))), (fun _ h => absurd h List.not_mem_nil)⟩⟩⟩⟩⟩⟩⟩⟩⟩⟩⟩⟩⟩⟩⟩⟩⟩⟩⟩⟩⟩⟩⟩⟩, List.forall_mem_cons.mpr ⟨(List.mem_cons_of_mem _ (List.mem_append_left _ (List.mem_append_left _ (List.mem_append_right _ (List.mem_append_right _ (List.mem_append_right _ (List.mem_append_right _ (List.mem_append_left _ lm21)))))))), List.forall_mem_cons.mpr ⟨(List.mem_cons_of_mem _ (List.mem_append_left _ (List.mem_append_left _ (List.mem_append_right _ (List.mem_append_right _ (List.mem_append_right _ (List.mem_append_right _ (List.mem_append_left _ lm22)))))))), List.forall_mem_cons.mpr ⟨(List.mem_cons_of_mem _ (List.mem_append_left _ (List.mem_append_left _ (List.mem_append_right _ (List.mem_append_right _ (List.mem_append_right _ (List.mem_append_right _ (List.mem_append_left _ lm23)))))))), List.forall_mem_cons.mpr ⟨(List.mem_cons_of_mem _ (List.mem_append_left _ (List.mem_append_left _ (List.mem_append_right _ (List.mem_append_right _ (List.mem_append_right _ (List.mem_append_right _ (List.mem_append_right _ lm0)))))))), List.forall_mem_cons.mpr ⟨(List.mem_cons_of_mem _ (List.mem_append_left _ (List.mem_append_left _ (List.mem_append_right _ (List.mem_append_right _ (List.mem_append_right _ (List.mem_append_right _ (List.mem_append_right _ lm1)))))))), List.forall_mem_cons.mpr ⟨(List.mem_cons_of_mem _ (List.mem_append_left _ (List.mem_append_left _ (List.mem_append_right _ (List.mem_append_right _ (List.mem_append_right _ (List.mem_append_right _ (List.mem_append_left _ lm8)))))))), List.forall_mem_cons.mpr ⟨(List.mem_cons_of_mem _ (List.mem_append_left _ (List.mem_append_left _ (List.mem_append_right _ (List.mem_append_right _ (List.mem_append_right _ (List.mem_append_right _ (List.mem_append_left _ lm9)))))))), List.forall_mem_cons.mpr ⟨(List.mem_cons_of_mem _ (List.mem_append_left _ (List.mem_append_left _ (List.mem_append_right _ (List.mem_append_right _ (List.mem_append_right _ (List.mem_append_right _ (List.mem_append_left _ lm10)))))))), List.forall_mem_cons.mpr ⟨(List.mem_cons_of_mem _ (List.mem_append_left _ (List.mem_append_left _ (List.mem_append_right _ (List.mem_append_right _ (List.mem_append_right _ (List.mem_append_right _ (List.mem_append_left _ lm11)))))))), List.forall_mem_cons.mpr ⟨(List.mem_cons_of_mem _ (List.mem_append_left _ (List.mem_append_left _ (List.mem_append_right _ (List.mem_append_right _ (List.mem_append_right _ (List.mem_append_right _ (List.mem_append_left _ lm12)))))))), List.forall_mem_cons.mpr ⟨(List.mem_cons_of_mem _ (List.mem_append_left _ (List.mem_append_left _ (List.mem_append_right _ (List.mem_append_right _ (List.mem_append_right _ (List.mem_append_right _ (List.mem_append_left _ lm13)))))))), List.forall_mem_cons.mpr ⟨(List.mem_cons_of_mem _ (List.mem_append_left _ (List.mem_append_left _ (List.mem_append_right _ (List.mem_append_right _ (List.mem_append_right _ (List.mem_append_right _ (List.mem_append_left _ lm14)))))))), (fun _ h => absurd h List.not_mem_nil)⟩⟩⟩⟩⟩⟩⟩⟩⟩⟩⟩⟩⟩, (fun _ h => (List.mem_cons_of_mem _ (List.mem_append_left _ (List.mem_append_right _ h))))⟩, (fun _ h => (List.mem_cons_of_mem _ (List.mem_append_right _ h)))⟩⟩) gw_X2_takeWord)
theorem gX2_takeElement_X2_addChar : GoodIn wsX2_takeElement (wsV RX2 64 RX2 yX2_addChar wsX2_addChar) := goodIn_app (goodIn_sub (List.forall_mem_cons.mpr ⟨(List.mem_cons_of_mem _ (List.mem_append_left _ (List.mem_append_left _ (List.mem_append_right _ (List.mem_append_right _ (List.mem_append_right _ (List.mem_append_right _ (List.mem_append_left _ lm21)))))))), List.forall_mem_cons.mpr ⟨(List.mem_cons_of_mem _ (List.mem_append_left _ (List.mem_append_left _ (List.mem_append_right _ (List.mem_append_right _ (List.mem_append_right _ (List.mem_append_right _ (List.mem_append_left _ lm22)))))))), List.forall_mem_cons.mpr ⟨(List.mem_cons_of_mem _ (List.mem_append_left _ (List.mem_append_left _ (List.mem_append_right _ (List.mem_append_right _ (List.mem_append_right _ (List.mem_append_right _ (List.mem_append_left _ lm23)))))))), List.forall_mem_cons.mpr ⟨(List.mem_cons_of_mem _ (List.mem_append_left _ (List.mem_append_left _ (List.mem_append_left _ lm4)))), (fun _ h => absurd h List.not_mem_nil)⟩⟩⟩⟩) (by decide +kernel)) (goodIn_sub (by unfold wsX2_addChar; exact List.forall_mem_cons.mpr ⟨(List.mem_cons_of_mem _ (List.mem_append_left _ (List.mem_append_left _ (List.mem_append_right _ (List.mem_append_right _ (List.mem_append_right _ (List.mem_append_right _ (List.mem_append_right _ lm0)))))))), List.forall_mem_append.mpr ⟨List.forall_mem_cons.mpr ⟨(List.mem_cons_of_mem _ (List.mem_append_left _ (List.mem_append_left _ (List.mem_append_right _ (List.mem_append_right _ (List.mem_append_right _ (List.mem_append_right _ (List.mem_append_right _ lm1)))))))), List.forall_mem_cons.mpr ⟨(List.mem_cons_of_mem _ (List.mem_append_left _ (List.mem_append_left _ (List.mem_append_right _ (List.mem_append_right _ (List.mem_append_right _ (List.mem_append_right _ (List.mem_append_right _ lm2)))))))), List.forall_mem_cons.mpr ⟨(List.mem_cons_of_mem _ (List.mem_append_left _ (List.mem_append_left _ (List.mem_append_right _ (List.mem_append_right _ (List.mem_append_right _ (List.mem_append_right _ (List.mem_append_left _ lm15)))))))), (fun _ h => absurd h List.not_mem_nil)⟩⟩⟩, (fun _ h => (List.mem_cons_of_mem _ (List.mem_append_right _ h)))⟩⟩) gw_X2_addChar)
theorem gX2_takeElement_X2_endChoice : GoodIn wsX2_takeElement (wsV RX2 68 RX2 yX2_endChoice wsX2_endChoice) := goodIn_app (goodIn_sub (List.forall_mem_cons.mpr ⟨(List.mem_cons_of_mem _ (List.mem_append_left _ (List.mem_append_left _ (List.mem_append_right _ (List.mem_append_right _ (List.mem_append_right _ (List.mem_append_right _ (List.mem_append_right _ lm7)))))))), List.forall_mem_cons.mpr ⟨(List.mem_cons_of_mem _ (List.mem_append_left _ (List.mem_append_left _ (List.mem_append_right _ (List.mem_append_right _ (List.mem_append_right _ (List.mem_append_right _ (List.mem_append_right _ lm8)))))))), List.forall_mem_cons.mpr ⟨(List.mem_cons_of_mem _ (List.mem_append_left _ (List.mem_append_left _ (List.mem_append_right _ (List.mem_append_right _ (List.mem_append_right _ (List.mem_append_right _ (List.mem_append_right _ lm9)))))))), List.forall_mem_cons.mpr ⟨(List.mem_cons_of_mem _ (List.mem_append_left _ (List.mem_append_left _ (List.mem_append_left _ lm4)))), (fun _ h => absurd h List.not_mem_nil)⟩⟩⟩⟩) (by decide +kernel)) (goodIn_sub (by unfold wsX2_endChoice; exact List.forall_mem_cons.mpr ⟨(List.mem_cons_of_mem _ (List.mem_append_left _ (List.mem_append_left _ (List.mem_append_right _ (List.mem_append_right _ (List.mem_append_right _ (List.mem_append_right _ (List.mem_append_right _ lm10)))))))), List.forall_mem_append.mpr ⟨List.forall_mem_cons.mpr ⟨(List.mem_cons_of_mem _ (List.mem_append_left _ (List.mem_append_left _ (List.mem_append_right _ (List.mem_append_right _ (List.mem_append_right _ (List.mem_append_right _ (List.mem_append_left _ lm15)))))))), List.forall_mem_cons.mpr ⟨(List.mem_cons_of_mem _ (List.mem_append_left _ (List.mem_append_left _ (List.mem_append_right _ (List.mem_append_right _ (List.mem_append_right _ (List.mem_append_right _ (List.mem_append_right _ lm2)))))))), (fun _ h => absurd h List.not_mem_nil)⟩⟩, (fun _ h => (List.mem_cons_of_mem _ (List.mem_append_right _ h)))⟩⟩) gw_X2_endChoice)
theorem gX2_takeElement_X2_endElement : GoodIn wsX2_takeElement (wsV RX2 71 RX2 yX2_endElement wsX2_endElement) := goodIn_app (goodIn_sub (List.forall_mem_cons.mpr ⟨(List.mem_cons_of_mem _ (List.mem_append_left _ (List.mem_append_left _ (List.mem_append_right _ (List.mem_append_right _ (List.mem_append_right _ (List.mem_append_right _ (List.mem_append_left _ lm8)))))))), List.forall_mem_cons.mpr ⟨(List.mem_cons_of_mem _ (List.mem_append_left _ (List.mem_append_left _ (List.mem_append_right _ (List.mem_append_right _ (List.mem_append_right _ (List.mem_append_right _ (List.mem_append_left _ lm9)))))))), List.forall_mem_cons.mpr ⟨(List.mem_cons_of_mem _ (List.mem_append_left _ (List.mem_append_left _ (List.mem_append_right _ (List.mem_append_right _ (List.mem_append_right _ (List.mem_append_right _ (List.mem_append_left _ lm10)))))))), List.forall_mem_cons.mpr ⟨(List.mem_cons_of_mem _ (List.mem_append_left _ (List.mem_append_left _ (List.mem_append_left _ lm4)))), (fun _ h => absurd h List.not_mem_nil)⟩⟩⟩⟩) (by decide +kernel)) (goodIn_sub (by unfold wsX2_endElement; exact List.forall_mem_cons.mpr ⟨(List.mem_cons_of_mem _ (List.mem_append_left _ (List.mem_append_left _ (List.mem_append_right _ (List.mem_append_right _ (List.mem_append_right _ (List.mem_append_right _ (List.mem_append_left _ lm11)))))))), List.forall_mem_append.mpr ⟨List.forall_mem_cons.mpr ⟨(List.mem_cons_of_mem _ (List.mem_append_left _ (List.mem_append_left _ (List.mem_append_right _ (List.mem_append_right _ (List.mem_append_right _ (List.mem_append_right _ (List.mem_append_left _ lm12)))))))), List.forall_mem_cons.mpr ⟨(List.mem_cons_of_mem _ (List.mem_append_left _ (List.mem_append_left _ (List.mem_append_right _ (List.mem_append_right _ (List.mem_append_right _ (List.mem_append_right _ (List.mem_append_left _ lm13)))))))), List.forall_mem_cons.mpr ⟨(List.mem_cons_of_mem _ (List.mem_append_left _ (List.mem_append_left _ (List.mem_append_right _ (List.mem_append_right _ (List.mem_append_right _ (List.mem_append_right _ (List.mem_append_left _ lm14)))))))), List.forall_mem_cons.mpr ⟨(List.mem_cons_of_mem _ (List.mem_append_left _ (List.mem_append_left _ (List.mem_append_right _ (List.mem_append_right _ (List.mem_append_right _ (List.mem_append_right _ (List.mem_append_left _ lm15)))))))), (fun _ h => absurd h List.not_mem_nil)⟩⟩⟩⟩, (fun _ h => (List.mem_cons_of_mem _ (List.mem_append_right _ h)))⟩⟩) gw_X2_endElement)
theorem gw_X2_takeOptional : wsX2_takeOptional.all goodWord = true := by decide +kernel
theorem gX2_takeElement_X2_takeOptional : GoodIn wsX2_takeElement (wsV RX2 61 RX2 yX2_takeOptional wsX2_takeOptional) := goodIn_app (goodIn_sub (List.forall_mem_cons.mpr ⟨(List.mem_cons_of_mem _ (List.mem_append_left _ (List.mem_append_left _ (List.mem_append_right _ (List.mem_append_right _ (List.mem_append_right _ (List.mem_append_right _ (List.mem_append_left _ lm16)))))))), List.forall_mem_cons.mpr ⟨(List.mem_cons_of_mem _ (List.mem_append_left _ (List.mem_append_left _ (List.mem_append_right _ (List.mem_append_right _ (List.mem_append_right _ (List.mem_append_right _ (List.mem_append_left _ lm17)))))))), List.forall_mem_cons.mpr ⟨(List.mem_cons_of_mem _ (List.mem_append_left _ (List.mem_append_left _ (List.mem_append_right _ (List.mem_append_right _ (List.mem_append_right _ (List.mem_append_right _ (List.mem_append_left _ lm18)))))))), List.forall_mem_cons.mpr ⟨(List.mem_cons_of_mem _ (List.mem_append_left _ (List.mem_append_left _ (List.mem_append_left _ lm4)))), (fun _ h => absurd h List.not_mem_nil)⟩⟩⟩⟩) (by decide +kernel)) (goodIn_sub (by unfold wsX2_takeOptional; exact List.forall_mem_cons.mpr ⟨(List.mem_cons_of_mem _ (List.mem_append_left _ (List.mem_append_left _ (List.mem_append_right _ (List.mem_append_right _ (List.mem_append_right _ (List.mem_append_right _ (List.mem_append_left _ lm19)))))))), List.forall_mem_append.mpr ⟨List.forall_mem_append.mpr ⟨List.forall_mem_append.mpr ⟨List.forall_mem_cons.mpr ⟨(List.mem_cons_of_mem _ (List.mem_append_left _ (List.mem_append_left _ (List.mem_append_right _ (List.mem_append_right _ (List.mem_append_right _ (List.mem_append_right _ (List.mem_append_left _ lm20)))))))), List.forall_mem_cons.mpr ⟨(List.mem_cons_of_mem _ (List.mem_append_left _ (List.mem_append_left _ (List.mem_append_left _ lm0)))), List.forall_mem_cons.mpr ⟨(List.mem_cons_of_mem _ (List.mem_append_left _ (List.mem_append_left _ (List.mem_append_right _ (List.mem_append_right _ (List.mem_append_right _ (List.mem_append_right _ (List.mem_append_left _ lm15)))))))), List.forall_mem_cons.mpr ⟨(List.mem_cons_of_mem _ (List.mem_append_left _ (List.mem_append_left _ (List.mem_append_left _ lm8)))), List.forall_mem_cons.mpr ⟨(List.mem_cons_of_mem _ (List.mem_append_left _ (List.mem_append_left _ (List.mem_append_left _ lm9)))), List.forall_mem_cons.mpr ⟨(List.mem_cons_of_mem _ (List.mem_append_left _ (List.mem_append_left _ (List.mem_append_left _ lm10)))), List.forall_mem_cons.mpr ⟨(List.mem_cons_of_mem _ (List.mem_append_left _ (List.mem_append_left _ (List.mem_append_left _ lm11)))), List.forall_mem_cons.mpr ⟨(List.mem_cons_of_mem _ (List.mem_append_left _ (List.mem_append_left _ (List.mem_append_left _ lm12)))), List.forall_mem_cons.mpr ⟨(List.mem_cons_of_mem _ (List.mem_append_left _ (List.mem_append_left _ (List.mem_append_left _ lm13)))), List.forall_mem_cons.mpr ⟨(List.mem_cons_of_mem _ (List.mem_append_left _ (List.mem_append_left _ (List.mem_append_left _ lm14)))), List.forall_mem_cons.mpr ⟨(List.mem_cons_of_mem _ (List.mem_append_left _ (List.mem_append_left _ (List.mem_append_right _ (List.mem_append_right _ (List.mem_append_right _ (List.mem_append_right _ (List.mem_append_left _ lm21)))))))), List.forall_mem_cons.mpr ⟨(List.mem_cons_of_mem _ (List.mem_append_left _ (List.mem_append_left _ (List.mem_append_right _ (List.mem_append_right _ (List.mem_append_right _ (List.mem_append_right _ (List.mem_append_left _ lm22)))))))), List.forall_mem_cons.mpr ⟨(List.mem_cons_of_mem _ (List.mem_append_left _ (List.mem_append_left _ (List.mem_append_right _ (List.mem_append_right _ (List.mem_append_right _ (List.mem_append_right _ (List.mem_append_left _ lm23)))))))), List.forall_mem_cons.mpr ⟨(List.mem_cons_of_mem _ (List.mem_append_left _ (List.mem_append_left _ (List.mem_append_left _ lm4)))), List.forall_mem_cons.mpr ⟨(List.mem_cons_of_mem _ (List.mem_append_left _ (List.mem_append_left _ (List.mem_append_right _ (List.mem_append_right _ (List.mem_append_right _ (List.mem_append_right _ (List.mem_append_right _ lm0)))))))), List.forall_mem_cons.mpr ⟨(List.mem_cons_of_mem _ (List.mem_append_left _ (List.mem_append_left _ (List.mem_append_right _ (List.mem_append_right _ (List.mem_append_right _ (List.mem_append_right _ (List.mem_append_right _ lm1)))))))), List.forall_mem_cons.mpr ⟨(List.mem_cons_of_mem _ (List.mem_append_left _ (List.mem_append_left _ (List.mem_append_right _ (List.mem_append_right _ (List.mem_append_right _ (List.mem_append_right _ (List.mem_append_right _ lm2)))))))), List.forall_mem_cons.mpr ⟨(List.mem_cons_of_mem _ (List.mem_append_left _ (List.mem_append_left _ (List.mem_append_right _ (List.mem_append_right _ (List.mem_append_right _ (List.mem_append_right _ (List.mem_append_right _ lm3)))))))), List.forall_mem_cons.mpr ⟨(List.mem_cons_of_mem _ (List.mem_append_left _ (List.mem_append_left _ (List.mem_append_right _ (List.mem_append_right _ (List.mem_append_right _ (List.mem_append_right _ (List.mem_append_right _ lm4)))))))), List.forall_mem_cons.mpr ⟨(List.mem_cons_of_mem _ (List.mem_append_left _ (List.mem_append_left _ (List.mem_append_right _ (List.mem_append_right _ (List.mem_append_right _ (List.mem_append_right _ (List.mem_append_right _ lm5)))))))), List.forall_mem_cons.mpr ⟨(List.mem_cons_of_mem _ (List.mem_append_left _ (List.mem_append_left _ (List.mem_append_right _ (List.mem_append_right _ (List.mem_append_right _ (List.mem_append_right _ (List.mem_append_right _ lm6)))))))), List.forall_mem_cons.mpr ⟨(List.mem_cons_of_mem _ (List.mem_append_left _ (List.mem_append_left _ (List.mem_append_right _ (List.mem_append_right _ (List.mem_append_right _ (List.mem_append_right _ (List.mem_append_right _ lm7)))))))), List.forall_mem_cons.mpr ⟨(List.mem_cons_of_mem _ (List.mem_append_left _ (List.mem_append_left _ (List.mem_append_right _ (List.mem_append_right _ (List.mem_append_right _ (List.mem_append_right _ (List.mem_append_right _ lm8)))))))), List.forall_mem_cons.mpr ⟨(List.mem_cons_of_mem _ (List.mem_append_left _ (List.mem_append_left _ (List.mem_append_right _ (List.mem_append_right _ (List.mem_append_right _ (List.mem_append_right _ (List.mem_append_right _ lm9)))))))), (fun _ h => absurd h List.not_mem_nil)⟩⟩⟩⟩⟩⟩⟩⟩⟩⟩⟩⟩⟩⟩⟩⟩⟩⟩⟩⟩⟩⟩⟩⟩, List.forall_mem_cons.mpr ⟨(List.mem_cons_of_mem _ (List.mem_append_left _ (List.mem_append_left _ (List.mem_append_right _ (List.mem_append_right _ (List.mem_append_right _ (List.mem_append_right _ (List.mem_append_right _ lm10)))))))), List.forall_mem_cons.mpr ⟨(List.mem_cons_of_mem _ (List.mem_append_left _ (List.mem_append_left _ (List.mem_append_right _ (List.mem_append_right _ (List.mem_append_right _ (List.mem_append_right _ (List.mem_append_left _ lm8)))))))), List.forall_mem_cons.mpr ⟨(List.mem_cons_of_mem _ (List.mem_append_left _ (List.mem_append_left _ (List.mem_append_right _ (List.mem_append_right _ (List.mem_append_right _ (List.mem_append_right _ (List.mem_append_left _ lm9)))))))), List.forall_mem_cons.mpr ⟨(List.mem_cons_of_mem _ (List.mem_append_left _ (List.mem_append_left _ (List.mem_append_right _ (List.mem_append_right _ (List.mem_append_right _ (List.mem_append_right _ (List.mem_append_left _ lm10)))))))), List.forall_mem_cons.mpr ⟨(List.mem_cons_of_mem _ (List.mem_append_left _ (List.mem_append_left _ (List.mem_append_right _ (List.mem_append_right _ (List.mem_append_right _ (List.mem_append_right _ (List.mem_append_left _ lm11)))))))), List.forall_mem_cons.mpr ⟨(List.mem_cons_of_mem _ (List.mem_append_left _ (List.mem_append_left _ (List.mem_append_right _ (List.mem_append_right _ (List.mem_append_right _ (List.mem_append_right _ (List.mem_append_left _ lm12)))))))), List.forall_mem_cons.mpr ⟨(List.mem_cons_of_mem _ (List.mem_append_left _ (List.mem_append_left _ (List.mem_append_right _ (List.mem_append_right _ (List.mem_append_right _ (List.mem_append_right _ (List.mem_append_left _ lm13)))))))), List.forall_mem_cons.mpr ⟨(List.mem_cons_of_mem _ (List.mem_append_left _ (List.mem_append_left _ (List.mem_append_right _ (List.mem_append_right _ (List.mem_append_right _ (List.mem_append_right _ (List.mem_append_left _ lm14)))))))), (fun _ h => absurd h List.not_mem_nil)⟩⟩⟩⟩⟩⟩⟩⟩⟩, (fun _ h => (List.mem_cons_of_mem _ (List.mem_append_left _ (List.mem_append_right _ h))))⟩, (fun _ h => (List.mem_cons_of_mem _ (List.mem_append_right _ h)))⟩⟩) gw_X2_takeOptional)
theorem gw_X2_takeParameter : wsX2_takeParameter.all goodWord = true := by decide +kernel
theorem gX2_takeElement_X2_takeParameter : GoodIn wsX2_takeElement (wsV RX2 58 RX2 yX2_takeParameter wsX2_takeParameter) := goodIn_app (goodIn_sub (List.forall_mem_cons.mpr ⟨(List.mem_cons_of_mem _ (List.mem_append_left _ (List.mem_append_left _ (List.mem_append_left _ lm1)))), List.forall_mem_cons.mpr ⟨(List.mem_cons_of_mem _ (List.mem_append_left _ (List.mem_append_left _ (List.mem_append_left _ lm2)))), List.forall_mem_cons.mpr ⟨(List.mem_cons_of_mem _ (List.mem_append_left _ (List.mem_append_left _ (List.mem_append_left _ lm3)))), List.forall_mem_cons.mpr ⟨(List.mem_cons_of_mem _ (List.mem_append_left _ (List.mem_append_left _ (List.mem_append_left _ lm4)))), (fun _ h => absurd h List.not_mem_nil)⟩⟩⟩⟩) (by decide +kernel)) (goodIn_sub (by unfold wsX2_takeParameter; exact List.forall_mem_cons.mpr ⟨(List.mem_cons_of_mem _ (List.mem_append_left _ (List.mem_append_left _ (List.mem_append_left _ lm5)))), List.forall_mem_append.mpr ⟨List.forall_mem_append.mpr ⟨List.forall_mem_append.mpr ⟨List.forall_mem_cons.mpr ⟨(List.mem_cons_of_mem _ (List.mem_append_left _ (List.mem_append_left _ (List.mem_append_left _ lm6)))), List.forall_mem_cons.mpr ⟨(List.mem_cons_of_mem _ (List.mem_append_left _ (List.mem_append_left _ (List.mem_append_left _ lm7)))), List.forall_mem_cons.mpr ⟨(List.mem_cons_of_mem _ (List.mem_append_left _ (List.mem_append_left _ (List.mem_append_left _ lm8)))), List.forall_mem_cons.mpr ⟨(List.mem_cons_of_mem _ (List.mem_append_left _ (List.mem_append_left _ (List.mem_append_left _ lm9)))), List.forall_mem_cons.mpr ⟨(List.mem_cons_of_mem _ (List.mem_append_left _ (List.mem_append_left _ (List.mem_append_left _ lm10)))), List.forall_mem_cons.mpr ⟨(List.mem_cons_of_mem _ (List.mem_append_left _ (List.mem_append_left _ (List.mem_append_left _ lm11)))), List.forall_mem_cons.mpr ⟨(List.mem_cons_of_mem _ (List.mem_append_left _ (List.mem_append_left _ (List.mem_append_left _ lm12)))), List.forall_mem_cons.mpr ⟨(List.mem_cons_of_mem _ (List.mem_append_left _ (List.mem_append_left _ (List.mem_append_left _ lm13)))), List.forall_mem_cons.mpr ⟨(List.mem_cons_of_mem _ (List.mem_append_left _ (List.mem_append_left _ (List.mem_append_left _ lm14)))), List.forall_mem_cons.mpr ⟨(List.mem_cons_of_mem _ (List.mem_append_left _ (List.mem_append_left _ (List.mem_append_left _ lm15)))), List.forall_mem_cons.mpr ⟨(List.mem_cons_of_mem _ (List.mem_append_left _ (List.mem_append_left _ (List.mem_append_left _ lm16)))), List.forall_mem_cons.mpr ⟨(List.mem_cons_of_mem _ (List.mem_append_left _ (List.mem_append_left _ (List.mem_append_left _ lm17)))), List.forall_mem_cons.mpr ⟨(List.mem_cons_of_mem _ (List.mem_append_left _ (List.mem_append_left _ (List.mem_append_left _ lm18)))), List.forall_mem_cons.mpr ⟨(List.mem_cons_of_mem _ (List.mem_append_left _ (List.mem_append_left _ (List.mem_append_left _ lm19)))), List.forall_mem_cons.mpr ⟨(List.mem_cons_of_mem _ (List.mem_append_left _ (List.mem_append_left _ (List.mem_append_left _ lm20)))), List.forall_mem_cons.mpr ⟨(List.mem_cons_of_mem _ (List.mem_append_left _ (List.mem_append_left _ (List.mem_append_left _ lm21)))), List.forall_mem_cons.mpr ⟨(List.mem_cons_of_mem _ (List.mem_append_left _ (List.mem_append_left _ (List.mem_append_left _ lm22)))), List.forall_mem_cons.mpr ⟨(List.mem_cons_of_mem _ (List.mem_append_left _ (List.mem_append_left _ (List.mem_append_left _ lm23)))), List.forall_mem_cons.mpr ⟨(List.mem_cons_of_mem _ (List.mem_append_left _ (List.mem_append_left _ (List.mem_append_right _ (List.mem_append_left _ lm0))))), List.forall_mem_cons.mpr ⟨(List.mem_cons_of_mem _ (List.mem_append_left _ (List.mem_append_left _ (List.mem_append_right _ (List.mem_append_left _ lm1))))), List.forall_mem_cons.mpr ⟨(List.mem_cons_of_mem _ (List.mem_append_left _ (List.mem_append_left _ (List.mem_append_right _ (List.mem_append_left _ lm2))))), List.forall_mem_cons.mpr ⟨(List.mem_cons_of_mem _ (List.mem_append_left _ (List.mem_append_left _ (List.mem_append_right _ (List.mem_append_left _ lm3))))), List.forall_mem_cons.mpr ⟨(List.mem_cons_of_mem _ (List.mem_append_left _ (List.mem_append_left _ (List.mem_append_right _ (List.mem_append_left _ lm4))))), List.forall_mem_cons.mpr ⟨(List.mem_cons_of_mem _ (List.mem_append_left _ (List.mem_append_left _ (List.mem_append_right _ (List.mem_append_left _ lm5))))), (fun _ h => absurd h List.not_mem_nil)⟩⟩⟩⟩⟩⟩⟩⟩⟩⟩⟩⟩⟩⟩⟩⟩⟩⟩⟩⟩⟩⟩⟩⟩, List.forall_mem_append.mpr ⟨List.forall_mem_cons.mpr ⟨(List.mem_cons_of_mem _ (List.mem_append_left _ (List.mem_append_left _ (List.mem_append_right _ (List.mem_append_left _ lm6))))), List.forall_mem_cons.mpr ⟨(List.mem_cons_of_mem _ (List.mem_append_left _ (List.mem_append_left _ (List.mem_append_right _ (List.mem_append_left _ lm7))))), List.forall_mem_cons.mpr ⟨(List.mem_cons_of_mem _ (List.mem_append_left _ (List.mem_append_left _ (List.mem_append_right _ (List.mem_append_left _ lm8))))), List.forall_mem_cons.mpr ⟨(List.mem_cons_of_mem _ (List.mem_append_left _ (List.mem_append_left _ (List.mem_append_right _ (List.mem_append_left _ lm9))))), List.forall_mem_cons.mpr ⟨(List.mem_cons_of_mem _ (List.mem_append_left _ (List.mem_append_left _ (List.mem_append_right _ (List.mem_append_left _ lm10))))), List.forall_mem_cons.mpr ⟨(List.mem_cons_of_mem _ (List.mem_append_left _ (List.mem_append_left _ (List.mem_append_right _ (List.mem_append_left _ lm11))))), List.forall_mem_cons.mpr ⟨(List.mem_cons_of_mem _ (List.mem_append_left _ (List.mem_append_left _ (List.mem_append_right _ (List.mem_append_left _ lm12))))), List.forall_mem_cons.mpr ⟨(List.mem_cons_of_mem _ (List.mem_append_left _ (List.mem_append_left _ (List.mem_append_right _ (List.mem_append_left _ lm13))))), List.forall_mem_cons.mpr ⟨(List.mem_cons_of_mem _ (List.mem_append_left _ (List.mem_append_left _ (List.mem_append_right _ (List.mem_append_left _ lm14))))), List.forall_mem_cons.mpr ⟨(List.mem_cons_of_mem _ (List.mem_append_left _ (List.mem_append_left _ (List.mem_append_right _ (List.mem_append_left _ lm15))))), List.forall_mem_cons.mpr ⟨(List.mem_cons_of_mem _ (List.mem_append_left _ (List.mem_append_left _ (List.mem_append_right _ (List.mem_append_left _ lm16))))), List.forall_mem_cons.mpr ⟨(List.mem_cons_of_mem _ (List.mem_append_left _ (List.mem_append_left _ (List.mem_append_right _ (List.mem_append_left _ lm17))))), List.forall_mem_cons.mpr ⟨(List.mem_cons_of_mem _ (List.mem_append_left _ (List.mem_append_left _ (List.mem_append_right _ (List.mem_append_left _ lm18))))), List.forall_mem_cons.mpr ⟨(List.mem_cons_of_mem _ (List.mem_append_left _ (List.mem_append_left _ (List.mem_append_right _ (List.mem_append_left _ lm19))))), List.forall_mem_cons.mpr ⟨(List.mem_cons_of_mem _ (List.mem_append_left _ (List.mem_append_left _ (List.mem_append_right _ (List.mem_append_left _ lm20))))), List.forall_mem_cons.mpr ⟨(List.mem_cons_of_mem _ (List.mem_append_left _ (List.mem_append_left _ (List.mem_append_right _ (List.mem_append_left _ lm21))))), List.forall_mem_cons.mpr ⟨(List.mem_cons_of_mem _ (List.mem_append_left _ (List.mem_append_left _ (List.mem_append_right _ (List.mem_append_left _ lm22))))), List.forall_mem_cons.mpr ⟨(List.mem_cons_of_mem _ (List.mem_append_left _ (List.mem_append_left _ (List.mem_append_right _ (List.mem_append_left _ lm23))))), List.forall_mem_cons.mpr ⟨(List.mem_cons_of_mem _ (List.mem_append_left _ (List.mem_append_left _ (List.mem_append_right _ (List.mem_append_right _ (List.mem_append_left _ lm0)))))), List.forall_mem_cons.mpr ⟨(List.mem_cons_of_mem _ (List.mem_append_left _ (List.mem_append_left _ (List.mem_append_right _ (List.mem_append_right _ (List.mem_append_left _ lm1)))))), List.forall_mem_cons.mpr ⟨(List.mem_cons_of_mem _ (List.mem_append_left _ (List.mem_append_left _ (List.mem_append_right _ (List.mem_append_right _ (List.mem_append_left _ lm2)))))), List.forall_mem_cons.mpr ⟨(List.mem_cons_of_mem _ (List.mem_append_left _ (List.mem_append_left _ (List.mem_append_right _ (List.mem_append_right _ (List.mem_append_left _ lm3)))))), List.forall_mem_cons.mpr ⟨(List.mem_cons_of_mem _ (List.mem_append_left _ (List.mem_append_left _ (List.mem_append_right _ (List.mem_append_right _ (List.mem_append_left _ lm4)))))), List.forall_mem_cons.mpr ⟨(List.mem_cons_of_mem _ (List.mem_append_left _ (List.mem_append_left _ (List.mem_append_right _ (List.mem_append_right _ (List.mem_append_left _ lm5)))))), (fun _ h => absurd h List.not_mem_nil)⟩⟩⟩⟩⟩⟩⟩⟩⟩⟩⟩⟩⟩⟩⟩⟩⟩⟩⟩⟩⟩⟩⟩⟩, List.forall_mem_append.mpr ⟨List.forall_mem_cons.mpr ⟨(List.mem_cons_of_mem _ (List.mem_append_left _ (List.mem_append_left _ (List.mem_append_right _ (List.mem_append_right _ (List.mem_append_left _ lm6)))))), List.forall_mem_cons.mpr ⟨(List.mem_cons_of_mem _ (List.mem_append_left _ (List.mem_append_left _ (List.mem_append_right _ (List.mem_append_right _ (List.mem_append_left _ lm7)))))), List.forall_mem_cons.mpr ⟨(List.mem_cons_of_mem _ (List.mem_append_left _ (List.mem_append_left _ (List.mem_append_right _ (List.mem_append_right _ (List.mem_append_left _ lm8)))))), List.forall_mem_cons.mpr ⟨(List.mem_cons_of_mem _ (List.mem_append_left _ (List.mem_append_left _ (List.mem_append_right _ (List.mem_append_right _ (List.mem_append_left _ lm9)))))), List.forall_mem_cons.mpr ⟨(List.mem_cons_of_mem _ (List.mem_append_left _ (List.mem_append_left _ (List.mem_append_right _ (List.mem_append_right _ (List.mem_append_left _ lm10)))))), List.forall_mem_cons.mpr ⟨(List.mem_cons_of_mem _ (List.mem_append_left _ (List.mem_append_left _ (List.mem_append_right _ (List.mem_append_right _ (List.mem_append_left _ lm11)))))), List.forall_mem_cons.mpr ⟨(List.mem_cons_of_mem _ (List.mem_append_left _ (List.mem_append_left _ (List.mem_append_right _ (List.mem_append_right _ (List.mem_append_left _ lm12)))))), List.forall_mem_cons.mpr ⟨(List.mem_cons_of_mem _ (List.mem_append_left _ (List.mem_append_left _ (List.mem_append_right _ (List.mem_append_right _ (List.mem_append_left _ lm13)))))), List.forall_mem_cons.mpr ⟨(List.mem_cons_of_mem _ (List.mem_append_left _ (List.mem_append_left _ (List.mem_append_right _ (List.mem_append_right _ (List.mem_append_left _ lm14)))))), List.forall_mem_cons.mpr ⟨(List.mem_cons_of_mem _ (List.mem_append_left _ (List.mem_append_left _ (List.mem_append_right _ (List.mem_append_right _ (List.mem_append_left _ lm15)))))), List.forall_mem_cons.mpr ⟨(List.mem_cons_of_mem _ (List.mem_append_left _ (List.mem_append_left _ (List.mem_append_right _ (List.mem_append_right _ (List.mem_append_left _ lm16)))))), List.forall_mem_cons.mpr ⟨(List.mem_cons_of_mem _ (List.mem_append_left _ (List.mem_append_left _ (List.mem_append_right _ (List.mem_append_right _ (List.mem_append_left _ lm17)))))), List.forall_mem_cons.mpr ⟨(List.mem_cons_of_mem _ (List.mem_append_left _ (List.mem_append_left _ (List.mem_append_right _ (List.mem_append_right _ (List.mem_append_left _ lm18)))))), List.forall_mem_cons.mpr ⟨(List.mem_cons_of_mem _ (List.mem_append_left _ (List.mem_append_left _ (List.mem_append_right _ (List.mem_append_right _ (List.mem_append_left _ lm19)))))), List.forall_mem_cons.mpr ⟨(List.mem_cons_of_mem _ (List.mem_append_left _ (List.mem_append_left _ (List.mem_append_right _ (List.mem_append_right _ (List.mem_append_left _ lm20)))))), List.forall_mem_cons.mpr ⟨(List.mem_cons_of_mem _ (List.mem_append_left _ (List.mem_append_left _ (List.mem_append_right _ (List.mem_append_right _ (List.mem_append_left _ lm21)))))), List.forall_mem_cons.mpr ⟨(List.mem_cons_of_mem _ (List.mem_append_left _ (List.mem_append_left _ (List.mem_append_right _ (List.mem_append_right _ (List.mem_append_left _ lm22)))))), List.forall_mem_cons.mpr ⟨(List.mem_cons_of_mem _ (List.mem_append_left _ (List.mem_append_left _ (List.mem_append_right _ (List.mem_append_right _ (List.mem_append_left _ lm23)))))), List.forall_mem_cons.mpr ⟨(List.mem_cons_of_mem _ (List.mem_append_left _ (List.mem_append_left _ (List.mem_append_right _ (List.mem_append_right _ (List.mem_append_right _ (List.mem_append_left _ lm0))))))), List.forall_mem_cons.mpr ⟨(List.mem_cons_of_mem _ (List.mem_append_left _ (List.mem_append_left _ (List.mem_append_right _ (List.mem_append_right _ (List.mem_append_right _ (List.mem_append_left _ lm1))))))), List.forall_mem_cons.mpr ⟨(List.mem_cons_of_mem _ (List.mem_append_left _ (List.mem_append_left _ (List.mem_append_right _ (List.mem_append_right _ (List.mem_append_right _ (List.mem_append_left _ lm2))))))), List.forall_mem_cons.mpr ⟨(List.mem_cons_of_mem _ (List.mem_append_left _ (List.mem_append_left _ (List.mem_append_right _ (List.mem_append_right _ (List.mem_append_right _ (List.mem_append_left _ lm3))))))), List.forall_mem_cons.mpr ⟨(List.mem_cons_of_mem _ (List.mem_append_left _ (List.mem_append_left _ (List.mem_append_right _ (List.mem_append_right _ (List.mem_append_right _ (List.mem_append_left _ lm4))))))), List.forall_mem_cons.mpr ⟨(List.mem_cons_of_mem _ (List.mem_append_left _ (List.mem_append_left _ (List.mem_append_right _ (List.mem_append_right _ (List.mem_append_right _ (List.mem_append_left _ lm5))))))), (fun _ h => absurd h List.not_mem_nil)⟩⟩⟩⟩⟩⟩⟩⟩⟩⟩⟩⟩⟩⟩⟩⟩⟩⟩⟩⟩⟩⟩⟩⟩, List.forall_mem_append.mpr ⟨List.forall_mem_cons.mpr ⟨(List.mem_cons_of_mem _ (List.mem_append_left _ (List.mem_append_left _ (List.mem_append_right _ (List.mem_append_right _ (List.mem_append_right _ (List.mem_append_left _ lm6))))))), List.forall_mem_cons.mpr ⟨(List.mem_cons_of_mem _ (List.mem_append_left _ (List.mem_append_left _ (List.mem_append_right _ (List.mem_append_right _ (List.mem_append_right _ (List.mem_append_left _ lm7))))))), List.forall_mem_cons.mpr ⟨(List.mem_cons_of_mem _ (List.mem_append_left _ (List.mem_append_left _ (List.mem_append_right _ (List.mem_append_right _ (List.mem_append_right _ (List.mem_append_left _ lm8))))))), List.forall_mem_cons.mpr ⟨(List.mem_cons_of_mem _ (List.mem_append_left _ (List.mem_append_left _ (List.mem_append_right _ (List.mem_append_right _ (List.mem_append_right _ (List.mem_append_left _ lm9))))))), List.forall_mem_cons.mpr ⟨(List.mem_cons_of_mem _ (List.mem_append_left _ (List.mem_append_left _ (List.mem_append_right _ (List.mem_append_right _ (List.mem_append_right _ (List.mem_append_left _ lm10))))))), List.forall_mem_cons.mpr ⟨(List.mem_cons_of_mem _ (List.mem_append_left _ (List.mem_append_left _ (List.mem_append_right _ (List.mem_append_right _ (List.mem_append_right _ (List.mem_append_left _ lm11))))))), List.forall_mem_cons.mpr ⟨(List.mem_cons_of_mem _ (List.mem_append_left _ (List.mem_append_left _ (List.mem_append_right _ (List.mem_append_right _ (List.mem_append_right _ (List.mem_append_left _ lm12))))))), List.forall_mem_cons.mpr ⟨(List.mem_cons_of_mem _ (List.mem_append_left _ (List.mem_append_left _ (List.mem_append_right _ (List.mem_append_right _ (List.mem_append_right _ (List.mem_append_left _ lm13))))))), List.forall_mem_cons.mpr ⟨(List.mem_cons_of_mem _ (List.mem_append_left _ (List.mem_append_left _ (List.mem_append_right _ (List.mem_append_right _ (List.mem_append_right _ (List.mem_append_left _ lm14))))))), List.forall_mem_cons.mpr ⟨(List.mem_cons_of_mem _ (List.mem_append_left _ (List.mem_append_left _ (List.mem_append_right _ (List.mem_append_right _ (List.mem_append_right _ (List.mem_append_left _ lm15))))))), List.forall_mem_cons.mpr ⟨(List.mem_cons_of_mem _ (List.mem_append_left _ (List.mem_append_left _ (List.mem_append_right _ (List.mem_append_right _ (List.mem_append_right _ (List.mem_append_left _ lm16))))))), List.forall_mem_cons.mpr ⟨(List.mem_cons_of_mem _ (List.mem_append_left _ (List.mem_append_left _ (List.mem_append_right _ (List.mem_append_right _ (List.mem_append_right _ (List.mem_append_left _ lm17))))))), List.forall_mem_cons.mpr ⟨(List.mem_cons_of_mem _ (List.mem_append_left _ (List.mem_append_left _ (List.mem_append_right _ (List.mem_append_right _ (List.mem_append_right _ (List.mem_append_left _ lm18))))))), List.forall_mem_cons.mpr ⟨(List.mem_cons_of_mem _ (List.mem_append_left _ (List.mem_append_left _ (List.mem_append_right _ (List.mem_append_right _ (List.mem_append_right _ (List.mem_append_left _ lm19))))))), List.forall_mem_cons.mpr ⟨(List.mem_cons_of_mem _ (List.mem_append_left _ (List.mem_append_left _ (List.mem_append_right _ (List.mem_append_right _ (List.mem_append_right _ (List.mem_append_left _ lm20))))))), List.forall_mem_cons.mpr ⟨(List.mem_cons_of_mem _ (List.mem_append_left _ (List.mem_append_left _ (List.mem_append_right _ (List.mem_append_right _ (List.mem_append_right _ (List.mem_append_left _ lm21))))))), List.forall_mem_cons.mpr ⟨(List.mem_cons_of_mem _ (List.mem_append_left _ (List.mem_append_left _ (List.mem_append_right _ (List.mem_append_right _ (List.mem_append_right _ (List.mem_append_left _ lm22))))))), List.forall_mem_cons.mpr ⟨(List.mem_cons_of_mem _ (List.mem_append_left _ (List.mem_append_left _ (List.mem_append_right _ (List.mem_append_right _ (List.mem_append_right _ (List.mem_append_left _ lm23))))))), List.forall_mem_cons.mpr ⟨(List.mem_cons_of_mem _ (List.mem_append_left _ (List.mem_append_left _ (List.mem_append_right _ (List.mem_append_right _ (List.mem_append_right _ (List.mem_append_right _ (List.mem_append_left _ lm0)))))))), List.forall_mem_cons.mpr ⟨(List.mem_cons_of_mem _ (List.mem_append_left _ (List.mem_append_left _ (List.mem_append_right _ (List.mem_append_right _ (List.mem_append_right _ (List.mem_append_right _ (List.mem_append_left _ lm1)))))))), List.forall_mem_cons.mpr ⟨(List.mem_cons_of_mem _ (List.mem_append_left _ (List.mem_append_left _ (List.mem_append_right _ (List.mem_append_right _ (List.mem_append_right _ (List.mem_append_right _ (List.mem_append_left _ lm2)))))))), List.forall_mem_cons.mpr ⟨(List.mem_cons_of_mem _ (List.mem_append_left _ (List.mem_append_left _ (List.mem_append_right _ (List.mem_append_right _ (List.mem_append_right _ (List.mem_append_right _ (List.mem_append_left _ lm3)))))))), List.forall_mem_cons.mpr ⟨(List.mem_cons_of_mem _ (List.mem_append_left _ (List.mem_append_left _ (List.mem_append_right _ (List.mem_append_right _ (List.mem_append_right _ (List.mem_append_right _ (List.mem_append_left _ lm4)))))))), List.forall_mem_cons.mpr ⟨(List.mem_cons_of_mem _ (List.mem_append_left _ (List.mem_append_left _ (List.mem_append_right _ (List.mem_append_right _ (List.mem_append_right _ (List.mem_append_right _ (List.mem_append_left _ lm5)))))))), (fun _ h => absurd h List.not_mem_nil)⟩⟩⟩⟩⟩⟩⟩⟩⟩⟩⟩⟩⟩⟩⟩⟩⟩⟩⟩⟩⟩⟩⟩⟩, List.forall_mem_cons.mpr ⟨(List.mem_cons_of_mem _ (List.mem_append_left _ (List.mem_append_left _ (List.mem_append_right _ (List.mem_append_right _ (List.mem_append_right _ (List.mem_append_right _ (List.mem_append_left _ lm6)))))))), List.forall_mem_cons.mpr ⟨(List.mem_cons_of_mem _ (List.mem_append_left _ (List.mem_append_left _ (List.mem_append_right _ (List.mem_append_right _ (List.mem_append_right _ (List.mem_append_right _ (List.mem_append_left _ lm7)))))))), List.forall_mem_cons.mpr ⟨(List.mem_cons_of_mem _ (List.mem_append_left _ (List.mem_append_left _ (List.mem_append_right _ (List.mem_append_right _ (List.mem_append_right _ (List.mem_append_right _ (List.mem_append_left _ lm8)))))))), List.forall_mem_cons.mpr ⟨(List.mem_cons_of_mem _ (List.mem_append_left _ (List.mem_append_left _ (List.mem_append_right _ (List.mem_append_right _ (List.mem_append_right _ (List.mem_append_right _ (List.mem_append_left _ lm9)))))))), List.forall_mem_cons.mpr ⟨(List.mem_cons_of_mem _ (List.mem_append_left _ (List.mem_append_left _ (List.mem_append_right _ (List.mem_append_right _ (List.mem_append_right _ (List.mem_append_right _ (List.mem_append_left _ lm10)))))))), List.forall_mem_cons.mpr ⟨(List.mem_cons_of_mem _ (List.mem_append_left _ (List.mem_append_left _ (List.mem_append_left _ lm4)))), List.forall_mem_cons.mpr ⟨(List.mem_cons_of_mem _ (List.mem_append_left _ (List.mem_append_left _ (List.mem_append_right _ (List.mem_append_right _ (List.mem_append_right _ (List.mem_append_right _ (List.mem_append_left _ lm11)))))))), List.forall_mem_cons.mpr ⟨(List.mem_cons_of_mem _ (List.mem_append_left _ (List.mem_append_left _ (List.mem_append_right _ (List.mem_append_right _ (List.mem_append_right _ (List.mem_append_right _ (List.mem_append_left _ lm12)))))))), List.forall_mem_cons.mpr ⟨(List.mem_cons_of_mem _ (List.mem_append_left _ (List.mem_append_left _ (List.mem_append_right _ (List.mem_append_right _ (List.mem_append_right _ (List.mem_append_right _ (List.mem_append_left _ lm13)))))))), List.forall_mem_cons.mpr ⟨(List.mem_cons_of_mem _ (List.mem_append_left _ (List.mem_append_left _ (List.mem_append_right _ (List.mem_append_right _ (List.mem_append_right _ (List.mem_append_right _ (List.mem_append_left _ lm14)))))))), List.forall_mem_cons.mpr ⟨(List.mem_cons_of_mem _ (List.mem_append_left _ (List.mem_append_left _ (List.mem_append_right _ (List.mem_append_right _ (List.mem_append_right _ (List.mem_append_right _ (List.mem_append_left _ lm15)))))))), (fun _ h => absurd h List.not_mem_nil)⟩⟩⟩⟩⟩⟩⟩⟩⟩⟩⟩⟩⟩⟩⟩, (fun _ h => (List.mem_cons_of_mem _ (List.mem_append_right _ h)))⟩, (fun _ h => (List.mem_cons_of_mem _ (List.mem_append_left _ (List.mem_append_right _ h))))⟩⟩) gw_X2_takeParameter)
theorem gw_X2_takeElement : wsX2_takeElement.all goodWord = true := by decide +kernel
theorem gX2_take_X2_takeElement : GoodIn wsX2_take (wsV RX2 53 RX2 yX2_takeElement wsX2_takeElement) := goodIn_app (goodIn_sub (List.forall_mem_cons.mpr ⟨(List.mem_cons_of_mem _ (List.mem_append_left _ (List.mem_append_left _ (List.mem_append_left _ lm5)))), List.forall_mem_cons.mpr ⟨(List.mem_cons_of_mem _ (List.mem_append_left _ (List.mem_append_left _ (List.mem_append_left _ lm6)))), List.forall_mem_cons.mpr ⟨(List.mem_cons_of_mem _ (List.mem_append_left _ (List.mem_append_left _ (List.mem_append_left _ lm7)))), List.forall_mem_cons.mpr ⟨(List.mem_cons_of_mem _ (List.mem_append_left _ (List.mem_append_left _ (List.mem_append_left _ lm8)))), (fun _ h => absurd h List.not_mem_nil)⟩⟩⟩⟩) (by decide +kernel)) (goodIn_sub (by unfold wsX2_takeElement; exact List.forall_mem_cons.mpr ⟨(List.mem_cons_of_mem _ (List.mem_append_left _ (List.mem_append_left _ (List.mem_append_left _ lm9)))), List.forall_mem_append.mpr ⟨List.forall_mem_append.mpr ⟨List.forall_mem_append.mpr ⟨List.forall_mem_cons.mpr ⟨(List.mem_cons_of_mem _ (List.mem_append_left _ (List.mem_append_left _ (List.mem_append_left _ lm10)))), List.forall_mem_cons.mpr ⟨(List.mem_cons_of_mem _ (List.mem_append_left _ (List.mem_append_left _ (List.mem_append_left _ lm11)))), List.forall_mem_cons.mpr ⟨(List.mem_cons_of_mem _ (List.mem_append_left _ (List.mem_append_left _ (List.mem_append_left _ lm12)))), List.forall_mem_cons.mpr ⟨(List.mem_cons_of_mem _ (List.mem_append_left _ (List.mem_append_left _ (List.mem_append_left _ lm13)))), List.forall_mem_cons.mpr ⟨(List.mem_cons_of_mem _ (List.mem_append_left _ (List.mem_append_left _ (List.mem_append_left _ lm8)))), List.forall_mem_cons.mpr ⟨(List.mem_cons_of_mem _ (List.mem_append_left _ (List.mem_append_left _ (List.mem_append_left _ lm14)))), List.forall_mem_cons.mpr ⟨(List.mem_cons_of_mem _ (List.mem_append_left _ (List.mem_append_left _ (List.mem_append_left _ lm3)))), List.forall_mem_cons.mpr ⟨(List.mem_cons_of_mem _ (List.mem_append_left _ (List.mem_append_left _ (List.mem_append_left _ lm15)))), List.forall_mem_cons.mpr ⟨(List.mem_cons_of_mem _ (List.mem_append_left _ (List.mem_append_left _ (List.mem_append_left _ lm16)))), List.forall_mem_cons.mpr ⟨(List.mem_cons_of_mem _ (List.mem_append_left _ (List.mem_append_left _ (List.mem_append_left _ lm17)))), List.forall_mem_cons.mpr ⟨(List.mem_cons_of_mem _ (List.mem_append_left _ (List.mem_append_left _ (List.mem_append_left _ lm18)))), List.forall_mem_cons.mpr ⟨(List.mem_cons_of_mem _ (List.mem_append_left _ (List.mem_append_left _ (List.mem_append_left _ lm19)))), List.forall_mem_cons.mpr ⟨(List.mem_cons_of_mem _ (List.mem_append_left _ (List.mem_append_left _ (List.mem_append_left _ lm20)))), List.forall_mem_cons.mpr ⟨(List.mem_cons_of_mem _ (List.mem_append_left _ (List.mem_append_left _ (List.mem_append_left _ lm21)))), List.forall_mem_cons.mpr ⟨(List.mem_cons_of_mem _ (List.mem_append_left _ (List.mem_append_left _ (List.mem_append_left _ lm22)))), List.forall_mem_cons.mpr ⟨(List.mem_cons_of_mem _ (List.mem_append_left _ (List.mem_append_left _ (List.mem_append_left _ lm23)))), List.forall_mem_cons.mpr ⟨(List.mem_cons_of_mem _ (List.mem_append_left _ (List.mem_append_left _ (List.mem_append_right _ (List.mem_append_left _ lm0))))), List.forall_mem_cons.mpr ⟨(List.mem_cons_of_mem _ (List.mem_append_left _ (List.mem_append_left _ (List.mem_append_right _ (List.mem_append_left _ lm1))))), List.forall_mem_cons.mpr ⟨(List.mem_cons_of_mem _ (List.mem_append_left _ (List.mem_append_left _ (List.mem_append_right _ (List.mem_append_left _ lm2))))), List.forall_mem_cons.mpr ⟨(List.mem_cons_of_mem _ (List.mem_append_left _ (List.mem_append_left _ (List.mem_append_right _ (List.mem_append_left _ lm3))))), List.forall_mem_cons.mpr ⟨(List.mem_cons_of_mem _ (List.mem_append_left _ (List.mem_append_left _ (List.mem_append_right _ (List.mem_append_left _ lm4))))), List.forall_mem_cons.mpr ⟨(List.mem_cons_of_mem _ (List.mem_append_left _ (List.mem_append_left _ (List.mem_append_right _ (List.mem_append_left _ lm5))))), List.forall_mem_cons.mpr ⟨(List.mem_cons_of_mem _ (List.mem_append_left _ (List.mem_append_left _ (List.mem_append_right _ (List.mem_append_left _ lm6))))), List.forall_mem_cons.mpr ⟨(List.mem_cons_of_mem _ (List.mem_append_left _ (List.mem_append_left _ (List.mem_append_right _ (List.mem_append_left _ lm7))))), (fun _ h => absurd h List.not_mem_nil)⟩⟩⟩⟩⟩⟩⟩⟩⟩⟩⟩⟩⟩⟩⟩⟩⟩⟩⟩⟩⟩⟩⟩⟩, List.forall_mem_append.mpr ⟨List.forall_mem_cons.mpr ⟨(List.mem_cons_of_mem _ (List.mem_append_left _ (List.mem_append_left _ (List.mem_append_right _ (List.mem_append_left _ lm8))))), List.forall_mem_cons.mpr ⟨(List.mem_cons_of_mem _ (List.mem_append_left _ (List.mem_append_left _ (List.mem_append_right _ (List.mem_append_left _ lm9))))), List.forall_mem_cons.mpr ⟨(List.mem_cons_of_mem _ (List.mem_append_left _ (List.mem_append_left _ (List.mem_append_right _ (List.mem_append_left _ lm10))))), List.forall_mem_cons.mpr ⟨(List.mem_cons_of_mem _ (List.mem_append_left _ (List.mem_append_left _ (List.mem_append_right _ (List.mem_append_left _ lm11))))), List.forall_mem_cons.mpr ⟨(List.mem_cons_of_mem _ (List.mem_append_left _ (List.mem_append_left _ (List.mem_append_right _ (List.mem_append_left _ lm12))))), List.forall_mem_cons.mpr ⟨(List.mem_cons_of_mem _ (List.mem_append_left _ (List.mem_append_left _ (List.mem_append_right _ (List.mem_append_left _ lm13))))), List.forall_mem_cons.mpr ⟨(List.mem_cons_of_mem _ (List.mem_append_left _ (List.mem_append_left _ (List.mem_append_right _ (List.mem_append_left _ lm14))))), List.forall_mem_cons.mpr ⟨(List.mem_cons_of_mem _ (List.mem_append_left _ (List.mem_append_left _ (List.mem_append_right _ (List.mem_append_left _ lm15))))), List.forall_mem_cons.mpr ⟨(List.mem_cons_of_mem _ (List.mem_append_left _ (List.mem_append_left _ (List.mem_append_right _ (List.mem_append_left _ lm16))))), List.forall_mem_cons.mpr ⟨(List.mem_cons_of_mem _ (List.mem_append_left _ (List.mem_append_left _ (List.mem_append_right _ (List.mem_append_left _ lm17))))), List.forall_mem_cons.mpr ⟨(List.mem_cons_of_mem _ (List.mem_append_left _ (List.mem_append_left _ (List.mem_append_right _ (List.mem_append_left _ lm18))))), List.forall_mem_cons.mpr ⟨(List.mem_cons_of_mem _ (List.mem_append_left _ (List.mem_append_left _ (List.mem_append_right _ (List.mem_append_left _ lm19))))), List.forall_mem_cons.mpr ⟨(List.mem_cons_of_mem _ (List.mem_append_left _ (List.mem_append_left _ (List.mem_append_right _ (List.mem_append_left _ lm20))))), List.forall_mem_cons.mpr ⟨(List.mem_cons_of_mem _ (List.mem_append_left _ (List.mem_append_left _ (List.mem_append_right _ (List.mem_append_left _ lm21))))), List.forall_mem_cons.mpr ⟨(List.mem_cons_of_mem _ (List.mem_append_left _ (List.mem_append_left _ (List.mem_append_right _ (List.mem_append_left _ lm22))))), List.forall_mem_cons.mpr ⟨(List.mem_cons_of_mem _ (List.mem_append_left _ (List.mem_append_left _ (List.mem_append_right _ (List.mem_append_left _ lm23))))), List.forall_mem_cons.mpr ⟨(List.mem_cons_of_mem _ (List.mem_append_left _ (List.mem_append_left _ (List.mem_append_right _ (List.mem_append_right _ (List.mem_append_left _ lm0)))))), List.forall_mem_cons.mpr ⟨(List.mem_cons_of_mem _ (List.mem_append_left _ (List.mem_append_left _ (List.mem_append_right _ (List.mem_append_right _ (List.mem_append_left _ lm1)))))), List.forall_mem_cons.mpr ⟨(List.mem_cons_of_mem _ (List.mem_append_left _ (List.mem_append_left _ (List.mem_append_right _ (List.mem_append_right _ (List.mem_append_left _ lm2)))))), List.forall_mem_cons.mpr ⟨(List.mem_cons_of_mem _ (List.mem_append_left _ (List.mem_append_left _ (List.mem_append_right _ (List.mem_append_right _ (List.mem_append_left _ lm3)))))), List.forall_mem_cons.mpr ⟨(List.mem_cons_of_mem _ (List.mem_append_left _ (List.mem_append_left _ (List.mem_append_right _ (List.mem_append_right _ (List.mem_append_left _ lm4)))))), List.forall_mem_cons.mpr ⟨(List.mem_cons_of_mem _ (List.mem_append_left _ (List.mem_append_left _ (List.mem_append_right _ (List.mem_append_right _ (List.mem_append_left _ lm5)))))), List.forall_mem_cons.mpr ⟨(List.mem_cons_of_mem _ (List.mem_append_left _ (List.mem_append_left _ (List.mem_append_right _ (List.mem_append_right _ (List.mem_append_left _ lm6)))))), List.forall_mem_cons.mpr ⟨(List.mem_cons_of_mem _ (List.mem_append_left _ (List.mem_append_left _ (List.mem_append_right _ (List.mem_append_right _ (List.mem_append_left _ lm7)))))), (fun _ h => absurd h List.not_mem_nil)⟩⟩⟩⟩⟩⟩⟩⟩⟩⟩⟩⟩⟩⟩⟩⟩⟩⟩⟩⟩⟩⟩⟩⟩, List.forall_mem_append.mpr ⟨List.forall_mem_cons.mpr ⟨(List.mem_cons_of_mem _ (List.mem_append_left _ (List.mem_append_left _ (List.mem_append_right _ (List.mem_append_right _ (List.mem_append_left _ lm8)))))), List.forall_mem_cons.mpr ⟨(List.mem_cons_of_mem _ (List.mem_append_left _ (List.mem_append_left _ (List.mem_append_right _ (List.mem_append_right _ (List.mem_append_left _ lm9)))))), List.forall_mem_cons.mpr ⟨(List.mem_cons_of_mem _ (List.mem_append_left _ (List.mem_append_left _ (List.mem_append_right _ (List.mem_append_right _ (List.mem_append_left _ lm10)))))), List.forall_mem_cons.mpr ⟨(List.mem_cons_of_mem _ (List.mem_append_left _ (List.mem_append_left _ (List.mem_append_right _ (List.mem_append_right _ (List.mem_append_left _ lm11)))))), List.forall_mem_cons.mpr ⟨(List.mem_cons_of_mem _ (List.mem_append_left _ (List.mem_append_left _ (List.mem_append_right _ (List.mem_append_right _ (List.mem_append_left _ lm12)))))), List.forall_mem_cons.mpr ⟨(List.mem_cons_of_mem _ (List.mem_append_left _ (List.mem_append_left _ (List.mem_append_right _ (List.mem_append_right _ (List.mem_append_left _ lm13)))))), List.forall_mem_cons.mpr ⟨(List.mem_cons_of_mem _ (List.mem_append_left _ (List.mem_append_left _ (List.mem_append_right _ (List.mem_append_right _ (List.mem_append_left _ lm14)))))), List.forall_mem_cons.mpr ⟨(List.mem_cons_of_mem _ (List.mem_append_left _ (List.mem_append_left _ (List.mem_append_right _ (List.mem_append_right _ (List.mem_append_left _ lm15)))))), List.forall_mem_cons.mpr ⟨(List.mem_cons_of_mem _ (List.mem_append_left _ (List.mem_append_left _ (List.mem_append_right _ (List.mem_append_right _ (List.mem_append_left _ lm16)))))), List.forall_mem_cons.mpr ⟨(List.mem_cons_of_mem _ (List.mem_append_left _ (List.mem_append_left _ (List.mem_append_right _ (List.mem_append_right _ (List.mem_append_left _ lm17)))))), List.forall_mem_cons.mpr ⟨(List.mem_cons_of_mem _ (List.mem_append_left _ (List.mem_append_left _ (List.mem_append_right _ (List.mem_append_right _ (List.mem_append_left _ lm18)))))), List.forall_mem_cons.mpr ⟨(List.mem_cons_of_mem _ (List.mem_append_left _ (List.mem_append_left _ (List.mem_append_right _ (List.mem_append_right _ (List.mem_append_left _ lm19)))))), List.forall_mem_cons.mpr ⟨(List.mem_cons_of_mem _ (List.mem_append_left _ (List.mem_append_left _ (List.mem_append_right _ (List.mem_append_right _ (List.mem_append_left _ lm20)))))), List.forall_mem_cons.mpr ⟨(List.mem_cons_of_mem _ (List.mem_append_left _ (List.mem_append_left _ (List.mem_append_right _ (List.mem_append_right _ (List.mem_append_left _ lm21)))))), List.forall_mem_cons.mpr ⟨(List.mem_cons_of_mem _ (List.mem_append_left _ (List.mem_append_left _ (List.mem_append_right _ (List.mem_append_right _ (List.mem_append_left _ lm22)))))), List.forall_mem_cons.mpr ⟨(List.mem_cons_of_mem _ (List.mem_append_left _ (List.mem_append_left _ (List.mem_append_right _ (List.mem_append_right _ (List.mem_append_left _ lm23)))))), List.forall_mem_cons.mpr ⟨(List.mem_cons_of_mem _ (List.mem_append_left _ (List.mem_append_left _ (List.mem_append_right _ (List.mem_append_right _ (List.mem_append_right _ (List.mem_append_left _ lm0))))))), List.forall_mem_cons.mpr ⟨(List.mem_cons_of_mem _ (List.mem_append_left _ (List.mem_append_left _ (List.mem_append_right _ (List.mem_append_right _ (List.mem_append_right _ (List.mem_append_left _ lm1))))))), List.forall_mem_cons.mpr ⟨(List.mem_cons_of_mem _ (List.mem_append_left _ (List.mem_append_left _ (List.mem_append_right _ (List.mem_append_right _ (List.mem_append_right _ (List.mem_append_left _ lm2))))))), List.forall_mem_cons.mpr ⟨(List.mem_cons_of_mem _ (List.mem_append_left _ (List.mem_append_left _ (List.mem_append_right _ (List.mem_append_right _ (List.mem_append_right _ (List.mem_append_left _ lm3))))))), List.forall_mem_cons.mpr ⟨(List.mem_cons_of_mem _ (List.mem_append_left _ (List.mem_append_left _ (List.mem_append_right _ (List.mem_append_right _ (List.mem_append_right _ (List.mem_append_left _ lm4))))))), List.forall_mem_cons.mpr ⟨(List.mem_cons_of_mem _ (List.mem_append_left _ (List.mem_append_left _ (List.mem_append_right _ (List.mem_append_right _ (List.mem_append_right _ (List.mem_append_left _ lm5))))))), List.forall_mem_cons.mpr ⟨(List.mem_cons_of_mem _ (List.mem_append_left _ (List.mem_append_left _ (List.mem_append_right _ (List.mem_append_right _ (List.mem_append_right _ (List.mem_append_left _ lm6))))))), List.forall_mem_cons.mpr ⟨(List.mem_cons_of_mem _ (List.mem_append_left _ (List.mem_append_left _ (List.mem_append_right _ (List.mem_append_right _ (List.mem_append_right _ (List.mem_append_left _ lm7))))))), (fun _ h => absurd h List.not_mem_nil)⟩⟩⟩⟩⟩⟩⟩⟩⟩⟩⟩⟩⟩⟩⟩⟩⟩⟩⟩⟩⟩⟩⟩⟩, List.forall_mem_append.mpr ⟨List.forall_mem_cons.mpr ⟨(List.mem_cons_of_mem _ (List.mem_append_left _ (List.mem_append_left _ (List.mem_append_right _ (List.mem_append_right _ (List.mem_append_right _ (List.mem_append_left _ lm8))))))), List.forall_mem_cons.mpr ⟨(List.mem_cons_of_mem _ (List.mem_append_left _ (List.mem_append_left _ (List.mem_append_right _ (List.mem_append_right _ (List.mem_append_right _ (List.mem_append_left _ lm9))))))), List.forall_mem_cons.mpr ⟨(List.mem_cons_of_mem _ (List.mem_append_left _ (List.mem_append_left _ (List.mem_append_right _ (List.mem_append_right _ (List.mem_append_right _ (List.mem_append_left _ lm10))))))), List.forall_mem_cons.mpr ⟨(List.mem_cons_of_mem _ (List.mem_append_left _ (List.mem_append_left _ (List.mem_append_right _ (List.mem_append_right _ (List.mem_append_right _ (List.mem_append_left _ lm11))))))), List.forall_mem_cons.mpr ⟨(List.mem_cons_of_mem _ (List.mem_append_left _ (List.mem_append_left _ (List.mem_append_right _ (List.mem_append_right _ (List.mem_append_right _ (List.mem_append_left _ lm12))))))), List.forall_mem_cons.mpr ⟨(List.mem_cons_of_mem _ (List.mem_append_left _ (List.mem_append_left _ (List.mem_append_right _ (List.mem_append_right _ (List.mem_append_right _ (List.mem_append_left _ lm13))))))), List.forall_mem_cons.mpr ⟨(List.mem_cons_of_mem _ (List.mem_append_left _ (List.mem_append_left _ (List.mem_append_right _ (List.mem_append_right _ (List.mem_append_right _ (List.mem_append_left _ lm14))))))), List.forall_mem_cons.mpr ⟨(List.mem_cons_of_mem _ (List.mem_append_left _ (List.mem_append_left _ (List.mem_append_right _ (List.mem_append_right _ (List.mem_append_right _ (List.mem_append_left _ lm15))))))), List.forall_mem_cons.mpr ⟨(List.mem_cons_of_mem _ (List.mem_append_left _ (List.mem_append_left _ (List.mem_append_right _ (List.mem_append_right _ (List.mem_append_right _ (List.mem_append_left _ lm16))))))), List.forall_mem_cons.mpr ⟨(List.mem_cons_of_mem _ (List.mem_append_left _ (List.mem_append_left _ (List.mem_append_right _ (List.mem_append_right _ (List.mem_append_right _ (List.mem_append_left _ lm17))))))), List.forall_mem_cons.mpr ⟨(List.mem_cons_of_mem _ (List.mem_append_left _ (List.mem_append_left _ (List.mem_append_right _ (List.mem_append_right _ (List.mem_append_right _ (List.mem_append_left _ lm18))))))), List.forall_mem_cons.mpr ⟨(List.mem_cons_of_mem _ (List.mem_append_left _ (List.mem_append_left _ (List.mem_append_right _ (List.mem_append_right _ (List.mem_append_right _ (List.mem_append_left _ lm19))))))), List.forall_mem_cons.mpr ⟨(List.mem_cons_of_mem _ (List.mem_append_left _ (List.mem_append_left _ (List.mem_append_right _ (List.mem_append_right _ (List.mem_append_right _ (List.mem_append_left _ lm20))))))), List.forall_mem_cons.mpr ⟨(List.mem_cons_of_mem _ (List.mem_append_left _ (List.mem_append_left _ (List.mem_append_right _ (List.mem_append_right _ (List.mem_append_right _ (List.mem_append_left _ lm21))))))), List.forall_mem_cons.mpr ⟨(List.mem_cons_of_mem _ (List.mem_append_left _ (List.mem_append_left _ (List.mem_append_right _ (List.mem_append_right _ (List.mem_append_right _ (List.mem_append_left _ lm22))))))), List.forall_mem_cons.mpr ⟨(List.mem_cons_of_mem _ (List.mem_append_left _ (List.mem_append_left _ (List.mem_append_right _ (List.mem_append_right _ (List.mem_append_right _ (List.mem_append_left _ lm23))))))), List.forall_mem_cons.mpr ⟨(List.mem_cons_of_mem _ (List.mem_append_left _ (List.mem_append_left _ (List.mem_append_right _ (List.mem_append_right _ (List.mem_append_right _ (List.mem_append_right _ (List.mem_append_left _ lm0)))))))), List.forall_mem_cons.mpr ⟨(List.mem_cons_of_mem _ (List.mem_append_left _ (List.mem_append_left _ (List.mem_append_right _ (List.mem_append_right _ (List.mem_append_right _ (List.mem_append_right _ (List.mem_append_left _ lm1)))))))), List.forall_mem_cons.mpr ⟨(List.mem_cons_of_mem _ (List.mem_append_left _ (List.mem_append_left _ (List.mem_append_right _ (List.mem_append_right _ (List.mem_append_right _ (List.mem_append_right _ (List.mem_append_left _ lm2)))))))), List.forall_mem_cons.mpr ⟨(List.mem_cons_of_mem _ (List.mem_append_left _ (List.mem_append_left _ (List.mem_append_right _ (List.mem_append_right _ (List.mem_append_right _ (List.mem_append_right _ (List.mem_append_left _ lm3)))))))), List.forall_mem_cons.mpr ⟨(List.mem_cons_of_mem _ (List.mem_append_left _ (List.mem_append_left _ (List.mem_append_right _ (List.mem_append_right _ (List.mem_append_right _ (List.mem_append_right _ (List.mem_append_left _ lm4)))))))), List.forall_mem_cons.mpr ⟨(List.mem_cons_of_mem _ (List.mem_append_left _ (List.mem_append_left _ (List.mem_append_right _ (List.mem_append_right _ (List.mem_append_right _ (List.mem_append_right _ (List.mem_append_left _ lm5)))))))), List.forall_mem_cons.mpr ⟨(List.mem_cons_of_mem _ (List.mem_append_left _ (List.mem_append_left _ (List.mem_append_right _ (List.mem_append_right _ (List.mem_append_right _ (List.mem_append_right _ (List.mem_append_left _ lm6)))))))), List.forall_mem_cons.mpr ⟨(List.mem_cons_of_mem _ (List.mem_append_left _ (List.mem_append_left _ (List.mem_append_right _ (List.mem_append_right _ (List.mem_append_right _ (List.mem_append_right _ (List.mem_append_left _ lm7)))))))), (fun _ h => absurd h List.not_mem_nil)⟩⟩⟩⟩⟩⟩⟩⟩⟩⟩⟩⟩⟩⟩⟩⟩⟩⟩⟩⟩⟩⟩⟩⟩, List.forall_mem_append.mpr ⟨List.forall_mem_cons.mpr ⟨(List.mem_cons_of_mem _ (List.mem_append_left _ (List.mem_append_left _ (List.mem_append_right _ (List.mem_append_right _ (List.mem_append_right _ (List.mem_append_right _ (List.mem_append_left _ lm8)))))))), List.forall_mem_cons.mpr ⟨(List.mem_cons_of_mem _ (List.mem_append_left _ (List.mem_append_left _ (List.mem_append_right _ (List.mem_append_right _ (List.mem_append_right _ (List.mem_append_right _ (List.mem_append_left _ lm9)))))))), List.forall_mem_cons.mpr ⟨(List.mem_cons_of_mem _ (List.mem_append_left _ (List.mem_append_left _ (List.mem_append_right _ (List.mem_append_right _ (List.mem_append_right _ (List.mem_append_right _ (List.mem_append_left _ lm10)))))))), List.forall_mem_cons.mpr ⟨(List.mem_cons_of_mem _ (List.mem_append_left _ (List.mem_append_left _ (List.mem_append_right _ (List.mem_append_right _ (List.mem_append_right _ (List.mem_append_right _ (List.mem_append_left _ lm11)))))))), List.forall_mem_cons.mpr ⟨(List.mem_cons_of_mem _ (List.mem_append_left _ (List.mem_append_left _ (List.mem_append_right _ (List.mem_append_right _ (List.mem_append_right _ (List.mem_append_right _ (List.mem_append_left _ lm12)))))))), List.forall_mem_cons.mpr ⟨(List.mem_cons_of_mem _ (List.mem_append_left _ (List.mem_append_left _ (List.mem_append_right _ (List.mem_append_right _ (List.mem_append_right _ (List.mem_append_right _ (List.mem_append_left _ lm13)))))))), List.forall_mem_cons.mpr ⟨(List.mem_cons_of_mem _ (List.mem_append_left _ (List.mem_append_left _ (List.mem_append_right _ (List.mem_append_right _ (List.mem_append_right _ (List.mem_append_right _ (List.mem_append_left _ lm14)))))))), List.forall_mem_cons.mpr ⟨(List.mem_cons_of_mem _ (List.mem_append_left _ (List.mem_append_left _ (List.mem_append_right _ (List.mem_append_right _ (List.mem_append_right _ (List.mem_append_right _ (List.mem_append_left _ lm15)))))))), List.forall_mem_cons.mpr ⟨(List.mem_cons_of_mem _ (List.mem_append_left _ (List.mem_append_left _ (List.mem_append_right _ (List.mem_append_right _ (List.mem_append_right _ (List.mem_append_right _ (List.mem_append_left _ lm16)))))))), List.forall_mem_cons.mpr ⟨(List.mem_cons_of_mem _ (List.mem_append_left _ (List.mem_append_left _ (List.mem_append_right _ (List.mem_append_right _ (List.mem_append_right _ (List.mem_append_right _ (List.mem_append_left _ lm17)))))))), List.forall_mem_cons.mpr ⟨(List.mem_cons_of_mem _ (List.mem_append_left _ (List.mem_append_left _ (List.mem_append_right _ (List.mem_append_right _ (List.mem_append_right _ (List.mem_append_right _ (List.mem_append_left _ lm18)))))))), List.forall_mem_cons.mpr ⟨(List.mem_cons_of_mem _ (List.mem_append_left _ (List.mem_append_left _ (List.mem_append_right _ (List.mem_append_right _ (List.mem_append_right _ (List.mem_append_right _ (List.mem_append_left _ lm19)))))))), List.forall_mem_cons.mpr ⟨(List.mem_cons_of_mem _ (List.mem_append_left _ (List.mem_append_left _ (List.mem_append_right _ (List.mem_append_right _ (List.mem_append_right _ (List.mem_append_right _ (List.mem_append_left _ lm20)))))))), List.forall_mem_cons.mpr ⟨(List.mem_cons_of_mem _ (List.mem_append_left _ (List.mem_append_left _ (List.mem_append_left _ lm0)))), List.forall_mem_cons.mpr ⟨(List.mem_cons_of_mem _ (List.mem_append_left _ (List.mem_append_left _ (List.mem_append_right _ (List.mem_append_right _ (List.mem_append_right _ (List.mem_append_right _ (List.mem_append_left _ lm21)))))))), List.forall_mem_cons.mpr ⟨(List.mem_cons_of_mem _ (List.mem_append_left _ (List.mem_append_left _ (List.mem_append_left _ lm1)))), List.forall_mem_cons.mpr ⟨(List.mem_cons_of_mem _ (List.mem_append_left _ (List.mem_append_left _ (List.mem_append_right _ (List.mem_append_right _ (List.mem_append_right _ (List.mem_append_right _ (List.mem_append_left _ lm22)))))))), List.forall_mem_cons.mpr ⟨(List.mem_cons_of_mem _ (List.mem_append_left _ (List.mem_append_left _ (List.mem_append_right _ (List.mem_append_right _ (List.mem_append_right _ (List.mem_append_right _ (List.mem_append_left _ lm23)))))))), List.forall_mem_cons.mpr ⟨(List.mem_cons_of_mem _ (List.mem_append_left _ (List.mem_append_left _ (List.mem_append_right _ (List.mem_append_right _ (List.mem_append_right _ (List.mem_append_right _ (List.mem_append_right _ lm0)))))))), List.forall_mem_cons.mpr ⟨(List.mem_cons_of_mem _ (List.mem_append_left _ (List.mem_append_left _ (List.mem_append_right _ (List.mem_append_right _ (List.mem_append_right _ (List.mem_append_right _ (List.mem_append_right _ lm1)))))))), List.forall_mem_cons.mpr ⟨(List.mem_cons_of_mem _ (List.mem_append_left _ (List.mem_append_left _ (List.mem_append_left _ lm4)))), List.forall_mem_cons.mpr ⟨(List.mem_cons_of_mem _ (List.mem_append_left _ (List.mem_append_left _ (List.mem_append_right _ (List.mem_append_right _ (List.mem_append_right _ (List.mem_append_right _ (List.mem_append_right _ lm2)))))))), List.forall_mem_cons.mpr ⟨(List.mem_cons_of_mem _ (List.mem_append_left _ (List.mem_append_left _ (List.mem_append_right _ (List.mem_append_right _ (List.mem_append_right _ (List.mem_append_right _ (List.mem_append_right _ lm3)))))))), List.forall_mem_cons.mpr ⟨(List.mem_cons_of_mem _ (List.mem_append_left _ (List.mem_append_left _ (List.mem_append_right _ (List.mem_append_right _ (List.mem_append_right _ (List.mem_append_right _ (List.mem_append_right _ lm4)))))))), (fun _ h => absurd h List.not_mem_nil)⟩⟩⟩⟩⟩⟩⟩⟩⟩⟩⟩⟩⟩⟩⟩⟩⟩⟩⟩⟩⟩⟩⟩⟩, List.forall_mem_cons.mpr ⟨(List.mem_cons_of_mem _ (List.mem_append_left _ (List.mem_append_left _ (List.mem_append_right _ (List.mem_append_right _ (List.mem_append_right _ (List.mem_append_right _ (List.mem_append_right _ lm5)))))))), List.forall_mem_cons.mpr ⟨(List.mem_cons_of_mem _ (List.mem_append_left _ (List.mem_append_left _ (List.mem_append_right _ (List.mem_append_right _ (List.mem_append_right _ (List.mem_append_right _ (List.mem_append_right _ lm6)))))))), List.forall_mem_cons.mpr ⟨(List.mem_cons_of_mem _ (List.mem_append_left _ (List.mem_append_left _ (List.mem_append_left _ lm2)))), List.forall_mem_cons.mpr ⟨(List.mem_cons_of_mem _ (List.mem_append_left _ (List.mem_append_left _ (List.mem_append_right _ (List.mem_append_right _ (List.mem_append_right _ (List.mem_append_right _ (List.mem_append_right _ lm7)))))))), List.forall_mem_cons.mpr ⟨(List.mem_cons_of_mem _ (List.mem_append_left _ (List.mem_append_left _ (List.mem_append_right _ (List.mem_append_right _ (List.mem_append_right _ (List.mem_append_right _ (List.mem_append_right _ lm8)))))))), List.forall_mem_cons.mpr ⟨(List.mem_cons_of_mem _ (List.mem_append_left _ (List.mem_append_left _ (List.mem_append_right _ (List.mem_append_right _ (List.mem_append_right _ (List.mem_append_right _ (List.mem_append_right _ lm9)))))))), List.forall_mem_cons.mpr ⟨(List.mem_cons_of_mem _ (List.mem_append_left _ (List.mem_append_left _ (List.mem_append_right _ (List.mem_append_right _ (List.mem_append_right _ (List.mem_append_right _ (List.mem_append_right _ lm10)))))))), List.forall_mem_cons.mpr ⟨(List.mem_cons_of_mem _ (List.mem_append_left _ (List.mem_append_left _ (List.mem_append_right _ (List.mem_append_right _ (List.mem_append_right _ (List.mem_append_right _ (List.mem_append_right _ lm11)))))))), List.forall_mem_cons.mpr ⟨(List.mem_cons_of_mem _ (List.mem_append_left _ (List.mem_append_left _ (List.mem_append_right _ (List.mem_append_right _ (List.mem_append_right _ (List.mem_append_right _ (List.mem_append_right _ lm12)))))))), List.forall_mem_cons.mpr ⟨(List.mem_cons_of_mem _ (List.mem_append_left _ (List.mem_append_left _ (List.mem_append_right _ (List.mem_append_right _ (List.mem_append_right _ (List.mem_append_right _ (List.mem_append_right _ lm13)))))))), List.forall_mem_cons.mpr ⟨(List.mem_cons_of_mem _ (List.mem_append_left _ (List.mem_append_left _ (List.mem_append_right _ (List.mem_append_right _ (List.mem_append_right _ (List.mem_append_right _ (List.mem_append_right _ lm14)))))))), List.forall_mem_cons.mpr ⟨(List.mem_cons_of_mem _ (List.mem_append_left _ (List.mem_append_left _ (List.mem_append_right _ (List.mem_append_right _ (List.mem_append_right _ (List.mem_append_right _ (List.mem_append_right _ lm15)))))))), List.forall_mem_cons.mpr ⟨(List.mem_cons_of_mem _ (List.mem_append_left _ (List.mem_append_left _ (List.mem_append_right _ (List.mem_append_right _ (List.mem_append_right _ (List.mem_append_right _ (List.mem_append_right _ lm16)))))))), List.forall_mem_cons.mpr ⟨(List.mem_cons_of_mem _ (List.mem_append_left _ (List.mem_append_left _ (List.mem_append_right _ (List.mem_append_right _ (List.mem_append_right _ (List.mem_append_right _ (List.mem_append_right _ lm17)))))))), List.forall_mem_cons.mpr ⟨(List.mem_cons_of_mem _ (List.mem_append_left _ (List.mem_append_left _ (List.mem_append_right _ (List.mem_append_right _ (List.mem_append_right _ (List.mem_append_right _ (List.mem_append_right _ lm18)))))))), List.forall_mem_cons.mpr ⟨(List.mem_cons_of_mem _ (List.mem_append_left _ (List.mem_append_left _ (List.mem_append_right _ (List.mem_append_right _ (List.mem_append_right _ (List.mem_append_right _ (List.mem_append_right _ lm19)))))))), List.forall_mem_cons.mpr ⟨(List.mem_cons_of_mem _ (List.mem_append_left _ (List.mem_append_left _ (List.mem_append_right _ (List.mem_append_right _ (List.mem_append_right _ (List.mem_append_right _ (List.mem_append_right _ lm20)))))))), List.forall_mem_cons.mpr ⟨(List.mem_cons_of_mem _ (List.mem_append_left _ (List.mem_append_left _ (List.mem_append_right _ (List.mem_append_right _ (List.mem_append_right _ (List.mem_append_right _ (List.mem_append_right _ lm21)))))))), List.forall_mem_cons.mpr ⟨(List.mem_cons_of_mem _ (List.mem_append_left _ (List.mem_append_left _ (List.mem_append_right _ (List.mem_append_right _ (List.mem_append_right _ (List.mem_append_right _ (List.mem_append_right _ lm22)))))))), (fun _ h => absurd h List.not_mem_nil)⟩⟩⟩⟩⟩⟩⟩⟩⟩⟩⟩⟩⟩⟩⟩⟩⟩⟩⟩⟩⟩⟩⟩⟩, (fun _ h => (List.mem_cons_of_mem _ (List.mem_append_right _ h)))⟩, (fun _ h => (List.mem_cons_of_mem _ (List.mem_append_left _ (List.mem_append_right _ h))))⟩⟩) gw_X2_takeElement)
set_option maxHeartbeats 2000000 in
set_option maxRecDepth 100000 in
theorem k_endsWord (l : Launch) (D : va_G) (g : Nat → Nat) (ka : Nat → ClassId) (ad : Nat → Nat) (i : Nat → Nat → Int32) (r : Nat → Nat → Nat) (L : Nat → Nat → Int64) (d : Nat → Nat → UInt64) (j : Nat) (x : Int32) (hO : OkI i) (hR : RS r) (sz : Nat) (hj : j < 13) : Met l yX2_endsWord wsX2_endsWord ({ frames := 0, cells := 0, slots := 0, locals := 0 }) (va_Pc [.ref (g (240 + 9 * j)), .int x] (sj_B D (hwc g ka i r L d) (hT ka) sz (gx ad (va_A (hwc g ka i r L d) sz)))) (sj_Qi (S := Unit) D (fun v u => ((0 : Int) ≤ v.toInt ∧ v.toInt ≤ 1)) (fun _ => hwc g ka i r L d) (fun _ => []) (va_A (hwc g ka i r L d) sz)) 0 0 (va_A (hwc g ka i r L d) sz) := by
  refine x_met (Ex := gx ad) (cc := cX2_endsWord) (maxL := 2) (ret := (some .boolean)) (by decide) rfl (Nat.le_of_ble_eq_true rfl) ?_
  intro p e s m below meth c A ls hx hb hr hml hts hown hlocks hA hS hH hK hE hl
  have hown : s.vm.findClass RX2 = some m.cls := hown
  have hl : lv_has ls 2 [(0, .ref (g (240 + 9 * j))), (1, .int x)] := hl
  have hK : va_K D vwCl (hT ka) s := hK
  have hg_1 := s_rng x
  refine lv_iload_n hx hb dX2_endsWord_0 rfl (lv_at hl 1 rfl) ?_
  refine lv_bipush (v := 123) hx hb dX2_endsWord_1 (by decide) ?_
  refine lv_icmp_eq (tgt := 30) hx hb dX2_endsWord_3 (by decide) (fun c_2 => ?_) (fun c_2 => ?_)
  · skip
    have h_3 := s_eq (rfl : x.toInt = _) (show (123 : Int32).toInt = 123 from rfl) c_2
    refine lv_iconst (v := 1) hx hb dX2_endsWord_30 (by decide) ?_
    refine lv_goto (tgt := 35) hx hb dX2_endsWord_31 (by decide) ?_
    exact sj_zret hx hb hr hlocks (by decide +kernel) hS () ⟨by decide, by decide⟩ hH (sj_Knil hK) (Nat.le_of_ble_eq_true rfl) (Nat.le_of_ble_eq_true rfl) dX2_endsWord_35
  · skip
    have h_4 := s_ne (rfl : x.toInt = _) (show (123 : Int32).toInt = 123 from rfl) c_2
    refine lv_iload_n hx hb dX2_endsWord_6 rfl (lv_at hl 1 rfl) ?_
    refine lv_bipush (v := 125) hx hb dX2_endsWord_7 (by decide) ?_
    refine lv_icmp_eq (tgt := 30) hx hb dX2_endsWord_9 (by decide) (fun c_5 => ?_) (fun c_5 => ?_)
    · skip
      have h_6 := s_eq (rfl : x.toInt = _) (show (125 : Int32).toInt = 125 from rfl) c_5
      refine lv_iconst (v := 1) hx hb dX2_endsWord_30 (by decide) ?_
      refine lv_goto (tgt := 35) hx hb dX2_endsWord_31 (by decide) ?_
      exact sj_zret hx hb hr hlocks (by decide +kernel) hS () ⟨by decide, by decide⟩ hH (sj_Knil hK) (Nat.le_of_ble_eq_true rfl) (Nat.le_of_ble_eq_true rfl) dX2_endsWord_35
    · skip
      have h_7 := s_ne (rfl : x.toInt = _) (show (125 : Int32).toInt = 125 from rfl) c_5
      refine lv_iload_n hx hb dX2_endsWord_12 rfl (lv_at hl 1 rfl) ?_
      refine lv_bipush (v := 40) hx hb dX2_endsWord_13 (by decide) ?_
      refine lv_icmp_eq (tgt := 30) hx hb dX2_endsWord_15 (by decide) (fun c_8 => ?_) (fun c_8 => ?_)
      · skip
        have h_9 := s_eq (rfl : x.toInt = _) (show (40 : Int32).toInt = 40 from rfl) c_8
        refine lv_iconst (v := 1) hx hb dX2_endsWord_30 (by decide) ?_
        refine lv_goto (tgt := 35) hx hb dX2_endsWord_31 (by decide) ?_
        exact sj_zret hx hb hr hlocks (by decide +kernel) hS () ⟨by decide, by decide⟩ hH (sj_Knil hK) (Nat.le_of_ble_eq_true rfl) (Nat.le_of_ble_eq_true rfl) dX2_endsWord_35
      · skip
        have h_10 := s_ne (rfl : x.toInt = _) (show (40 : Int32).toInt = 40 from rfl) c_8
        refine lv_iload_n hx hb dX2_endsWord_18 rfl (lv_at hl 1 rfl) ?_
        refine lv_bipush (v := 41) hx hb dX2_endsWord_19 (by decide) ?_
        refine lv_icmp_eq (tgt := 30) hx hb dX2_endsWord_21 (by decide) (fun c_11 => ?_) (fun c_11 => ?_)
        · skip
          have h_12 := s_eq (rfl : x.toInt = _) (show (41 : Int32).toInt = 41 from rfl) c_11
          refine lv_iconst (v := 1) hx hb dX2_endsWord_30 (by decide) ?_
          refine lv_goto (tgt := 35) hx hb dX2_endsWord_31 (by decide) ?_
          exact sj_zret hx hb hr hlocks (by decide +kernel) hS () ⟨by decide, by decide⟩ hH (sj_Knil hK) (Nat.le_of_ble_eq_true rfl) (Nat.le_of_ble_eq_true rfl) dX2_endsWord_35
        · skip
          have h_13 := s_ne (rfl : x.toInt = _) (show (41 : Int32).toInt = 41 from rfl) c_11
          refine lv_iload_n hx hb dX2_endsWord_24 rfl (lv_at hl 1 rfl) ?_
          refine lv_bipush (v := 32) hx hb dX2_endsWord_25 (by decide) ?_
          refine lv_icmp_ne (tgt := 34) hx hb dX2_endsWord_27 (by decide) (fun c_14 => ?_) (fun c_14 => ?_)
          · skip
            have h_15 := s_ne (rfl : x.toInt = _) (show (32 : Int32).toInt = 32 from rfl) c_14
            refine lv_iconst (v := 0) hx hb dX2_endsWord_34 (by decide) ?_
            exact sj_zret hx hb hr hlocks (by decide +kernel) hS () ⟨by decide, by decide⟩ hH (sj_Knil hK) (Nat.le_of_ble_eq_true rfl) (Nat.le_of_ble_eq_true rfl) dX2_endsWord_35
          · skip
            have h_16 := s_eq (rfl : x.toInt = _) (show (32 : Int32).toInt = 32 from rfl) c_14
            refine lv_iconst (v := 1) hx hb dX2_endsWord_30 (by decide) ?_
            refine lv_goto (tgt := 35) hx hb dX2_endsWord_31 (by decide) ?_
            exact sj_zret hx hb hr hlocks (by decide +kernel) hS () ⟨by decide, by decide⟩ hH (sj_Knil hK) (Nat.le_of_ble_eq_true rfl) (Nat.le_of_ble_eq_true rfl) dX2_endsWord_35
set_option maxHeartbeats 2000000 in
set_option maxRecDepth 100000 in
theorem k_choiceLength (l : Launch) (D : va_G) (g : Nat → Nat) (ka : Nat → ClassId) (ad : Nat → Nat) (i : Nat → Nat → Int32) (r : Nat → Nat → Nat) (L : Nat → Nat → Int64) (d : Nat → Nat → UInt64) (j : Nat) (x : Int32) (hO : OkI i) (hR : RS r) (sz : Nat) (hj : j < 13) (h0 : 0 ≤ x.toInt) (h1 : x.toInt ≤ 60) : Met l yX2_choiceLength wsX2_choiceLength ({ frames := 0, cells := 0, slots := 0, locals := 0 }) (va_Pc [.ref (g (240 + 9 * j)), .int x] (sj_B D (hwc g ka i r L d) (hT ka) sz (gx ad (va_A (hwc g ka i r L d) sz)))) (sj_Qi (S := Unit) D (fun v u => ((-60 : Int) ≤ v.toInt ∧ v.toInt ≤ 60) ∧ (v.toInt = (i (240 + 9 * j + 2) (x.toInt + 1).toNat).toInt - (i (240 + 9 * j + 2) (x.toInt).toNat).toInt ∧ (i (240 + 9 * j + 2) (x.toInt + 1).toNat).toInt ≤ 60 ∧ 0 ≤ (i (240 + 9 * j + 2) (x.toInt).toNat).toInt)) (fun _ => hwc g ka i r L d) (fun _ => []) (va_A (hwc g ka i r L d) sz)) 0 0 (va_A (hwc g ka i r L d) sz) := by
  refine x_met (Ex := gx ad) (cc := cX2_choiceLength) (maxL := 2) (ret := (some .int)) (by decide) rfl (Nat.le_of_ble_eq_true rfl) ?_
  intro p e s m below meth c A ls hx hb hr hml hts hown hlocks hA hS hH hK hE hl
  have hown : s.vm.findClass RX2 = some m.cls := hown
  have in2 : ∀ w ∈ wsX20, w ∈ wsX2_choiceLength := (fun _ h => (List.mem_cons_of_mem _ (List.mem_append_right _ h)))
  have wd0 := hts (.fieldLink RX2 15 "StoryDesk$Expression" "choiceStarts" "[I") (List.mem_cons_of_mem _ (List.mem_append_left _ lm0))
  have hl : lv_has ls 2 [(0, .ref (g (240 + 9 * j))), (1, .int x)] := hl
  have hK : va_K D vwCl (hT ka) s := hK
  refine lv_aload_n hx hb dX2_choiceLength_0 rfl (lv_at hl 0 rfl) ?_
  refine h_getr (ci := 2) (C := RX2) (F := TX2) (N := 11) hx hb hts in2 hown hK hH (lt_nK (by omega)) (kd_expr (t := 0) hj (by decide)) (by decide) rfl 1 (by decide) wd0 (fun _ h9 => h9) (by decide) rfl (t := (240 + 9 * j + 2)) ((hR _ _ (by unfold dyn; simp <;> omega)).trans (sr_expr (by omega) (by omega))) (lt_nK (by omega)) dX2_choiceLength_1 ?_
  refine lv_iload_n hx hb dX2_choiceLength_4 rfl (lv_at hl 1 rfl) ?_
  refine lv_iconst (v := 1) hx hb dX2_choiceLength_5 (by decide) ?_
  refine lv_iadd hx hb dX2_choiceLength_6 ?_
  obtain ⟨z_1, ez_1, hz_1⟩ := s_add (rfl : x.toInt = _) (show (1 : Int32).toInt = 1 from rfl) (by omega) (by omega)
  refine sj_i ez_1 ?_
  have bx_2 : (0 : Int) ≤ (i (240 + 9 * j + 2) (x.toInt + 1).toNat).toInt ∧ (i (240 + 9 * j + 2) (x.toInt + 1).toNat).toInt ≤ 60 := by have h9 := hO (240 + 9 * j + 2) (x.toInt + 1).toNat; rw [bx_expr (t := 2) hj (by decide) (by decide) (x.toInt + 1).toNat] at h9; exact h9
  refine h_iald hx hb hK hH (lt_nK (by omega)) (kd_expr (t := 2) hj (by decide)) (s_vin (N := 62) (rfl : z_1.toInt = _) (ln_expr (t := 2) hj (by decide)) (by omega) (by omega)) dX2_choiceLength_7 ?_
  have ek_3 : z_1.toNatClampNeg = (x.toInt + 1).toNat := (s_cl (show z_1.toInt = x.toInt + 1 by omega))
  refine sj_i (y := (i (240 + 9 * j + 2) (x.toInt + 1).toNat)) (by rw [ek_3]) ?_
  refine lv_aload_n hx hb dX2_choiceLength_8 rfl (lv_at hl 0 rfl) ?_
  refine h_getr (ci := 2) (C := RX2) (F := TX2) (N := 11) hx hb hts in2 hown hK hH (lt_nK (by omega)) (kd_expr (t := 0) hj (by decide)) (by decide) rfl 1 (by decide) wd0 (fun _ h9 => h9) (by decide) rfl (t := (240 + 9 * j + 2)) ((hR _ _ (by unfold dyn; simp <;> omega)).trans (sr_expr (by omega) (by omega))) (lt_nK (by omega)) dX2_choiceLength_9 ?_
  refine lv_iload_n hx hb dX2_choiceLength_12 rfl (lv_at hl 1 rfl) ?_
  have bx_4 : (0 : Int) ≤ (i (240 + 9 * j + 2) (x.toInt).toNat).toInt ∧ (i (240 + 9 * j + 2) (x.toInt).toNat).toInt ≤ 60 := by have h9 := hO (240 + 9 * j + 2) (x.toInt).toNat; rw [bx_expr (t := 2) hj (by decide) (by decide) (x.toInt).toNat] at h9; exact h9
  refine h_iald hx hb hK hH (lt_nK (by omega)) (kd_expr (t := 2) hj (by decide)) (s_vin (N := 62) (rfl : x.toInt = _) (ln_expr (t := 2) hj (by decide)) (by omega) (by omega)) dX2_choiceLength_13 ?_
  have ek_5 : x.toNatClampNeg = (x.toInt).toNat := (s_cl (show x.toInt = x.toInt by omega))
  refine sj_i (y := (i (240 + 9 * j + 2) (x.toInt).toNat)) (by rw [ek_5]) ?_
  refine lv_isub hx hb dX2_choiceLength_14 ?_
  obtain ⟨z_6, ez_6, hz_6⟩ := s_sub (rfl : (i (240 + 9 * j + 2) (x.toInt + 1).toNat).toInt = _) (rfl : (i (240 + 9 * j + 2) (x.toInt).toNat).toInt = _) (by omega) (by omega)
  refine sj_i ez_6 ?_
  exact sj_zret hx hb hr hlocks rfl hS () ⟨⟨by omega, by omega⟩, (by first | omega | (refine ⟨?_, ?_, ?_⟩ <;> first | assumption | omega))⟩ hH (sj_Knil hK) (Nat.le_of_ble_eq_true rfl) (Nat.le_of_ble_eq_true rfl) dX2_choiceLength_15
set_option maxHeartbeats 2000000 in
set_option maxRecDepth 100000 in
theorem k_addChar (l : Launch) (D : va_G) (g : Nat → Nat) (ka : Nat → ClassId) (ad : Nat → Nat) (i : Nat → Nat → Int32) (r : Nat → Nat → Nat) (L : Nat → Nat → Int64) (d : Nat → Nat → UInt64) (j : Nat) (x : Int32) (hO : OkI i) (hR : RS r) (sz : Nat) (hj : j < 13) (hc : (i (240 + 9 * j) 2).toInt ≤ 60) (ht : kC i j ≤ 59) : Met l yX2_addChar wsX2_addChar ({ frames := 0, cells := 0, slots := 0, locals := 0 }) (va_Pc [.ref (g (240 + 9 * j)), .int x] (sj_B D (hwc g ka i r L d) (hT ka) sz (gx ad (va_A (hwc g ka i r L d) sz)))) (sj_Qv (S := (Nat → Nat → Int32)) D (fun u => OkI u ∧ (∀ a, ¬ (a = 240 + 9 * j + 1 ∨ a = 240 + 9 * j + 2) → u a = i a) ∧ (kC u j = kC i j + 1 ∧ kB u j = kB i j ∧ cn u j = cn i j ∧ (u (240 + 9 * j) 2).toInt = (i (240 + 9 * j) 2).toInt ∧ (u (240 + 9 * j) 5).toInt = (i (240 + 9 * j) 5).toInt ∧ (u (240 + 9 * j) 6).toInt = (i (240 + 9 * j) 6).toInt ∧ (u (240 + 9 * j + 2) 0).toInt = (i (240 + 9 * j + 2) 0).toInt) ∧ (mono i j → mono u j)) (fun u => hwc g ka u r L d) (fun _ => []) (va_A (hwc g ka i r L d) sz)) 0 0 (va_A (hwc g ka i r L d) sz) := by
  refine x_met (Ex := gx ad) (cc := cX2_addChar) (maxL := 2) (ret := none) (by decide) rfl (Nat.le_of_ble_eq_true rfl) ?_
  intro p e s m below meth c A ls hx hb hr hml hts hown hlocks hA hS hH hK hE hl
  have hown : s.vm.findClass RX2 = some m.cls := hown
  have in2 : ∀ w ∈ wsX20, w ∈ wsX2_addChar := (fun _ h => (List.mem_cons_of_mem _ (List.mem_append_right _ h)))
  have wd0 := hts (.fieldLink RX2 11 "StoryDesk$Expression" "chars" "[C") (List.mem_cons_of_mem _ (List.mem_append_left _ lm0))
  have wd1 := hts (.fieldLink RX2 15 "StoryDesk$Expression" "choiceStarts" "[I") (List.mem_cons_of_mem _ (List.mem_append_left _ lm1))
  have wd2 := hts (.fieldLink RX2 42 "StoryDesk$Expression" "choices" "I") (List.mem_cons_of_mem _ (List.mem_append_left _ lm2))
  have hl : lv_has ls 2 [(0, .ref (g (240 + 9 * j))), (1, .int x)] := hl
  have hK : va_K D vwCl (hT ka) s := hK
  have hg_1 := s_rng x
  have hiC0 : kC i j = (i (240 + 9 * j + 2) ((i (240 + 9 * j) 2).toInt + 1).toNat).toInt := rfl
  refine lv_aload_n hx hb dX2_addChar_0 rfl (lv_at hl 0 rfl) ?_
  refine h_getr (ci := 2) (C := RX2) (F := TX2) (N := 11) hx hb hts in2 hown hK hH (lt_nK (by omega)) (kd_expr (t := 0) hj (by decide)) (by decide) rfl 0 (by decide) wd0 (fun _ h9 => h9) (by decide) rfl (t := (240 + 9 * j + 1)) ((hR _ _ (by unfold dyn; simp <;> omega)).trans (sr_expr (by omega) (by omega))) (lt_nK (by omega)) dX2_addChar_1 ?_
  refine lv_aload_n hx hb dX2_addChar_4 rfl (lv_at hl 0 rfl) ?_
  refine h_getr (ci := 2) (C := RX2) (F := TX2) (N := 11) hx hb hts in2 hown hK hH (lt_nK (by omega)) (kd_expr (t := 0) hj (by decide)) (by decide) rfl 1 (by decide) wd1 (fun _ h9 => h9) (by decide) rfl (t := (240 + 9 * j + 2)) ((hR _ _ (by unfold dyn; simp <;> omega)).trans (sr_expr (by omega) (by omega))) (lt_nK (by omega)) dX2_addChar_5 ?_
  refine lv_aload_n hx hb dX2_addChar_8 rfl (lv_at hl 0 rfl) ?_
  have bx_2 : (0 : Int) ≤ (i (240 + 9 * j) 2).toInt ∧ (i (240 + 9 * j) 2).toInt ≤ 61 := by have h9 := hO (240 + 9 * j) 2; rw [bx_expr0 hj 2] at h9; exact h9
  refine h_geti (ci := 2) (C := RX2) (F := TX2) (N := 11) hx hb hts in2 hown hK hH (lt_nK (by omega)) (kd_expr (t := 0) hj (by decide)) (by decide) rfl 2 (by decide) wd2 (fun _ h9 => h9) (by decide) rfl dX2_addChar_9 ?_
  refine lv_iconst (v := 1) hx hb dX2_addChar_12 (by decide) ?_
  refine lv_iadd hx hb dX2_addChar_13 ?_
  obtain ⟨z_3, ez_3, hz_3⟩ := s_add (rfl : (i (240 + 9 * j) 2).toInt = _) (show (1 : Int32).toInt = 1 from rfl) (by omega) (by omega)
  refine sj_i ez_3 ?_
  have bx_4 : (0 : Int) ≤ (i (240 + 9 * j + 2) ((i (240 + 9 * j) 2).toInt + 1).toNat).toInt ∧ (i (240 + 9 * j + 2) ((i (240 + 9 * j) 2).toInt + 1).toNat).toInt ≤ 60 := by have h9 := hO (240 + 9 * j + 2) ((i (240 + 9 * j) 2).toInt + 1).toNat; rw [bx_expr (t := 2) hj (by decide) (by decide) ((i (240 + 9 * j) 2).toInt + 1).toNat] at h9; exact h9
  refine h_iald hx hb hK hH (lt_nK (by omega)) (kd_expr (t := 2) hj (by decide)) (s_vin (N := 62) (rfl : z_3.toInt = _) (ln_expr (t := 2) hj (by decide)) (by omega) (by omega)) dX2_addChar_14 ?_
  have ek_5 : z_3.toNatClampNeg = ((i (240 + 9 * j) 2).toInt + 1).toNat := (s_cl (show z_3.toInt = (i (240 + 9 * j) 2).toInt + 1 by omega))
  refine sj_i (y := (i (240 + 9 * j + 2) ((i (240 + 9 * j) 2).toInt + 1).toNat)) (by rw [ek_5]) ?_
  refine lv_iload_n hx hb dX2_addChar_15 rfl (lv_at hl 1 rfl) ?_
  obtain ⟨z_6, ez_6⟩ : ∃ z, vp_nar .char x = z := ⟨_, rfl⟩
  have hz_6 := s_narcR ez_6
  have hO_7 := okp hO (n := (240 + 9 * j + 1)) (k := ((i (240 + 9 * j + 2) ((i (240 + 9 * j) 2).toInt + 1).toNat).toInt).toNat) (v := z_6) (by rw [bx_expr (t := 1) hj (by decide) (by decide) ((i (240 + 9 * j + 2) ((i (240 + 9 * j) 2).toInt + 1).toNat).toInt).toNat]; exact (show (0 : Int) ≤ (z_6 : Int32).toInt ∧ (z_6 : Int32).toInt ≤ 65535 from ⟨by omega, by omega⟩))
  refine h_cast hx hb hK hH hS (lt_nK (by omega)) (kd_expr (t := 1) hj (by decide)) (s_vin (N := 60) (rfl : (i (240 + 9 * j + 2) ((i (240 + 9 * j) 2).toInt + 1).toNat).toInt = _) (ln_expr (t := 1) hj (by decide)) (by omega) (by omega)) dX2_addChar_16 (fun H locs hH hS => ?_)
  rw [ez_6] at hH
  rw [s_cl (show (i (240 + 9 * j + 2) ((i (240 + 9 * j) 2).toInt + 1).toNat).toInt = (i (240 + 9 * j + 2) ((i (240 + 9 * j) 2).toInt + 1).toNat).toInt by omega)] at hH
  refine lv_aload_n hx hb dX2_addChar_17 rfl (lv_at hl 0 rfl) ?_
  refine h_getr (ci := 2) (C := RX2) (F := TX2) (N := 11) hx hb hts in2 hown hK hH (lt_nK (by omega)) (kd_expr (t := 0) hj (by decide)) (by decide) rfl 1 (by decide) wd1 (fun _ h9 => h9) (by decide) rfl (t := (240 + 9 * j + 2)) ((hR _ _ (by unfold dyn; simp <;> omega)).trans (sr_expr (by omega) (by omega))) (lt_nK (by omega)) dX2_addChar_18 ?_
  refine lv_aload_n hx hb dX2_addChar_21 rfl (lv_at hl 0 rfl) ?_
  refine h_geti (ci := 2) (C := RX2) (F := TX2) (N := 11) hx hb hts in2 hown hK hH (lt_nK (by omega)) (kd_expr (t := 0) hj (by decide)) (by decide) rfl 2 (by decide) wd2 (fun _ h9 => h9) (by decide) rfl dX2_addChar_22 ?_
  refine sj_i (y := (i (240 + 9 * j) 2)) (congrFun (up2_n _ _ (by omega)) _) ?_
  refine lv_iconst (v := 1) hx hb dX2_addChar_25 (by decide) ?_
  refine lv_iadd hx hb dX2_addChar_26 ?_
  obtain ⟨z_8, ez_8, hz_8⟩ := s_add (rfl : (i (240 + 9 * j) 2).toInt = _) (show (1 : Int32).toInt = 1 from rfl) (by omega) (by omega)
  refine sj_i ez_8 ?_
  refine lv_dup2_11 hx hb dX2_addChar_27 rfl rfl ?_
  refine h_iald hx hb hK hH (lt_nK (by omega)) (kd_expr (t := 2) hj (by decide)) (s_vin (N := 62) (rfl : z_8.toInt = _) (ln_expr (t := 2) hj (by decide)) (by omega) (by omega)) dX2_addChar_28 ?_
  have ek_9 : z_8.toNatClampNeg = ((i (240 + 9 * j) 2).toInt + 1).toNat := (s_cl (show z_8.toInt = (i (240 + 9 * j) 2).toInt + 1 by omega))
  refine sj_i (y := (i (240 + 9 * j + 2) ((i (240 + 9 * j) 2).toInt + 1).toNat)) (by rw [ek_9]; exact (congrFun (up2_n _ _ (by omega)) _)) ?_
  refine lv_iconst (v := 1) hx hb dX2_addChar_29 (by decide) ?_
  refine lv_iadd hx hb dX2_addChar_30 ?_
  obtain ⟨z_10, ez_10, hz_10⟩ := s_add (rfl : (i (240 + 9 * j + 2) ((i (240 + 9 * j) 2).toInt + 1).toNat).toInt = _) (show (1 : Int32).toInt = 1 from rfl) (by omega) (by omega)
  refine sj_i ez_10 ?_
  have hO_11 := okp hO_7 (n := (240 + 9 * j + 2)) (k := ((i (240 + 9 * j) 2).toInt + 1).toNat) (v := z_10) (by rw [bx_expr (t := 2) hj (by decide) (by decide) ((i (240 + 9 * j) 2).toInt + 1).toNat]; exact (show (0 : Int) ≤ (z_10 : Int32).toInt ∧ (z_10 : Int32).toInt ≤ 60 from ⟨by omega, by omega⟩))
  refine h_iast hx hb hK hH hS (lt_nK (by omega)) (kd_expr (t := 2) hj (by decide)) (s_vin (N := 62) (rfl : z_8.toInt = _) (ln_expr (t := 2) hj (by decide)) (by omega) (by omega)) dX2_addChar_31 (fun H locs hH hS => ?_)
  rw [s_cl (show z_8.toInt = (i (240 + 9 * j) 2).toInt + 1 by omega)] at hH
  have hzz : (0 : Int32).toInt = 0 := rfl
  have hf2 : (up2 (up2 i (240 + 9 * j + 1) ((i (240 + 9 * j + 2) ((i (240 + 9 * j) 2).toInt + 1).toNat).toInt).toNat z_6) (240 + 9 * j + 2) ((i (240 + 9 * j) 2).toInt + 1).toNat z_10) (240 + 9 * j) 2 = (i (240 + 9 * j) 2) := ((congrFun (up2_n _ _ (by omega)) _).trans (congrFun (up2_n _ _ (by omega)) _))
  have hf2i := congrArg Int32.toInt hf2
  have hf5 : (up2 (up2 i (240 + 9 * j + 1) ((i (240 + 9 * j + 2) ((i (240 + 9 * j) 2).toInt + 1).toNat).toInt).toNat z_6) (240 + 9 * j + 2) ((i (240 + 9 * j) 2).toInt + 1).toNat z_10) (240 + 9 * j) 5 = (i (240 + 9 * j) 5) := ((congrFun (up2_n _ _ (by omega)) _).trans (congrFun (up2_n _ _ (by omega)) _))
  have hf5i := congrArg Int32.toInt hf5
  have hf6 : (up2 (up2 i (240 + 9 * j + 1) ((i (240 + 9 * j + 2) ((i (240 + 9 * j) 2).toInt + 1).toNat).toInt).toNat z_6) (240 + 9 * j + 2) ((i (240 + 9 * j) 2).toInt + 1).toNat z_10) (240 + 9 * j) 6 = (i (240 + 9 * j) 6) := ((congrFun (up2_n _ _ (by omega)) _).trans (congrFun (up2_n _ _ (by omega)) _))
  have hf6i := congrArg Int32.toInt hf6
  have hkC : kC (up2 (up2 i (240 + 9 * j + 1) ((i (240 + 9 * j + 2) ((i (240 + 9 * j) 2).toInt + 1).toNat).toInt).toNat z_6) (240 + 9 * j + 2) ((i (240 + 9 * j) 2).toInt + 1).toNat z_10) j = (z_10 : Int32).toInt := by unfold kC; rw [hf2, show (((i (240 + 9 * j) 2) : Int32).toInt + 1).toNat = ((i (240 + 9 * j) 2).toInt + 1).toNat by omega]; exact congrArg Int32.toInt ((up2_at _ _ _ _))
  have hkB : kB (up2 (up2 i (240 + 9 * j + 1) ((i (240 + 9 * j + 2) ((i (240 + 9 * j) 2).toInt + 1).toNat).toInt).toNat z_6) (240 + 9 * j + 2) ((i (240 + 9 * j) 2).toInt + 1).toNat z_10) j = ((i (240 + 9 * j + 2) ((i (240 + 9 * j) 2).toInt).toNat) : Int32).toInt := by unfold kB; rw [hf2, show (((i (240 + 9 * j) 2) : Int32).toInt).toNat = ((i (240 + 9 * j) 2).toInt).toNat by omega]; exact congrArg Int32.toInt (((up2_k _ _ (by omega)).trans (congrFun (up2_n _ _ (by omega)) _)))
  have hiC : kC i j = (i (240 + 9 * j + 2) ((i (240 + 9 * j) 2).toInt + 1).toNat).toInt := rfl
  have hiB : kB i j = (i (240 + 9 * j + 2) ((i (240 + 9 * j) 2).toInt).toNat).toInt := rfl
  have hf0 : ((up2 (up2 i (240 + 9 * j + 1) ((i (240 + 9 * j + 2) ((i (240 + 9 * j) 2).toInt + 1).toNat).toInt).toNat z_6) (240 + 9 * j + 2) ((i (240 + 9 * j) 2).toInt + 1).toNat z_10) (240 + 9 * j + 2) 0).toInt = ((i (240 + 9 * j + 2) 0) : Int32).toInt := congrArg Int32.toInt (((up2_k _ _ (by omega)).trans (congrFun (up2_n _ _ (by omega)) _)))
  have hcn : cn (up2 (up2 i (240 + 9 * j + 1) ((i (240 + 9 * j + 2) ((i (240 + 9 * j) 2).toInt + 1).toNat).toInt).toNat z_6) (240 + 9 * j + 2) ((i (240 + 9 * j) 2).toInt + 1).toNat z_10) j = cn i j := by unfold cn; rw [hf5, show (up2 (up2 i (240 + 9 * j + 1) ((i (240 + 9 * j + 2) ((i (240 + 9 * j) 2).toInt + 1).toNat).toInt).toNat z_6) (240 + 9 * j + 2) ((i (240 + 9 * j) 2).toInt + 1).toNat z_10) (240 + 9 * j + 3) = i (240 + 9 * j + 3) from ((up2_n _ _ (by omega)).trans (up2_n _ _ (by omega)))]
  exact sj_vret hx hb hr hlocks hS (up2 (up2 i (240 + 9 * j + 1) ((i (240 + 9 * j + 2) ((i (240 + 9 * j) 2).toInt + 1).toNat).toInt).toNat z_6) (240 + 9 * j + 2) ((i (240 + 9 * j) 2).toInt + 1).toNat z_10) ⟨hO_11, (fun a ha => ((up2_n _ _ (by omega)).trans (up2_n _ _ (by omega)))), (by first | omega | (refine ⟨?_, ?_, ?_, ?_, ?_, ?_, ?_⟩ <;> first | assumption | omega)), (fun hm => mono_add (k := ((i (240 + 9 * j) 2).toInt + 1).toNat) (z := z_10) hm ((up2_r _ _ _ _).trans (congrArg (fun f => upd f ((i (240 + 9 * j) 2).toInt + 1).toNat z_10) (up2_n _ _ (by omega)))) (by omega) ((up2_n _ _ (by omega)).trans (up2_n _ _ (by omega))) (by omega) (by omega))⟩ hH (sj_Knil hK) (Nat.le_of_ble_eq_true rfl) (Nat.le_of_ble_eq_true rfl) dX2_addChar_32
set_option maxHeartbeats 2000000 in
set_option maxRecDepth 100000 in
theorem k_endChoice (l : Launch) (D : va_G) (g : Nat → Nat) (ka : Nat → ClassId) (ad : Nat → Nat) (i : Nat → Nat → Int32) (r : Nat → Nat → Nat) (L : Nat → Nat → Int64) (d : Nat → Nat → UInt64) (j : Nat) (hO : OkI i) (hR : RS r) (sz : Nat) (hj : j < 13) (hc : (i (240 + 9 * j) 2).toInt ≤ 59) : Met l yX2_endChoice wsX2_endChoice ({ frames := 0, cells := 0, slots := 0, locals := 0 }) (va_Pc [.ref (g (240 + 9 * j))] (sj_B D (hwc g ka i r L d) (hT ka) sz (gx ad (va_A (hwc g ka i r L d) sz)))) (sj_Qv (S := (Nat → Nat → Int32)) D (fun u => OkI u ∧ (∀ a, ¬ (a = 240 + 9 * j ∨ a = 240 + 9 * j + 2) → u a = i a) ∧ ((u (240 + 9 * j) 2).toInt = (i (240 + 9 * j) 2).toInt + 1 ∧ kB u j = kC i j ∧ kC u j = kC i j ∧ cn u j = cn i j ∧ (u (240 + 9 * j) 5).toInt = (i (240 + 9 * j) 5).toInt ∧ (u (240 + 9 * j) 6).toInt = (i (240 + 9 * j) 6).toInt ∧ (u (240 + 9 * j + 2) 0).toInt = (i (240 + 9 * j + 2) 0).toInt) ∧ (mono i j → kB i j ≤ kC i j → mono u j)) (fun u => hwc g ka u r L d) (fun _ => []) (va_A (hwc g ka i r L d) sz)) 0 0 (va_A (hwc g ka i r L d) sz) := by
  refine x_met (Ex := gx ad) (cc := cX2_endChoice) (maxL := 1) (ret := none) (by decide) rfl (Nat.le_of_ble_eq_true rfl) ?_
  intro p e s m below meth c A ls hx hb hr hml hts hown hlocks hA hS hH hK hE hl
  have hown : s.vm.findClass RX2 = some m.cls := hown
  have in2 : ∀ w ∈ wsX20, w ∈ wsX2_endChoice := (fun _ h => (List.mem_cons_of_mem _ (List.mem_append_right _ h)))
  have wd0 := hts (.fieldLink RX2 42 "StoryDesk$Expression" "choices" "I") (List.mem_cons_of_mem _ (List.mem_append_left _ lm0))
  have wd1 := hts (.fieldLink RX2 15 "StoryDesk$Expression" "choiceStarts" "[I") (List.mem_cons_of_mem _ (List.mem_append_left _ lm1))
  have hl : lv_has ls 1 [(0, .ref (g (240 + 9 * j)))] := hl
  have hK : va_K D vwCl (hT ka) s := hK
  refine lv_aload_n hx hb dX2_endChoice_0 rfl (lv_at hl 0 rfl) ?_
  refine lv_dup hx hb dX2_endChoice_1 rfl ?_
  have bx_1 : (0 : Int) ≤ (i (240 + 9 * j) 2).toInt ∧ (i (240 + 9 * j) 2).toInt ≤ 61 := by have h9 := hO (240 + 9 * j) 2; rw [bx_expr0 hj 2] at h9; exact h9
  refine h_geti (ci := 2) (C := RX2) (F := TX2) (N := 11) hx hb hts in2 hown hK hH (lt_nK (by omega)) (kd_expr (t := 0) hj (by decide)) (by decide) rfl 2 (by decide) wd0 (fun _ h9 => h9) (by decide) rfl dX2_endChoice_2 ?_
  refine lv_iconst (v := 1) hx hb dX2_endChoice_5 (by decide) ?_
  refine lv_iadd hx hb dX2_endChoice_6 ?_
  obtain ⟨z_2, ez_2, hz_2⟩ := s_add (rfl : (i (240 + 9 * j) 2).toInt = _) (show (1 : Int32).toInt = 1 from rfl) (by omega) (by omega)
  refine sj_i ez_2 ?_
  have hO_3 := okp hO (n := (240 + 9 * j)) (k := 2) (v := z_2) (by rw [bx_expr0 hj 2]; exact (show (0 : Int) ≤ (z_2 : Int32).toInt ∧ (z_2 : Int32).toInt ≤ 61 from ⟨by omega, by omega⟩))
  refine h_puti (ty := .int) (ci := 2) (C := RX2) (F := TX2) (N := 11) hx hb hts in2 tyX2 tyX2_ok nmX2 hown hK hH hS (lt_nK (by omega)) (kd_expr (t := 0) hj (by decide)) (by decide) rfl 2 (by decide) wd0 (fun _ h9 => h9) rfl (by decide +kernel) rfl rfl (by decide) rfl dX2_endChoice_7 (fun H locs hH hS => ?_)
  refine lv_aload_n hx hb dX2_endChoice_10 rfl (lv_at hl 0 rfl) ?_
  refine h_getr (ci := 2) (C := RX2) (F := TX2) (N := 11) hx hb hts in2 hown hK hH (lt_nK (by omega)) (kd_expr (t := 0) hj (by decide)) (by decide) rfl 1 (by decide) wd1 (fun _ h9 => h9) (by decide) rfl (t := (240 + 9 * j + 2)) ((hR _ _ (by unfold dyn; simp <;> omega)).trans (sr_expr (by omega) (by omega))) (lt_nK (by omega)) dX2_endChoice_11 ?_
  refine lv_aload_n hx hb dX2_endChoice_14 rfl (lv_at hl 0 rfl) ?_
  refine h_geti (ci := 2) (C := RX2) (F := TX2) (N := 11) hx hb hts in2 hown hK hH (lt_nK (by omega)) (kd_expr (t := 0) hj (by decide)) (by decide) rfl 2 (by decide) wd0 (fun _ h9 => h9) (by decide) rfl dX2_endChoice_15 ?_
  refine sj_i (y := z_2) (up2_at _ _ _ _) ?_
  refine lv_iconst (v := 1) hx hb dX2_endChoice_18 (by decide) ?_
  refine lv_iadd hx hb dX2_endChoice_19 ?_
  obtain ⟨z_4, ez_4, hz_4⟩ := s_add (rfl : z_2.toInt = _) (show (1 : Int32).toInt = 1 from rfl) (by omega) (by omega)
  refine sj_i ez_4 ?_
  refine lv_aload_n hx hb dX2_endChoice_20 rfl (lv_at hl 0 rfl) ?_
  refine h_getr (ci := 2) (C := RX2) (F := TX2) (N := 11) hx hb hts in2 hown hK hH (lt_nK (by omega)) (kd_expr (t := 0) hj (by decide)) (by decide) rfl 1 (by decide) wd1 (fun _ h9 => h9) (by decide) rfl (t := (240 + 9 * j + 2)) ((hR _ _ (by unfold dyn; simp <;> omega)).trans (sr_expr (by omega) (by omega))) (lt_nK (by omega)) dX2_endChoice_21 ?_
  refine lv_aload_n hx hb dX2_endChoice_24 rfl (lv_at hl 0 rfl) ?_
  refine h_geti (ci := 2) (C := RX2) (F := TX2) (N := 11) hx hb hts in2 hown hK hH (lt_nK (by omega)) (kd_expr (t := 0) hj (by decide)) (by decide) rfl 2 (by decide) wd0 (fun _ h9 => h9) (by decide) rfl dX2_endChoice_25 ?_
  refine sj_i (y := z_2) (up2_at _ _ _ _) ?_
  have bx_5 : (0 : Int) ≤ (i (240 + 9 * j + 2) ((i (240 + 9 * j) 2).toInt + 1).toNat).toInt ∧ (i (240 + 9 * j + 2) ((i (240 + 9 * j) 2).toInt + 1).toNat).toInt ≤ 60 := by have h9 := hO (240 + 9 * j + 2) ((i (240 + 9 * j) 2).toInt + 1).toNat; rw [bx_expr (t := 2) hj (by decide) (by decide) ((i (240 + 9 * j) 2).toInt + 1).toNat] at h9; exact h9
  refine h_iald hx hb hK hH (lt_nK (by omega)) (kd_expr (t := 2) hj (by decide)) (s_vin (N := 62) (rfl : z_2.toInt = _) (ln_expr (t := 2) hj (by decide)) (by omega) (by omega)) dX2_endChoice_28 ?_
  have ek_6 : z_2.toNatClampNeg = ((i (240 + 9 * j) 2).toInt + 1).toNat := (s_cl (show z_2.toInt = (i (240 + 9 * j) 2).toInt + 1 by omega))
  refine sj_i (y := (i (240 + 9 * j + 2) ((i (240 + 9 * j) 2).toInt + 1).toNat)) (by rw [ek_6]; exact (congrFun (up2_n _ _ (by omega)) _)) ?_
  have hO_7 := okp hO_3 (n := (240 + 9 * j + 2)) (k := ((i (240 + 9 * j) 2).toInt + 2).toNat) (v := (i (240 + 9 * j + 2) ((i (240 + 9 * j) 2).toInt + 1).toNat)) (by rw [bx_expr (t := 2) hj (by decide) (by decide) ((i (240 + 9 * j) 2).toInt + 2).toNat]; exact (show (0 : Int) ≤ ((i (240 + 9 * j + 2) ((i (240 + 9 * j) 2).toInt + 1).toNat) : Int32).toInt ∧ ((i (240 + 9 * j + 2) ((i (240 + 9 * j) 2).toInt + 1).toNat) : Int32).toInt ≤ 60 from ⟨by omega, by omega⟩))
  refine h_iast hx hb hK hH hS (lt_nK (by omega)) (kd_expr (t := 2) hj (by decide)) (s_vin (N := 62) (rfl : z_4.toInt = _) (ln_expr (t := 2) hj (by decide)) (by omega) (by omega)) dX2_endChoice_29 (fun H locs hH hS => ?_)
  rw [s_cl (show z_4.toInt = (i (240 + 9 * j) 2).toInt + 2 by omega)] at hH
  have hzz : (0 : Int32).toInt = 0 := rfl
  have hf2 : (up2 (up2 i (240 + 9 * j) 2 z_2) (240 + 9 * j + 2) ((i (240 + 9 * j) 2).toInt + 2).toNat (i (240 + 9 * j + 2) ((i (240 + 9 * j) 2).toInt + 1).toNat)) (240 + 9 * j) 2 = z_2 := ((congrFun (up2_n _ _ (by omega)) _).trans (up2_at _ _ _ _))
  have hf2i := congrArg Int32.toInt hf2
  have hf5 : (up2 (up2 i (240 + 9 * j) 2 z_2) (240 + 9 * j + 2) ((i (240 + 9 * j) 2).toInt + 2).toNat (i (240 + 9 * j + 2) ((i (240 + 9 * j) 2).toInt + 1).toNat)) (240 + 9 * j) 5 = (i (240 + 9 * j) 5) := ((congrFun (up2_n _ _ (by omega)) _).trans (up2_k _ _ (by decide)))
  have hf5i := congrArg Int32.toInt hf5
  have hf6 : (up2 (up2 i (240 + 9 * j) 2 z_2) (240 + 9 * j + 2) ((i (240 + 9 * j) 2).toInt + 2).toNat (i (240 + 9 * j + 2) ((i (240 + 9 * j) 2).toInt + 1).toNat)) (240 + 9 * j) 6 = (i (240 + 9 * j) 6) := ((congrFun (up2_n _ _ (by omega)) _).trans (up2_k _ _ (by decide)))
  have hf6i := congrArg Int32.toInt hf6
  have hkC : kC (up2 (up2 i (240 + 9 * j) 2 z_2) (240 + 9 * j + 2) ((i (240 + 9 * j) 2).toInt + 2).toNat (i (240 + 9 * j + 2) ((i (240 + 9 * j) 2).toInt + 1).toNat)) j = ((i (240 + 9 * j + 2) ((i (240 + 9 * j) 2).toInt + 1).toNat) : Int32).toInt := by unfold kC; rw [hf2, show ((z_2 : Int32).toInt + 1).toNat = ((i (240 + 9 * j) 2).toInt + 2).toNat by omega]; exact congrArg Int32.toInt ((up2_at _ _ _ _))
  have hkB : kB (up2 (up2 i (240 + 9 * j) 2 z_2) (240 + 9 * j + 2) ((i (240 + 9 * j) 2).toInt + 2).toNat (i (240 + 9 * j + 2) ((i (240 + 9 * j) 2).toInt + 1).toNat)) j = ((i (240 + 9 * j + 2) ((i (240 + 9 * j) 2).toInt + 1).toNat) : Int32).toInt := by unfold kB; rw [hf2, show ((z_2 : Int32).toInt).toNat = ((i (240 + 9 * j) 2).toInt + 1).toNat by omega]; exact congrArg Int32.toInt (((up2_k _ _ (by omega)).trans (congrFun (up2_n _ _ (by omega)) _)))
  have hiC : kC i j = (i (240 + 9 * j + 2) ((i (240 + 9 * j) 2).toInt + 1).toNat).toInt := rfl
  have hiB : kB i j = (i (240 + 9 * j + 2) ((i (240 + 9 * j) 2).toInt).toNat).toInt := rfl
  have hf0 : ((up2 (up2 i (240 + 9 * j) 2 z_2) (240 + 9 * j + 2) ((i (240 + 9 * j) 2).toInt + 2).toNat (i (240 + 9 * j + 2) ((i (240 + 9 * j) 2).toInt + 1).toNat)) (240 + 9 * j + 2) 0).toInt = ((i (240 + 9 * j + 2) 0) : Int32).toInt := congrArg Int32.toInt (((up2_k _ _ (by omega)).trans (congrFun (up2_n _ _ (by omega)) _)))
  have hcn : cn (up2 (up2 i (240 + 9 * j) 2 z_2) (240 + 9 * j + 2) ((i (240 + 9 * j) 2).toInt + 2).toNat (i (240 + 9 * j + 2) ((i (240 + 9 * j) 2).toInt + 1).toNat)) j = cn i j := by unfold cn; rw [hf5, show (up2 (up2 i (240 + 9 * j) 2 z_2) (240 + 9 * j + 2) ((i (240 + 9 * j) 2).toInt + 2).toNat (i (240 + 9 * j + 2) ((i (240 + 9 * j) 2).toInt + 1).toNat)) (240 + 9 * j + 3) = i (240 + 9 * j + 3) from ((up2_n _ _ (by omega)).trans (up2_n _ _ (by omega)))]
  exact sj_vret hx hb hr hlocks hS (up2 (up2 i (240 + 9 * j) 2 z_2) (240 + 9 * j + 2) ((i (240 + 9 * j) 2).toInt + 2).toNat (i (240 + 9 * j + 2) ((i (240 + 9 * j) 2).toInt + 1).toNat)) ⟨hO_7, (fun a ha => ((up2_n _ _ (by omega)).trans (up2_n _ _ (by omega)))), (by first | omega | (refine ⟨?_, ?_, ?_, ?_, ?_, ?_, ?_⟩ <;> first | assumption | omega)), (fun hm hb => mono_choice (k := ((i (240 + 9 * j) 2).toInt + 2).toNat) (z := (i (240 + 9 * j + 2) ((i (240 + 9 * j) 2).toInt + 1).toNat)) hm hb (by omega) ((up2_r _ _ _ _).trans (congrArg (fun f => upd f ((i (240 + 9 * j) 2).toInt + 2).toNat (i (240 + 9 * j + 2) ((i (240 + 9 * j) 2).toInt + 1).toNat)) (up2_n _ _ (by omega)))) (by omega) ((up2_n _ _ (by omega)).trans (up2_n _ _ (by omega))) (by omega) (by omega))⟩ hH (sj_Knil hK) (Nat.le_of_ble_eq_true rfl) (Nat.le_of_ble_eq_true rfl) dX2_endChoice_30
set_option maxHeartbeats 2000000 in
set_option maxRecDepth 100000 in
theorem k_endElement (l : Launch) (D : va_G) (g : Nat → Nat) (ka : Nat → ClassId) (ad : Nat → Nat) (i : Nat → Nat → Int32) (r : Nat → Nat → Nat) (L : Nat → Nat → Int64) (d : Nat → Nat → UInt64) (j : Nat) (x : Int32) (hO : OkI i) (hR : RS r) (sz : Nat) (hj : j < 13) (hc : (i (240 + 9 * j) 5).toInt ≤ 59) (hv0 : 0 ≤ x.toInt) (hv1 : x.toInt ≤ 65535) : Met l yX2_endElement wsX2_endElement ({ frames := 0, cells := 0, slots := 0, locals := 0 }) (va_Pc [.ref (g (240 + 9 * j)), .int x] (sj_B D (hwc g ka i r L d) (hT ka) sz (gx ad (va_A (hwc g ka i r L d) sz)))) (sj_Qv (S := (Nat → Nat → Int32)) D (fun u => OkI u ∧ (∀ a, ¬ (a = 240 + 9 * j ∨ a = 240 + 9 * j + 3 ∨ a = 240 + 9 * j + 4) → u a = i a) ∧ ((u (240 + 9 * j) 5).toInt = (i (240 + 9 * j) 5).toInt + 1 ∧ kB u j = kB i j ∧ kC u j = kC i j ∧ cn u j ≤ cn i j + 1 ∧ (x.toInt = 47 → cn u j = cn i j) ∧ (u (240 + 9 * j) 2).toInt = (i (240 + 9 * j) 2).toInt ∧ (u (240 + 9 * j) 6).toInt = (i (240 + 9 * j) 6).toInt ∧ (u (240 + 9 * j + 2) 0).toInt = (i (240 + 9 * j + 2) 0).toInt) ∧ (mono i j → mono u j)) (fun u => hwc g ka u r L d) (fun _ => []) (va_A (hwc g ka i r L d) sz)) 0 0 (va_A (hwc g ka i r L d) sz) := by
  refine x_met (Ex := gx ad) (cc := cX2_endElement) (maxL := 2) (ret := none) (by decide) rfl (Nat.le_of_ble_eq_true rfl) ?_
  intro p e s m below meth c A ls hx hb hr hml hts hown hlocks hA hS hH hK hE hl
  have hown : s.vm.findClass RX2 = some m.cls := hown
  have in2 : ∀ w ∈ wsX20, w ∈ wsX2_endElement := (fun _ h => (List.mem_cons_of_mem _ (List.mem_append_right _ h)))
  have wd0 := hts (.fieldLink RX2 19 "StoryDesk$Expression" "kinds" "[C") (List.mem_cons_of_mem _ (List.mem_append_left _ lm0))
  have wd1 := hts (.fieldLink RX2 38 "StoryDesk$Expression" "elements" "I") (List.mem_cons_of_mem _ (List.mem_append_left _ lm1))
  have wd2 := hts (.fieldLink RX2 22 "StoryDesk$Expression" "firstChoices" "[I") (List.mem_cons_of_mem _ (List.mem_append_left _ lm2))
  have wd3 := hts (.fieldLink RX2 42 "StoryDesk$Expression" "choices" "I") (List.mem_cons_of_mem _ (List.mem_append_left _ lm3))
  have hl : lv_has ls 2 [(0, .ref (g (240 + 9 * j))), (1, .int x)] := hl
  have hK : va_K D vwCl (hT ka) s := hK
  refine lv_aload_n hx hb dX2_endElement_0 rfl (lv_at hl 0 rfl) ?_
  refine h_getr (ci := 2) (C := RX2) (F := TX2) (N := 11) hx hb hts in2 hown hK hH (lt_nK (by omega)) (kd_expr (t := 0) hj (by decide)) (by decide) rfl 3 (by decide) wd0 (fun _ h9 => h9) (by decide) rfl (t := (240 + 9 * j + 3)) ((hR _ _ (by unfold dyn; simp <;> omega)).trans (sr_expr (by omega) (by omega))) (lt_nK (by omega)) dX2_endElement_1 ?_
  refine lv_aload_n hx hb dX2_endElement_4 rfl (lv_at hl 0 rfl) ?_
  have bx_1 : (0 : Int) ≤ (i (240 + 9 * j) 5).toInt ∧ (i (240 + 9 * j) 5).toInt ≤ 60 := by have h9 := hO (240 + 9 * j) 5; rw [bx_expr0 hj 5] at h9; exact h9
  refine h_geti (ci := 2) (C := RX2) (F := TX2) (N := 11) hx hb hts in2 hown hK hH (lt_nK (by omega)) (kd_expr (t := 0) hj (by decide)) (by decide) rfl 5 (by decide) wd1 (fun _ h9 => h9) (by decide) rfl dX2_endElement_5 ?_
  refine lv_iload_n hx hb dX2_endElement_8 rfl (lv_at hl 1 rfl) ?_
  obtain ⟨z_2, ez_2⟩ : ∃ z, vp_nar .char x = z := ⟨_, rfl⟩
  have hz_2 : z_2.toInt = x.toInt := by rw [← ez_2, s_narc (rfl : x.toInt = _) (by omega) (by omega)] <;> exact (rfl : x.toInt = _)
  have hO_3 := okp hO (n := (240 + 9 * j + 3)) (k := ((i (240 + 9 * j) 5).toInt).toNat) (v := z_2) (by rw [bx_expr (t := 3) hj (by decide) (by decide) ((i (240 + 9 * j) 5).toInt).toNat]; exact (show (0 : Int) ≤ (z_2 : Int32).toInt ∧ (z_2 : Int32).toInt ≤ 65535 from ⟨by omega, by omega⟩))
  refine h_cast hx hb hK hH hS (lt_nK (by omega)) (kd_expr (t := 3) hj (by decide)) (s_vin (N := 60) (rfl : (i (240 + 9 * j) 5).toInt = _) (ln_expr (t := 3) hj (by decide)) (by omega) (by omega)) dX2_endElement_9 (fun H locs hH hS => ?_)
  rw [ez_2] at hH
  rw [s_cl (show (i (240 + 9 * j) 5).toInt = (i (240 + 9 * j) 5).toInt by omega)] at hH
  refine lv_aload_n hx hb dX2_endElement_10 rfl (lv_at hl 0 rfl) ?_
  refine lv_dup hx hb dX2_endElement_11 rfl ?_
  refine h_geti (ci := 2) (C := RX2) (F := TX2) (N := 11) hx hb hts in2 hown hK hH (lt_nK (by omega)) (kd_expr (t := 0) hj (by decide)) (by decide) rfl 5 (by decide) wd1 (fun _ h9 => h9) (by decide) rfl dX2_endElement_12 ?_
  refine sj_i (y := (i (240 + 9 * j) 5)) (congrFun (up2_n _ _ (by omega)) _) ?_
  refine lv_iconst (v := 1) hx hb dX2_endElement_15 (by decide) ?_
  refine lv_iadd hx hb dX2_endElement_16 ?_
  obtain ⟨z_4, ez_4, hz_4⟩ := s_add (rfl : (i (240 + 9 * j) 5).toInt = _) (show (1 : Int32).toInt = 1 from rfl) (by omega) (by omega)
  refine sj_i ez_4 ?_
  have hO_5 := okp hO_3 (n := (240 + 9 * j)) (k := 5) (v := z_4) (by rw [bx_expr0 hj 5]; exact (show (0 : Int) ≤ (z_4 : Int32).toInt ∧ (z_4 : Int32).toInt ≤ 60 from ⟨by omega, by omega⟩))
  refine h_puti (ty := .int) (ci := 2) (C := RX2) (F := TX2) (N := 11) hx hb hts in2 tyX2 tyX2_ok nmX2 hown hK hH hS (lt_nK (by omega)) (kd_expr (t := 0) hj (by decide)) (by decide) rfl 5 (by decide) wd1 (fun _ h9 => h9) rfl (by decide +kernel) rfl rfl (by decide) rfl dX2_endElement_17 (fun H locs hH hS => ?_)
  refine lv_aload_n hx hb dX2_endElement_20 rfl (lv_at hl 0 rfl) ?_
  refine h_getr (ci := 2) (C := RX2) (F := TX2) (N := 11) hx hb hts in2 hown hK hH (lt_nK (by omega)) (kd_expr (t := 0) hj (by decide)) (by decide) rfl 4 (by decide) wd2 (fun _ h9 => h9) (by decide) rfl (t := (240 + 9 * j + 4)) ((hR _ _ (by unfold dyn; simp <;> omega)).trans (sr_expr (by omega) (by omega))) (lt_nK (by omega)) dX2_endElement_21 ?_
  refine lv_aload_n hx hb dX2_endElement_24 rfl (lv_at hl 0 rfl) ?_
  refine h_geti (ci := 2) (C := RX2) (F := TX2) (N := 11) hx hb hts in2 hown hK hH (lt_nK (by omega)) (kd_expr (t := 0) hj (by decide)) (by decide) rfl 5 (by decide) wd1 (fun _ h9 => h9) (by decide) rfl dX2_endElement_25 ?_
  refine sj_i (y := z_4) (up2_at _ _ _ _) ?_
  refine lv_aload_n hx hb dX2_endElement_28 rfl (lv_at hl 0 rfl) ?_
  have bx_6 : (0 : Int) ≤ (i (240 + 9 * j) 2).toInt ∧ (i (240 + 9 * j) 2).toInt ≤ 61 := by have h9 := hO (240 + 9 * j) 2; rw [bx_expr0 hj 2] at h9; exact h9
  refine h_geti (ci := 2) (C := RX2) (F := TX2) (N := 11) hx hb hts in2 hown hK hH (lt_nK (by omega)) (kd_expr (t := 0) hj (by decide)) (by decide) rfl 2 (by decide) wd3 (fun _ h9 => h9) (by decide) rfl dX2_endElement_29 ?_
  refine sj_i (y := (i (240 + 9 * j) 2)) ((up2_k _ _ (by decide)).trans (congrFun (up2_n _ _ (by omega)) _)) ?_
  have hO_7 := okp hO_5 (n := (240 + 9 * j + 4)) (k := ((i (240 + 9 * j) 5).toInt + 1).toNat) (v := (i (240 + 9 * j) 2)) (by rw [bx_expr (t := 4) hj (by decide) (by decide) ((i (240 + 9 * j) 5).toInt + 1).toNat]; exact (show (0 : Int) ≤ ((i (240 + 9 * j) 2) : Int32).toInt ∧ ((i (240 + 9 * j) 2) : Int32).toInt ≤ 61 from ⟨by omega, by omega⟩))
  refine h_iast hx hb hK hH hS (lt_nK (by omega)) (kd_expr (t := 4) hj (by decide)) (s_vin (N := 61) (rfl : z_4.toInt = _) (ln_expr (t := 4) hj (by decide)) (by omega) (by omega)) dX2_endElement_32 (fun H locs hH hS => ?_)
  rw [s_cl (show z_4.toInt = (i (240 + 9 * j) 5).toInt + 1 by omega)] at hH
  have hzz : (0 : Int32).toInt = 0 := rfl
  have hf2 : (up2 (up2 (up2 i (240 + 9 * j + 3) ((i (240 + 9 * j) 5).toInt).toNat z_2) (240 + 9 * j) 5 z_4) (240 + 9 * j + 4) ((i (240 + 9 * j) 5).toInt + 1).toNat (i (240 + 9 * j) 2)) (240 + 9 * j) 2 = (i (240 + 9 * j) 2) := ((congrFun (up2_n _ _ (by omega)) _).trans ((up2_k _ _ (by decide)).trans (congrFun (up2_n _ _ (by omega)) _)))
  have hf2i := congrArg Int32.toInt hf2
  have hf5 : (up2 (up2 (up2 i (240 + 9 * j + 3) ((i (240 + 9 * j) 5).toInt).toNat z_2) (240 + 9 * j) 5 z_4) (240 + 9 * j + 4) ((i (240 + 9 * j) 5).toInt + 1).toNat (i (240 + 9 * j) 2)) (240 + 9 * j) 5 = z_4 := ((congrFun (up2_n _ _ (by omega)) _).trans (up2_at _ _ _ _))
  have hf5i := congrArg Int32.toInt hf5
  have hf6 : (up2 (up2 (up2 i (240 + 9 * j + 3) ((i (240 + 9 * j) 5).toInt).toNat z_2) (240 + 9 * j) 5 z_4) (240 + 9 * j + 4) ((i (240 + 9 * j) 5).toInt + 1).toNat (i (240 + 9 * j) 2)) (240 + 9 * j) 6 = (i (240 + 9 * j) 6) := ((congrFun (up2_n _ _ (by omega)) _).trans ((up2_k _ _ (by decide)).trans (congrFun (up2_n _ _ (by omega)) _)))
  have hf6i := congrArg Int32.toInt hf6
  have hkC : kC (up2 (up2 (up2 i (240 + 9 * j + 3) ((i (240 + 9 * j) 5).toInt).toNat z_2) (240 + 9 * j) 5 z_4) (240 + 9 * j + 4) ((i (240 + 9 * j) 5).toInt + 1).toNat (i (240 + 9 * j) 2)) j = ((i (240 + 9 * j + 2) ((i (240 + 9 * j) 2).toInt + 1).toNat) : Int32).toInt := by unfold kC; rw [hf2, show (((i (240 + 9 * j) 2) : Int32).toInt + 1).toNat = ((i (240 + 9 * j) 2).toInt + 1).toNat by omega]; exact congrArg Int32.toInt (((congrFun (up2_n _ _ (by omega)) _).trans ((congrFun (up2_n _ _ (by omega)) _).trans (congrFun (up2_n _ _ (by omega)) _))))
  have hkB : kB (up2 (up2 (up2 i (240 + 9 * j + 3) ((i (240 + 9 * j) 5).toInt).toNat z_2) (240 + 9 * j) 5 z_4) (240 + 9 * j + 4) ((i (240 + 9 * j) 5).toInt + 1).toNat (i (240 + 9 * j) 2)) j = ((i (240 + 9 * j + 2) ((i (240 + 9 * j) 2).toInt).toNat) : Int32).toInt := by unfold kB; rw [hf2, show (((i (240 + 9 * j) 2) : Int32).toInt).toNat = ((i (240 + 9 * j) 2).toInt).toNat by omega]; exact congrArg Int32.toInt (((congrFun (up2_n _ _ (by omega)) _).trans ((congrFun (up2_n _ _ (by omega)) _).trans (congrFun (up2_n _ _ (by omega)) _))))
  have hiC : kC i j = (i (240 + 9 * j + 2) ((i (240 + 9 * j) 2).toInt + 1).toNat).toInt := rfl
  have hiB : kB i j = (i (240 + 9 * j + 2) ((i (240 + 9 * j) 2).toInt).toNat).toInt := rfl
  have hf0 : ((up2 (up2 (up2 i (240 + 9 * j + 3) ((i (240 + 9 * j) 5).toInt).toNat z_2) (240 + 9 * j) 5 z_4) (240 + 9 * j + 4) ((i (240 + 9 * j) 5).toInt + 1).toNat (i (240 + 9 * j) 2)) (240 + 9 * j + 2) 0).toInt = ((i (240 + 9 * j + 2) 0) : Int32).toInt := congrArg Int32.toInt (((congrFun (up2_n _ _ (by omega)) _).trans ((congrFun (up2_n _ _ (by omega)) _).trans (congrFun (up2_n _ _ (by omega)) _))))
  have hrow : (up2 (up2 (up2 i (240 + 9 * j + 3) ((i (240 + 9 * j) 5).toInt).toNat z_2) (240 + 9 * j) 5 z_4) (240 + 9 * j + 4) ((i (240 + 9 * j) 5).toInt + 1).toNat (i (240 + 9 * j) 2)) (240 + 9 * j + 3) = upd (i (240 + 9 * j + 3)) ((i (240 + 9 * j) 5).toInt).toNat z_2 := (up2_n _ _ (by omega)).trans ((up2_n _ _ (by omega)).trans (up2_r _ _ _ _))
  have hn5 : ((up2 (up2 (up2 i (240 + 9 * j + 3) ((i (240 + 9 * j) 5).toInt).toNat z_2) (240 + 9 * j) 5 z_4) (240 + 9 * j + 4) ((i (240 + 9 * j) 5).toInt + 1).toNat (i (240 + 9 * j) 2)) (240 + 9 * j) 5).toInt.toNat = ((i (240 + 9 * j) 5).toInt).toNat + 1 := by omega
  have hcn1 : cn (up2 (up2 (up2 i (240 + 9 * j + 3) ((i (240 + 9 * j) 5).toInt).toNat z_2) (240 + 9 * j) 5 z_4) (240 + 9 * j + 4) ((i (240 + 9 * j) 5).toInt + 1).toNat (i (240 + 9 * j) 2)) j ≤ cn i j + 1 := by unfold cn; rw [hrow, hn5]; exact cnc_le
  have hcn2 : x.toInt = 47 → cn (up2 (up2 (up2 i (240 + 9 * j + 3) ((i (240 + 9 * j) 5).toInt).toNat z_2) (240 + 9 * j) 5 z_4) (240 + 9 * j + 4) ((i (240 + 9 * j) 5).toInt + 1).toNat (i (240 + 9 * j) 2)) j = cn i j := by
      intro h
      have h8 : z_2 = 47 := p_eq rfl (show (47 : Int32).toInt = 47 from rfl) (by omega)
      unfold cn; rw [hrow, hn5, h8]; exact cnc_47
  exact sj_vret hx hb hr hlocks hS (up2 (up2 (up2 i (240 + 9 * j + 3) ((i (240 + 9 * j) 5).toInt).toNat z_2) (240 + 9 * j) 5 z_4) (240 + 9 * j + 4) ((i (240 + 9 * j) 5).toInt + 1).toNat (i (240 + 9 * j) 2)) ⟨hO_7, (fun a ha => ((up2_n _ _ (by omega)).trans ((up2_n _ _ (by omega)).trans (up2_n _ _ (by omega))))), ⟨by omega, by omega, by omega, hcn1, hcn2, by omega, by omega, hf0⟩, (fun hm => mono_elem (k := ((i (240 + 9 * j) 5).toInt + 1).toNat) hm (by omega) ((up2_n _ _ (by omega)).trans ((up2_n _ _ (by omega)).trans (up2_n _ _ (by omega)))) ((up2_r _ _ _ _).trans (congrArg (fun f => upd f ((i (240 + 9 * j) 5).toInt + 1).toNat (i (240 + 9 * j) 2)) ((up2_n _ _ (by omega)).trans (up2_n _ _ (by omega))))) (by omega) (by omega) (by omega))⟩ hH (sj_Knil hK) (Nat.le_of_ble_eq_true rfl) (Nat.le_of_ble_eq_true rfl) dX2_endElement_33
set_option maxHeartbeats 2000000 in
set_option maxRecDepth 100000 in
theorem k_takeOptional (l : Launch) (D : va_G) (g : Nat → Nat) (ka : Nat → ClassId) (ad : Nat → Nat) (i : Nat → Nat → Int32) (r : Nat → Nat → Nat) (L : Nat → Nat → Int64) (d : Nat → Nat → UInt64) (j : Nat) (x : Int32) (hO : OkI i) (hR : RS r) (sz : Nat) (hj : j < 13) (hl0 : (i 1 1).toInt ≤ 60) (hx0 : 0 ≤ x.toInt) (hx1 : x.toInt < (i 1 1).toInt) (hTx : exT i j x.toInt) : Met l yX2_takeOptional wsX2_takeOptional ({ frames := 1, cells := 0, slots := 0, locals := 21 }) (va_Pc [.ref (g (240 + 9 * j)), .ref (g 1), .int x] (sj_B D (hwc g ka i r L d) (hT ka) sz (gx ad (va_A (hwc g ka i r L d) sz)))) (sj_Qi (S := (Nat → Nat → Int32)) D (fun v u => OkI u ∧ (∀ a, ¬ (a = 240 + 9 * j ∨ a = 240 + 9 * j + 1 ∨ a = 240 + 9 * j + 2 ∨ a = 240 + 9 * j + 3 ∨ a = 240 + 9 * j + 4) → u a = i a) ∧ ((u (240 + 9 * j + 2) 0).toInt = 0 ∧ (v.toInt = -1 ∨ (x.toInt < v.toInt ∧ v.toInt ≤ (i 1 1).toInt ∧ exT u j v.toInt)))) (fun u => hwc g ka u r L d) (fun _ => []) (va_A (hwc g ka i r L d) sz)) 0 0 (va_A (hwc g ka i r L d) sz) := by
  refine x_met (Ex := gx ad) (cc := cX2_takeOptional) (maxL := 4) (ret := (some .int)) (by decide) rfl (Nat.le_of_ble_eq_true rfl) ?_
  intro p e s m below meth c A ls hx hb hr hml hts hown hlocks hA hS hH hK hE hl
  have hown : s.vm.findClass RX2 = some m.cls := hown
  have in2 : ∀ w ∈ wsX20, w ∈ wsX2_takeOptional := (fun _ h => (List.mem_cons_of_mem _ (List.mem_append_right _ h)))
  have in3 : ∀ w ∈ wsX30, w ∈ wsX2_takeOptional := (fun _ h => (List.mem_cons_of_mem _ (List.mem_append_left _ (List.mem_append_right _ h))))
  have wd0 := hts (.fieldLink RX2 48 "StoryDesk$Letters" "length" "I") (List.mem_cons_of_mem _ (List.mem_append_left _ (List.mem_append_left _ (List.mem_append_left _ lm0))))
  have wd1 := hts (.fieldLink RX2 42 "StoryDesk$Expression" "choices" "I") (List.mem_cons_of_mem _ (List.mem_append_left _ (List.mem_append_left _ (List.mem_append_left _ lm2))))
  have wd2 := hts (.fieldLink RX2 57 "StoryDesk$Letters" "chars" "[C") (List.mem_cons_of_mem _ (List.mem_append_left _ (List.mem_append_left _ (List.mem_append_left _ lm1))))
  have hl : lv_has ls 4 [(0, .ref (g (240 + 9 * j))), (1, .ref (g 1)), (2, .int x)] := hl
  have hK : va_K D vwCl (hT ka) s := hK
  obtain ⟨hT1, hT2, hT3, hT4, hT5, hT6, hT7⟩ := hTx
  refine lv_iload_n hx hb dX2_takeOptional_0 rfl (lv_at hl 2 rfl) ?_
  refine lv_iconst (v := 1) hx hb dX2_takeOptional_1 (by decide) ?_
  refine lv_iadd hx hb dX2_takeOptional_2 ?_
  obtain ⟨z_1, ez_1, hz_1⟩ := s_add (rfl : x.toInt = _) (show (1 : Int32).toInt = 1 from rfl) (by omega) (by omega)
  refine sj_i ez_1 ?_
  refine lv_istore_n (lv' := [(3, .int z_1), (0, .ref (g (240 + 9 * j))), (1, .ref (g 1)), (2, .int x)]) hx hb dX2_takeOptional_3 rfl hl (by decide) rfl (fun ls hl => ?_)
  -- loop at 4
  have lp_2 : ∀ (fuel_lp_2 : Nat) (f : Int32) (j1 : Nat → Nat → Int32) (H : Heap) (locs : List Loc) (ls : Array Slot), (60 - f.toInt).toNat < fuel_lp_2 → (0 : Int) ≤ f.toInt ∧ f.toInt ≤ 60 → x.toInt < f.toInt → kC j1 j ≤ f.toInt → (j1 (240 + 9 * j) 2).toInt = (i (240 + 9 * j) 2).toInt → (j1 (240 + 9 * j) 5).toInt = (i (240 + 9 * j) 5).toInt → (j1 (240 + 9 * j) 6).toInt = (i (240 + 9 * j) 6).toInt → cn j1 j = cn i j → (j1 (240 + 9 * j + 2) 0).toInt = 0 → kB j1 j = kB i j → kB j1 j ≤ kC j1 j → mono j1 j → OkI j1 → (∀ a, ¬ (a = 240 + 9 * j + 1 ∨ a = 240 + 9 * j + 2) → j1 a = i a) → lv_has ls 4 [(3, .int f), (0, .ref (g (240 + 9 * j))), (1, .ref (g 1)), (2, .int x)] → sj_H D A (hwc g ka j1 r L d) H → va_S A s.heap H locs → W p l e (headSpec wsX2_takeOptional ({ frames := 1, cells := 0, slots := 0, locals := 21 })).room s m ([.ref (g (240 + 9 * j)), .ref (g 1), .int x] : List Value).toArray below meth c H locs 0 0 (MQ below (sj_Qi (S := (Nat → Nat → Int32)) D (fun v u => OkI u ∧ (∀ a, ¬ (a = 240 + 9 * j ∨ a = 240 + 9 * j + 1 ∨ a = 240 + 9 * j + 2 ∨ a = 240 + 9 * j + 3 ∨ a = 240 + 9 * j + 4) → u a = i a) ∧ ((u (240 + 9 * j + 2) 0).toInt = 0 ∧ (v.toInt = -1 ∨ (x.toInt < v.toInt ∧ v.toInt ≤ (i 1 1).toInt ∧ exT u j v.toInt)))) (fun u => hwc g ka u r L d) (fun _ => []) A) ([.ref (g (240 + 9 * j)), .ref (g 1), .int x] : List Value).toArray s 0 0 A) (F0 m 4 ls []) := by
    intro fuel_lp_2
    induction fuel_lp_2 with
    | zero => intros; omega
    | succ fuel_lp_2 ih_lp_2 =>
      intro f j1 H locs ls hm hr_f hi_lp_2_0 hi_lp_2_1 hi_lp_2_2 hi_lp_2_3 hi_lp_2_4 hi_lp_2_5 hi_lp_2_6 hi_lp_2_7 hi_lp_2_8 hi_lp_2_9 hO_j1 hfr_j1 hl hH hS
      refine lv_iload_n hx hb dX2_takeOptional_4 rfl (lv_at hl 0 rfl) ?_
      refine lv_aload_n hx hb dX2_takeOptional_5 rfl (lv_at hl 2 rfl) ?_
      have bx_3 : (0 : Int) ≤ (i 1 1).toInt ∧ (i 1 1).toInt ≤ 480 := hO 1 1
      refine h_geti (ci := 3) (C := RX3) (F := TX3) (N := 2) hx hb hts in3 hown hK hH (by decide) (rfl : kd 1 = 3) (by decide) rfl 1 (by decide) wd0 (fun _ h9 => h9) (by decide) rfl dX2_takeOptional_6 ?_
      refine sj_i (y := (i 1 1)) (congrFun (hfr_j1 1 (by omega)) _) ?_
      refine lv_icmp_ge (tgt := 61) hx hb dX2_takeOptional_9 (by decide) (fun c_4 => ?_) (fun c_4 => ?_)
      · skip
        have h_5 := s_le (rfl : (i 1 1).toInt = _) (rfl : f.toInt = _) c_4
        refine lv_iload_n hx hb dX2_takeOptional_61 rfl (lv_at hl 0 rfl) ?_
        refine lv_aload_n hx hb dX2_takeOptional_62 rfl (lv_at hl 2 rfl) ?_
        refine h_geti (ci := 3) (C := RX3) (F := TX3) (N := 2) hx hb hts in3 hown hK hH (by decide) (rfl : kd 1 = 3) (by decide) rfl 1 (by decide) wd0 (fun _ h9 => h9) (by decide) rfl dX2_takeOptional_63 ?_
        refine sj_i (y := (i 1 1)) (congrFun (hfr_j1 1 (by omega)) _) ?_
        refine lv_icmp_ge (tgt := 80) hx hb dX2_takeOptional_66 (by decide) (fun c_6 => ?_) (fun c_6 => ?_)
        · skip
          have h_7 := s_le (rfl : (i 1 1).toInt = _) (rfl : f.toInt = _) c_6
          refine lv_iconst (v := (-1)) hx hb dX2_takeOptional_80 (by decide) ?_
          have hlv_8 : ((-1) : Int32).toInt = -1 := rfl
          exact sj_zret hx hb hr hlocks rfl hS j1 ⟨hO_j1, (fun a ha => (hfr_j1 a (by omega))), ⟨by omega, Or.inl (by omega)⟩⟩ hH (sj_Knil hK) (Nat.le_of_ble_eq_true rfl) (Nat.le_of_ble_eq_true rfl) dX2_takeOptional_81
        · skip
          have h_9 := s_nle (rfl : (i 1 1).toInt = _) (rfl : f.toInt = _) c_6
          refine lv_aload_n hx hb dX2_takeOptional_69 rfl (lv_at hl 1 rfl) ?_
          refine lv_aload_n hx hb dX2_takeOptional_70 rfl (lv_at hl 1 rfl) ?_
          have bx_10 : (0 : Int) ≤ (i (240 + 9 * j) 2).toInt ∧ (i (240 + 9 * j) 2).toInt ≤ 61 := by have h9 := hO (240 + 9 * j) 2; rw [bx_expr0 hj 2] at h9; exact h9
          refine h_geti (ci := 2) (C := RX2) (F := TX2) (N := 11) hx hb hts in2 hown hK hH (lt_nK (by omega)) (kd_expr (t := 0) hj (by decide)) (by decide) rfl 2 (by decide) wd1 (fun _ h9 => h9) (by decide) rfl dX2_takeOptional_71 ?_
          refine sj_i (y := (i (240 + 9 * j) 2)) (congrFun (hfr_j1 (240 + 9 * j) (by omega)) _) ?_
          refine x_calli (va_runV (As := [.int (i (240 + 9 * j) 2)]) (rest := []) ⟨hx, hb, hml, hown, hts⟩ (k_choiceLength l D g ka ad j1 r L d j (i (240 + 9 * j) 2) hO_j1 hR H.size (by first | omega | decide) (by first | omega | decide) (by first | omega | decide)) (cwV 1 hts gX2_takeOptional_X2_choiceLength rfl rfl rfl (by decide +kernel) ⟨(Nat.le_of_ble_eq_true rfl), (Nat.le_of_ble_eq_true rfl)⟩) (x_preV (q := (RX2, TX2, 11)) hH hK (q_obj (lt_nK (by omega)) (kd_expr (t := 0) hj (by decide)) (by decide)) rfl gxb (gxw hE hS (x_F hH hS hA))) rfl rfl hl.1 rfl (lv_room (Nat.le_of_ble_eq_true rfl)) dX2_takeOptional_74 ⟨(Nat.le_of_ble_eq_true rfl), (Nat.le_of_ble_eq_true rfl)⟩) hH hS hA rfl rfl (fun r_11 _ H locs hw_12 hH hS => ?_)
          obtain ⟨hr_14, he_15⟩ := hw_12
          have hr_14 : (-60 : Int) ≤ r_11.toInt ∧ r_11.toInt ≤ 60 := hr_14
          have hr_11C : kC j1 j = (j1 (240 + 9 * j + 2) ((j1 (240 + 9 * j) 2).toInt + 1).toNat).toInt := rfl
          have hr_11B : kB j1 j = (j1 (240 + 9 * j + 2) ((j1 (240 + 9 * j) 2).toInt).toNat).toInt := rfl
          refine lv_if_ne (tgt := 82) hx hb dX2_takeOptional_77 (by decide) (fun c_16 => ?_) (fun c_16 => ?_)
          · skip
            have h_17 := s_ne (rfl : r_11.toInt = _) (show (0 : Int32).toInt = 0 from rfl) c_16
            refine lv_aload_n hx hb dX2_takeOptional_82 rfl (lv_at hl 1 rfl) ?_
            refine x_callv (va_runV (As := []) (rest := []) ⟨hx, hb, hml, hown, hts⟩ (k_endChoice l D g ka ad j1 r L d j hO_j1 hR H.size (by first | omega | decide) (by first | omega | decide)) (cwV 0 hts gX2_takeOptional_X2_endChoice rfl rfl rfl (by decide +kernel) ⟨(Nat.le_of_ble_eq_true rfl), (Nat.le_of_ble_eq_true rfl)⟩) (x_preV (q := (RX2, TX2, 11)) hH hK (q_obj (lt_nK (by omega)) (kd_expr (t := 0) hj (by decide)) (by decide)) rfl gxb (gxw hE hS (x_F hH hS hA))) rfl rfl hl.1 rfl (lv_room (Nat.le_of_ble_eq_true rfl)) dX2_takeOptional_83 ⟨(Nat.le_of_ble_eq_true rfl), (Nat.le_of_ble_eq_true rfl)⟩) hH hS hA rfl rfl (fun im_20 H locs hw_19 hH hS => ?_)
            have hH : sj_H D A (hwc g ka im_20 r L d) H := hH
            obtain ⟨hO_22, hfr_21, he_23, hx2_24⟩ := hw_19
            have hm_25 := hx2_24 hi_lp_2_9 (by omega)
            refine lv_aload_n hx hb dX2_takeOptional_86 rfl (lv_at hl 1 rfl) ?_
            refine x_callv (va_runV (As := []) (rest := []) ⟨hx, hb, hml, hown, hts⟩ (k_endChoice l D g ka ad im_20 r L d j hO_22 hR H.size (by first | omega | decide) (by first | omega | decide)) (cwV 0 hts gX2_takeOptional_X2_endChoice rfl rfl rfl (by decide +kernel) ⟨(Nat.le_of_ble_eq_true rfl), (Nat.le_of_ble_eq_true rfl)⟩) (x_preV (q := (RX2, TX2, 11)) hH hK (q_obj (lt_nK (by omega)) (kd_expr (t := 0) hj (by decide)) (by decide)) rfl gxb (gxw hE hS (x_F hH hS hA))) rfl rfl hl.1 rfl (lv_room (Nat.le_of_ble_eq_true rfl)) dX2_takeOptional_87 ⟨(Nat.le_of_ble_eq_true rfl), (Nat.le_of_ble_eq_true rfl)⟩) hH hS hA rfl rfl (fun im_28 H locs hw_27 hH hS => ?_)
            have hH : sj_H D A (hwc g ka im_28 r L d) H := hH
            obtain ⟨hO_30, hfr_29, he_31, hx2_32⟩ := hw_27
            have hm_33 := hx2_32 hm_25 (by omega)
            refine lv_aload_n hx hb dX2_takeOptional_90 rfl (lv_at hl 1 rfl) ?_
            refine lv_bipush (v := 47) hx hb dX2_takeOptional_91 (by decide) ?_
            have hl_34 : (47 : Int32).toInt = 47 := rfl
            refine x_callv (va_runV (As := [.int 47]) (rest := []) ⟨hx, hb, hml, hown, hts⟩ (k_endElement l D g ka ad im_28 r L d j 47 hO_30 hR H.size (by first | omega | decide) (by first | omega | decide) (by first | omega | decide) (by first | omega | decide)) (cwV 1 hts gX2_takeOptional_X2_endElement rfl rfl rfl (by decide +kernel) ⟨(Nat.le_of_ble_eq_true rfl), (Nat.le_of_ble_eq_true rfl)⟩) (x_preV (q := (RX2, TX2, 11)) hH hK (q_obj (lt_nK (by omega)) (kd_expr (t := 0) hj (by decide)) (by decide)) rfl gxb (gxw hE hS (x_F hH hS hA))) rfl rfl hl.1 rfl (lv_room (Nat.le_of_ble_eq_true rfl)) dX2_takeOptional_93 ⟨(Nat.le_of_ble_eq_true rfl), (Nat.le_of_ble_eq_true rfl)⟩) hH hS hA rfl rfl (fun im_37 H locs hw_36 hH hS => ?_)
            have hH : sj_H D A (hwc g ka im_37 r L d) H := hH
            obtain ⟨hO_39, hfr_38, he_40, hx2_41⟩ := hw_36
            have hm_42 := hx2_41 hm_33
            refine lv_iload_n hx hb dX2_takeOptional_96 rfl (lv_at hl 0 rfl) ?_
            refine lv_iconst (v := 1) hx hb dX2_takeOptional_97 (by decide) ?_
            refine lv_iadd hx hb dX2_takeOptional_98 ?_
            obtain ⟨z_43, ez_43, hz_43⟩ := s_add (rfl : f.toInt = _) (show (1 : Int32).toInt = 1 from rfl) (by omega) (by omega)
            refine sj_i ez_43 ?_
            exact sj_zret hx hb hr hlocks rfl hS im_37 ⟨hO_39, (fun a ha => ((hfr_38 a (by omega)).trans ((hfr_29 a (by omega)).trans ((hfr_21 a (by omega)).trans (hfr_j1 a (by omega)))))), ⟨by omega, Or.inr ⟨by omega, by omega, ⟨by omega, by omega, by omega, by omega, by omega, by omega, hm_42⟩⟩⟩⟩ hH (sj_Knil hK) (Nat.le_of_ble_eq_true rfl) (Nat.le_of_ble_eq_true rfl) dX2_takeOptional_99
          · skip
            have h_44 := s_eq (rfl : r_11.toInt = _) (show (0 : Int32).toInt = 0 from rfl) c_16
            refine lv_iconst (v := (-1)) hx hb dX2_takeOptional_80 (by decide) ?_
            have hlv_45 : ((-1) : Int32).toInt = -1 := rfl
            exact sj_zret hx hb hr hlocks rfl hS j1 ⟨hO_j1, (fun a ha => (hfr_j1 a (by omega))), ⟨by omega, Or.inl (by omega)⟩⟩ hH (sj_Knil hK) (Nat.le_of_ble_eq_true rfl) (Nat.le_of_ble_eq_true rfl) dX2_takeOptional_81
      · skip
        have h_46 := s_nle (rfl : (i 1 1).toInt = _) (rfl : f.toInt = _) c_4
        refine lv_aload_n hx hb dX2_takeOptional_12 rfl (lv_at hl 2 rfl) ?_
        refine lv_iload_n hx hb dX2_takeOptional_13 rfl (lv_at hl 0 rfl) ?_
        refine x_calli (va_runV (As := [.int f]) (rest := []) ⟨hx, hb, hml, hown, hts⟩ (k_at_text l D g ka ad j1 r L d f hO_j1 hR H.size ) (cwV 1 hts gX2_takeOptional_X3_at rfl rfl rfl (by decide +kernel) ⟨(Nat.le_of_ble_eq_true rfl), (Nat.le_of_ble_eq_true rfl)⟩) (x_preV (q := (RX3, TX3, 2)) hH hK (q_obj (by decide) (rfl : kd 1 = 3) (by decide)) rfl gxb (gxw hE hS (x_F hH hS hA))) rfl rfl hl.1 rfl (lv_room (Nat.le_of_ble_eq_true rfl)) dX2_takeOptional_14 ⟨(Nat.le_of_ble_eq_true rfl), (Nat.le_of_ble_eq_true rfl)⟩) hH hS hA rfl rfl (fun r_47 _ H locs hw_48 hH hS => ?_)
        obtain ⟨hr_50, he_51⟩ := hw_48
        have hr_50 : (-1 : Int) ≤ r_47.toInt ∧ r_47.toInt ≤ 65535 := hr_50
        refine lv_bipush (v := 41) hx hb dX2_takeOptional_17 (by decide) ?_
        refine lv_icmp_eq (tgt := 61) hx hb dX2_takeOptional_19 (by decide) (fun c_52 => ?_) (fun c_52 => ?_)
        · skip
          have h_53 := s_eq (rfl : r_47.toInt = _) (show (41 : Int32).toInt = 41 from rfl) c_52
          refine lv_iload_n hx hb dX2_takeOptional_61 rfl (lv_at hl 0 rfl) ?_
          refine lv_aload_n hx hb dX2_takeOptional_62 rfl (lv_at hl 2 rfl) ?_
          refine h_geti (ci := 3) (C := RX3) (F := TX3) (N := 2) hx hb hts in3 hown hK hH (by decide) (rfl : kd 1 = 3) (by decide) rfl 1 (by decide) wd0 (fun _ h9 => h9) (by decide) rfl dX2_takeOptional_63 ?_
          refine sj_i (y := (i 1 1)) (congrFun (hfr_j1 1 (by omega)) _) ?_
          refine lv_icmp_ge (tgt := 80) hx hb dX2_takeOptional_66 (by decide) (fun c_54 => ?_) (fun c_54 => ?_)
          · skip
            have h_55 := s_le (rfl : (i 1 1).toInt = _) (rfl : f.toInt = _) c_54
            refine lv_iconst (v := (-1)) hx hb dX2_takeOptional_80 (by decide) ?_
            have hlv_56 : ((-1) : Int32).toInt = -1 := rfl
            exact sj_zret hx hb hr hlocks rfl hS j1 ⟨hO_j1, (fun a ha => (hfr_j1 a (by omega))), ⟨by omega, Or.inl (by omega)⟩⟩ hH (sj_Knil hK) (Nat.le_of_ble_eq_true rfl) (Nat.le_of_ble_eq_true rfl) dX2_takeOptional_81
          · skip
            have h_57 := s_nle (rfl : (i 1 1).toInt = _) (rfl : f.toInt = _) c_54
            refine lv_aload_n hx hb dX2_takeOptional_69 rfl (lv_at hl 1 rfl) ?_
            refine lv_aload_n hx hb dX2_takeOptional_70 rfl (lv_at hl 1 rfl) ?_
            have bx_58 : (0 : Int) ≤ (i (240 + 9 * j) 2).toInt ∧ (i (240 + 9 * j) 2).toInt ≤ 61 := by have h9 := hO (240 + 9 * j) 2; rw [bx_expr0 hj 2] at h9; exact h9
            refine h_geti (ci := 2) (C := RX2) (F := TX2) (N := 11) hx hb hts in2 hown hK hH (lt_nK (by omega)) (kd_expr (t := 0) hj (by decide)) (by decide) rfl 2 (by decide) wd1 (fun _ h9 => h9) (by decide) rfl dX2_takeOptional_71 ?_
            refine sj_i (y := (i (240 + 9 * j) 2)) (congrFun (hfr_j1 (240 + 9 * j) (by omega)) _) ?_
            refine x_calli (va_runV (As := [.int (i (240 + 9 * j) 2)]) (rest := []) ⟨hx, hb, hml, hown, hts⟩ (k_choiceLength l D g ka ad j1 r L d j (i (240 + 9 * j) 2) hO_j1 hR H.size (by first | omega | decide) (by first | omega | decide) (by first | omega | decide)) (cwV 1 hts gX2_takeOptional_X2_choiceLength rfl rfl rfl (by decide +kernel) ⟨(Nat.le_of_ble_eq_true rfl), (Nat.le_of_ble_eq_true rfl)⟩) (x_preV (q := (RX2, TX2, 11)) hH hK (q_obj (lt_nK (by omega)) (kd_expr (t := 0) hj (by decide)) (by decide)) rfl gxb (gxw hE hS (x_F hH hS hA))) rfl rfl hl.1 rfl (lv_room (Nat.le_of_ble_eq_true rfl)) dX2_takeOptional_74 ⟨(Nat.le_of_ble_eq_true rfl), (Nat.le_of_ble_eq_true rfl)⟩) hH hS hA rfl rfl (fun r_59 _ H locs hw_60 hH hS => ?_)
            obtain ⟨hr_62, he_63⟩ := hw_60
            have hr_62 : (-60 : Int) ≤ r_59.toInt ∧ r_59.toInt ≤ 60 := hr_62
            have hr_59C : kC j1 j = (j1 (240 + 9 * j + 2) ((j1 (240 + 9 * j) 2).toInt + 1).toNat).toInt := rfl
            have hr_59B : kB j1 j = (j1 (240 + 9 * j + 2) ((j1 (240 + 9 * j) 2).toInt).toNat).toInt := rfl
            refine lv_if_ne (tgt := 82) hx hb dX2_takeOptional_77 (by decide) (fun c_64 => ?_) (fun c_64 => ?_)
            · skip
              have h_65 := s_ne (rfl : r_59.toInt = _) (show (0 : Int32).toInt = 0 from rfl) c_64
              refine lv_aload_n hx hb dX2_takeOptional_82 rfl (lv_at hl 1 rfl) ?_
              refine x_callv (va_runV (As := []) (rest := []) ⟨hx, hb, hml, hown, hts⟩ (k_endChoice l D g ka ad j1 r L d j hO_j1 hR H.size (by first | omega | decide) (by first | omega | decide)) (cwV 0 hts gX2_takeOptional_X2_endChoice rfl rfl rfl (by decide +kernel) ⟨(Nat.le_of_ble_eq_true rfl), (Nat.le_of_ble_eq_true rfl)⟩) (x_preV (q := (RX2, TX2, 11)) hH hK (q_obj (lt_nK (by omega)) (kd_expr (t := 0) hj (by decide)) (by decide)) rfl gxb (gxw hE hS (x_F hH hS hA))) rfl rfl hl.1 rfl (lv_room (Nat.le_of_ble_eq_true rfl)) dX2_takeOptional_83 ⟨(Nat.le_of_ble_eq_true rfl), (Nat.le_of_ble_eq_true rfl)⟩) hH hS hA rfl rfl (fun im_68 H locs hw_67 hH hS => ?_)
              have hH : sj_H D A (hwc g ka im_68 r L d) H := hH
              obtain ⟨hO_70, hfr_69, he_71, hx2_72⟩ := hw_67
              have hm_73 := hx2_72 hi_lp_2_9 (by omega)
              refine lv_aload_n hx hb dX2_takeOptional_86 rfl (lv_at hl 1 rfl) ?_
              refine x_callv (va_runV (As := []) (rest := []) ⟨hx, hb, hml, hown, hts⟩ (k_endChoice l D g ka ad im_68 r L d j hO_70 hR H.size (by first | omega | decide) (by first | omega | decide)) (cwV 0 hts gX2_takeOptional_X2_endChoice rfl rfl rfl (by decide +kernel) ⟨(Nat.le_of_ble_eq_true rfl), (Nat.le_of_ble_eq_true rfl)⟩) (x_preV (q := (RX2, TX2, 11)) hH hK (q_obj (lt_nK (by omega)) (kd_expr (t := 0) hj (by decide)) (by decide)) rfl gxb (gxw hE hS (x_F hH hS hA))) rfl rfl hl.1 rfl (lv_room (Nat.le_of_ble_eq_true rfl)) dX2_takeOptional_87 ⟨(Nat.le_of_ble_eq_true rfl), (Nat.le_of_ble_eq_true rfl)⟩) hH hS hA rfl rfl (fun im_76 H locs hw_75 hH hS => ?_)
              have hH : sj_H D A (hwc g ka im_76 r L d) H := hH
              obtain ⟨hO_78, hfr_77, he_79, hx2_80⟩ := hw_75
              have hm_81 := hx2_80 hm_73 (by omega)
              refine lv_aload_n hx hb dX2_takeOptional_90 rfl (lv_at hl 1 rfl) ?_
              refine lv_bipush (v := 47) hx hb dX2_takeOptional_91 (by decide) ?_
              have hl_82 : (47 : Int32).toInt = 47 := rfl
              refine x_callv (va_runV (As := [.int 47]) (rest := []) ⟨hx, hb, hml, hown, hts⟩ (k_endElement l D g ka ad im_76 r L d j 47 hO_78 hR H.size (by first | omega | decide) (by first | omega | decide) (by first | omega | decide) (by first | omega | decide)) (cwV 1 hts gX2_takeOptional_X2_endElement rfl rfl rfl (by decide +kernel) ⟨(Nat.le_of_ble_eq_true rfl), (Nat.le_of_ble_eq_true rfl)⟩) (x_preV (q := (RX2, TX2, 11)) hH hK (q_obj (lt_nK (by omega)) (kd_expr (t := 0) hj (by decide)) (by decide)) rfl gxb (gxw hE hS (x_F hH hS hA))) rfl rfl hl.1 rfl (lv_room (Nat.le_of_ble_eq_true rfl)) dX2_takeOptional_93 ⟨(Nat.le_of_ble_eq_true rfl), (Nat.le_of_ble_eq_true rfl)⟩) hH hS hA rfl rfl (fun im_85 H locs hw_84 hH hS => ?_)
              have hH : sj_H D A (hwc g ka im_85 r L d) H := hH
              obtain ⟨hO_87, hfr_86, he_88, hx2_89⟩ := hw_84
              have hm_90 := hx2_89 hm_81
              refine lv_iload_n hx hb dX2_takeOptional_96 rfl (lv_at hl 0 rfl) ?_
              refine lv_iconst (v := 1) hx hb dX2_takeOptional_97 (by decide) ?_
              refine lv_iadd hx hb dX2_takeOptional_98 ?_
              obtain ⟨z_91, ez_91, hz_91⟩ := s_add (rfl : f.toInt = _) (show (1 : Int32).toInt = 1 from rfl) (by omega) (by omega)
              refine sj_i ez_91 ?_
              exact sj_zret hx hb hr hlocks rfl hS im_85 ⟨hO_87, (fun a ha => ((hfr_86 a (by omega)).trans ((hfr_77 a (by omega)).trans ((hfr_69 a (by omega)).trans (hfr_j1 a (by omega)))))), ⟨by omega, Or.inr ⟨by omega, by omega, ⟨by omega, by omega, by omega, by omega, by omega, by omega, hm_90⟩⟩⟩⟩ hH (sj_Knil hK) (Nat.le_of_ble_eq_true rfl) (Nat.le_of_ble_eq_true rfl) dX2_takeOptional_99
            · skip
              have h_92 := s_eq (rfl : r_59.toInt = _) (show (0 : Int32).toInt = 0 from rfl) c_64
              refine lv_iconst (v := (-1)) hx hb dX2_takeOptional_80 (by decide) ?_
              have hlv_93 : ((-1) : Int32).toInt = -1 := rfl
              exact sj_zret hx hb hr hlocks rfl hS j1 ⟨hO_j1, (fun a ha => (hfr_j1 a (by omega))), ⟨by omega, Or.inl (by omega)⟩⟩ hH (sj_Knil hK) (Nat.le_of_ble_eq_true rfl) (Nat.le_of_ble_eq_true rfl) dX2_takeOptional_81
        · skip
          have h_94 := s_ne (rfl : r_47.toInt = _) (show (41 : Int32).toInt = 41 from rfl) c_52
          refine lv_aload_n hx hb dX2_takeOptional_22 rfl (lv_at hl 2 rfl) ?_
          refine lv_iload_n hx hb dX2_takeOptional_23 rfl (lv_at hl 0 rfl) ?_
          refine x_calli (va_runV (As := [.int f]) (rest := []) ⟨hx, hb, hml, hown, hts⟩ (k_at_text l D g ka ad j1 r L d f hO_j1 hR H.size ) (cwV 1 hts gX2_takeOptional_X3_at rfl rfl rfl (by decide +kernel) ⟨(Nat.le_of_ble_eq_true rfl), (Nat.le_of_ble_eq_true rfl)⟩) (x_preV (q := (RX3, TX3, 2)) hH hK (q_obj (by decide) (rfl : kd 1 = 3) (by decide)) rfl gxb (gxw hE hS (x_F hH hS hA))) rfl rfl hl.1 rfl (lv_room (Nat.le_of_ble_eq_true rfl)) dX2_takeOptional_24 ⟨(Nat.le_of_ble_eq_true rfl), (Nat.le_of_ble_eq_true rfl)⟩) hH hS hA rfl rfl (fun r_95 _ H locs hw_96 hH hS => ?_)
          obtain ⟨hr_98, he_99⟩ := hw_96
          have hr_98 : (-1 : Int) ≤ r_95.toInt ∧ r_95.toInt ≤ 65535 := hr_98
          refine lv_bipush (v := 92) hx hb dX2_takeOptional_27 (by decide) ?_
          refine lv_icmp_ne (tgt := 35) hx hb dX2_takeOptional_29 (by decide) (fun c_100 => ?_) (fun c_100 => ?_)
          · skip
            have h_101 := s_ne (rfl : r_95.toInt = _) (show (92 : Int32).toInt = 92 from rfl) c_100
            refine lv_iload_n hx hb dX2_takeOptional_35 rfl (lv_at hl 0 rfl) ?_
            refine lv_aload_n hx hb dX2_takeOptional_36 rfl (lv_at hl 2 rfl) ?_
            refine h_geti (ci := 3) (C := RX3) (F := TX3) (N := 2) hx hb hts in3 hown hK hH (by decide) (rfl : kd 1 = 3) (by decide) rfl 1 (by decide) wd0 (fun _ h9 => h9) (by decide) rfl dX2_takeOptional_37 ?_
            refine sj_i (y := (i 1 1)) (congrFun (hfr_j1 1 (by omega)) _) ?_
            refine lv_icmp_lt (tgt := 45) hx hb dX2_takeOptional_40 (by decide) (fun c_102 => ?_) (fun c_102 => ?_)
            · skip
              have h_103 := s_lt (rfl : f.toInt = _) (rfl : (i 1 1).toInt = _) c_102
              refine lv_aload_n hx hb dX2_takeOptional_45 rfl (lv_at hl 1 rfl) ?_
              refine lv_aload_n hx hb dX2_takeOptional_46 rfl (lv_at hl 2 rfl) ?_
              refine h_getr (ci := 3) (C := RX3) (F := TX3) (N := 2) hx hb hts in3 hown hK hH (by decide) (rfl : kd 1 = 3) (by decide) rfl 0 (by decide) wd2 (fun _ h9 => h9) (by decide) rfl (t := 2) (hR 1 0 rfl) (by decide) dX2_takeOptional_47 ?_
              refine lv_iload_n hx hb dX2_takeOptional_50 rfl (lv_at hl 0 rfl) ?_
              have bx_104 : (0 : Int) ≤ (i 2 (f.toInt).toNat).toInt ∧ (i 2 (f.toInt).toNat).toInt ≤ 65535 := hO 2 (f.toInt).toNat
              refine h_cald hx hb hK hH (by decide) (rfl : kd 2 = 14) (s_vin (N := 480) (rfl : f.toInt = _) (rfl : ln 2 = 480) (by omega) (by omega)) dX2_takeOptional_51 ?_
              have ek_105 : f.toNatClampNeg = (f.toInt).toNat := (s_cl (show f.toInt = f.toInt by omega))
              refine sj_i (y := (i 2 (f.toInt).toNat)) (by rw [ek_105]; exact (congrFun (hfr_j1 2 (by omega)) _)) ?_
              refine x_callv (va_runV (As := [.int (i 2 (f.toInt).toNat)]) (rest := []) ⟨hx, hb, hml, hown, hts⟩ (k_addChar l D g ka ad j1 r L d j (i 2 (f.toInt).toNat) hO_j1 hR H.size (by first | omega | decide) (by first | omega | decide) (by first | omega | decide)) (cwV 1 hts gX2_takeOptional_X2_addChar rfl rfl rfl (by decide +kernel) ⟨(Nat.le_of_ble_eq_true rfl), (Nat.le_of_ble_eq_true rfl)⟩) (x_preV (q := (RX2, TX2, 11)) hH hK (q_obj (lt_nK (by omega)) (kd_expr (t := 0) hj (by decide)) (by decide)) rfl gxb (gxw hE hS (x_F hH hS hA))) rfl rfl hl.1 rfl (lv_room (Nat.le_of_ble_eq_true rfl)) dX2_takeOptional_52 ⟨(Nat.le_of_ble_eq_true rfl), (Nat.le_of_ble_eq_true rfl)⟩) hH hS hA rfl rfl (fun im_108 H locs hw_107 hH hS => ?_)
              have hH : sj_H D A (hwc g ka im_108 r L d) H := hH
              obtain ⟨hO_110, hfr_109, he_111, hx2_112⟩ := hw_107
              have hm_113 := hx2_112 hi_lp_2_9
              obtain ⟨z_114, ez_114, hz_114⟩ := s_add (rfl : f.toInt = _) (show (1 : Int32).toInt = 1 from rfl) (by omega) (by omega)
              refine lv_iinc (v := z_114) (lv' := [(3, .int z_114), (0, .ref (g (240 + 9 * j))), (1, .ref (g 1)), (2, .int x)]) hx hb dX2_takeOptional_55 hl (k := 0) rfl ez_114 (by decide) rfl (fun ls hl => ?_)
              refine lv_goto (tgt := 4) hx hb dX2_takeOptional_58 (by decide) ?_
              exact ih_lp_2 z_114 _ _ _ ls (by omega) (by omega) (by omega) (by omega) (by omega) (by omega) (by omega) (by omega) (by omega) (by omega) (by omega) hm_113 hO_110 (fun a ha => ((hfr_109 a (by omega)).trans (hfr_j1 a (by omega)))) (lv_sub hl [0, 1, 2, 3] rfl) hH hS
            · skip
              have h_115 := s_nlt (rfl : f.toInt = _) (rfl : (i 1 1).toInt = _) c_102
              refine lv_iconst (v := (-1)) hx hb dX2_takeOptional_43 (by decide) ?_
              have hlv_116 : ((-1) : Int32).toInt = -1 := rfl
              exact sj_zret hx hb hr hlocks rfl hS j1 ⟨hO_j1, (fun a ha => (hfr_j1 a (by omega))), ⟨by omega, Or.inl (by omega)⟩⟩ hH (sj_Knil hK) (Nat.le_of_ble_eq_true rfl) (Nat.le_of_ble_eq_true rfl) dX2_takeOptional_44
          · skip
            have h_117 := s_eq (rfl : r_95.toInt = _) (show (92 : Int32).toInt = 92 from rfl) c_100
            obtain ⟨z_118, ez_118, hz_118⟩ := s_add (rfl : f.toInt = _) (show (1 : Int32).toInt = 1 from rfl) (by omega) (by omega)
            refine lv_iinc (v := z_118) (lv' := [(3, .int z_118), (0, .ref (g (240 + 9 * j))), (1, .ref (g 1)), (2, .int x)]) hx hb dX2_takeOptional_32 hl (k := 0) rfl ez_118 (by decide) rfl (fun ls hl => ?_)
            refine lv_iload_n hx hb dX2_takeOptional_35 rfl (lv_at hl 0 rfl) ?_
            refine lv_aload_n hx hb dX2_takeOptional_36 rfl (lv_at hl 2 rfl) ?_
            refine h_geti (ci := 3) (C := RX3) (F := TX3) (N := 2) hx hb hts in3 hown hK hH (by decide) (rfl : kd 1 = 3) (by decide) rfl 1 (by decide) wd0 (fun _ h9 => h9) (by decide) rfl dX2_takeOptional_37 ?_
            refine sj_i (y := (i 1 1)) (congrFun (hfr_j1 1 (by omega)) _) ?_
            refine lv_icmp_lt (tgt := 45) hx hb dX2_takeOptional_40 (by decide) (fun c_119 => ?_) (fun c_119 => ?_)
            · skip
              have h_120 := s_lt (rfl : z_118.toInt = _) (rfl : (i 1 1).toInt = _) c_119
              refine lv_aload_n hx hb dX2_takeOptional_45 rfl (lv_at hl 1 rfl) ?_
              refine lv_aload_n hx hb dX2_takeOptional_46 rfl (lv_at hl 2 rfl) ?_
              refine h_getr (ci := 3) (C := RX3) (F := TX3) (N := 2) hx hb hts in3 hown hK hH (by decide) (rfl : kd 1 = 3) (by decide) rfl 0 (by decide) wd2 (fun _ h9 => h9) (by decide) rfl (t := 2) (hR 1 0 rfl) (by decide) dX2_takeOptional_47 ?_
              refine lv_iload_n hx hb dX2_takeOptional_50 rfl (lv_at hl 0 rfl) ?_
              have bx_121 : (0 : Int) ≤ (i 2 (f.toInt + 1).toNat).toInt ∧ (i 2 (f.toInt + 1).toNat).toInt ≤ 65535 := hO 2 (f.toInt + 1).toNat
              refine h_cald hx hb hK hH (by decide) (rfl : kd 2 = 14) (s_vin (N := 480) (rfl : z_118.toInt = _) (rfl : ln 2 = 480) (by omega) (by omega)) dX2_takeOptional_51 ?_
              have ek_122 : z_118.toNatClampNeg = (f.toInt + 1).toNat := (s_cl (show z_118.toInt = f.toInt + 1 by omega))
              refine sj_i (y := (i 2 (f.toInt + 1).toNat)) (by rw [ek_122]; exact (congrFun (hfr_j1 2 (by omega)) _)) ?_
              refine x_callv (va_runV (As := [.int (i 2 (f.toInt + 1).toNat)]) (rest := []) ⟨hx, hb, hml, hown, hts⟩ (k_addChar l D g ka ad j1 r L d j (i 2 (f.toInt + 1).toNat) hO_j1 hR H.size (by first | omega | decide) (by first | omega | decide) (by first | omega | decide)) (cwV 1 hts gX2_takeOptional_X2_addChar rfl rfl rfl (by decide +kernel) ⟨(Nat.le_of_ble_eq_true rfl), (Nat.le_of_ble_eq_true rfl)⟩) (x_preV (q := (RX2, TX2, 11)) hH hK (q_obj (lt_nK (by omega)) (kd_expr (t := 0) hj (by decide)) (by decide)) rfl gxb (gxw hE hS (x_F hH hS hA))) rfl rfl hl.1 rfl (lv_room (Nat.le_of_ble_eq_true rfl)) dX2_takeOptional_52 ⟨(Nat.le_of_ble_eq_true rfl), (Nat.le_of_ble_eq_true rfl)⟩) hH hS hA rfl rfl (fun im_125 H locs hw_124 hH hS => ?_)
              have hH : sj_H D A (hwc g ka im_125 r L d) H := hH
              obtain ⟨hO_127, hfr_126, he_128, hx2_129⟩ := hw_124
              have hm_130 := hx2_129 hi_lp_2_9
              obtain ⟨z_131, ez_131, hz_131⟩ := s_add (rfl : z_118.toInt = _) (show (1 : Int32).toInt = 1 from rfl) (by omega) (by omega)
              refine lv_iinc (v := z_131) (lv' := [(3, .int z_131), (0, .ref (g (240 + 9 * j))), (1, .ref (g 1)), (2, .int x)]) hx hb dX2_takeOptional_55 hl (k := 0) rfl ez_131 (by decide) rfl (fun ls hl => ?_)
              refine lv_goto (tgt := 4) hx hb dX2_takeOptional_58 (by decide) ?_
              exact ih_lp_2 z_131 _ _ _ ls (by omega) (by omega) (by omega) (by omega) (by omega) (by omega) (by omega) (by omega) (by omega) (by omega) (by omega) hm_130 hO_127 (fun a ha => ((hfr_126 a (by omega)).trans (hfr_j1 a (by omega)))) (lv_sub hl [0, 1, 2, 3] rfl) hH hS
            · skip
              have h_132 := s_nlt (rfl : z_118.toInt = _) (rfl : (i 1 1).toInt = _) c_119
              refine lv_iconst (v := (-1)) hx hb dX2_takeOptional_43 (by decide) ?_
              have hlv_133 : ((-1) : Int32).toInt = -1 := rfl
              exact sj_zret hx hb hr hlocks rfl hS j1 ⟨hO_j1, (fun a ha => (hfr_j1 a (by omega))), ⟨by omega, Or.inl (by omega)⟩⟩ hH (sj_Knil hK) (Nat.le_of_ble_eq_true rfl) (Nat.le_of_ble_eq_true rfl) dX2_takeOptional_44
  exact lp_2 _ z_1 _ _ _ ls (Nat.lt_succ_self _) (by omega) (by omega) (by omega) (by omega) (by omega) (by omega) (by omega) (by omega) (by omega) (by omega) hT7 hO (fun a ha => rfl) (lv_sub hl [0, 1, 2, 3] rfl) hH hS
set_option maxHeartbeats 2000000 in
set_option maxRecDepth 100000 in
theorem k_takeWord (l : Launch) (D : va_G) (g : Nat → Nat) (ka : Nat → ClassId) (ad : Nat → Nat) (i : Nat → Nat → Int32) (r : Nat → Nat → Nat) (L : Nat → Nat → Int64) (d : Nat → Nat → UInt64) (j : Nat) (x : Int32) (hO : OkI i) (hR : RS r) (sz : Nat) (hj : j < 13) (hl0 : (i 1 1).toInt ≤ 60) (hx0 : 0 ≤ x.toInt) (hx1 : x.toInt < (i 1 1).toInt) (hTx : exT i j x.toInt) : Met l yX2_takeWord wsX2_takeWord ({ frames := 1, cells := 0, slots := 0, locals := 21 }) (va_Pc [.ref (g (240 + 9 * j)), .ref (g 1), .int x] (sj_B D (hwc g ka i r L d) (hT ka) sz (gx ad (va_A (hwc g ka i r L d) sz)))) (sj_Qi (S := (Nat → Nat → Int32)) D (fun v u => OkI u ∧ (∀ a, ¬ (a = 240 + 9 * j ∨ a = 240 + 9 * j + 1 ∨ a = 240 + 9 * j + 2 ∨ a = 240 + 9 * j + 3 ∨ a = 240 + 9 * j + 4) → u a = i a) ∧ ((u (240 + 9 * j + 2) 0).toInt = 0 ∧ (v.toInt = -1 ∨ (x.toInt < v.toInt ∧ v.toInt ≤ (i 1 1).toInt ∧ exT u j v.toInt)))) (fun u => hwc g ka u r L d) (fun _ => []) (va_A (hwc g ka i r L d) sz)) 0 0 (va_A (hwc g ka i r L d) sz) := by
  refine x_met (Ex := gx ad) (cc := cX2_takeWord) (maxL := 4) (ret := (some .int)) (by decide) rfl (Nat.le_of_ble_eq_true rfl) ?_
  intro p e s m below meth c A ls hx hb hr hml hts hown hlocks hA hS hH hK hE hl
  have hown : s.vm.findClass RX2 = some m.cls := hown
  have in2 : ∀ w ∈ wsX20, w ∈ wsX2_takeWord := (fun _ h => (List.mem_cons_of_mem _ (List.mem_append_right _ h)))
  have in3 : ∀ w ∈ wsX30, w ∈ wsX2_takeWord := (fun _ h => (List.mem_cons_of_mem _ (List.mem_append_left _ (List.mem_append_right _ h))))
  have wd0 := hts (.fieldLink RX2 48 "StoryDesk$Letters" "length" "I") (List.mem_cons_of_mem _ (List.mem_append_left _ (List.mem_append_left _ (List.mem_append_left _ lm0))))
  have wd1 := hts (.fieldLink RX2 42 "StoryDesk$Expression" "choices" "I") (List.mem_cons_of_mem _ (List.mem_append_left _ (List.mem_append_left _ (List.mem_append_left _ lm2))))
  have wd2 := hts (.fieldLink RX2 57 "StoryDesk$Letters" "chars" "[C") (List.mem_cons_of_mem _ (List.mem_append_left _ (List.mem_append_left _ (List.mem_append_left _ lm1))))
  have hl : lv_has ls 4 [(0, .ref (g (240 + 9 * j))), (1, .ref (g 1)), (2, .int x)] := hl
  have hK : va_K D vwCl (hT ka) s := hK
  obtain ⟨hT1, hT2, hT3, hT4, hT5, hT6, hT7⟩ := hTx
  refine lv_iload_n hx hb dX2_takeWord_0 rfl (lv_at hl 2 rfl) ?_
  refine lv_istore_n (lv' := [(3, .int x), (0, .ref (g (240 + 9 * j))), (1, .ref (g 1)), (2, .int x)]) hx hb dX2_takeWord_1 rfl hl (by decide) rfl (fun ls hl => ?_)
  -- loop at 2
  have lp_1 : ∀ (fuel_lp_1 : Nat) (f : Int32) (j1 : Nat → Nat → Int32) (H : Heap) (locs : List Loc) (ls : Array Slot), (60 - f.toInt).toNat < fuel_lp_1 → (0 : Int) ≤ f.toInt ∧ f.toInt ≤ 60 → x.toInt ≤ f.toInt → f.toInt ≤ (i 1 1).toInt → x.toInt < f.toInt ∨ kB j1 j = kC j1 j → kC j1 j ≤ f.toInt → (kB j1 j = kC j1 j ∧ (j1 (240 + 9 * j) 2).toInt ≤ f.toInt) ∨ (kB j1 j ≠ kC j1 j ∧ (j1 (240 + 9 * j) 2).toInt + 1 ≤ f.toInt) → (j1 (240 + 9 * j) 5).toInt = (i (240 + 9 * j) 5).toInt → (j1 (240 + 9 * j) 6).toInt = (i (240 + 9 * j) 6).toInt → cn j1 j = cn i j → (j1 (240 + 9 * j + 2) 0).toInt = 0 → kB j1 j ≤ kC j1 j → mono j1 j → OkI j1 → (∀ a, ¬ (a = 240 + 9 * j ∨ a = 240 + 9 * j + 1 ∨ a = 240 + 9 * j + 2) → j1 a = i a) → lv_has ls 4 [(3, .int f), (0, .ref (g (240 + 9 * j))), (1, .ref (g 1)), (2, .int x)] → sj_H D A (hwc g ka j1 r L d) H → va_S A s.heap H locs → W p l e (headSpec wsX2_takeWord ({ frames := 1, cells := 0, slots := 0, locals := 21 })).room s m ([.ref (g (240 + 9 * j)), .ref (g 1), .int x] : List Value).toArray below meth c H locs 0 0 (MQ below (sj_Qi (S := (Nat → Nat → Int32)) D (fun v u => OkI u ∧ (∀ a, ¬ (a = 240 + 9 * j ∨ a = 240 + 9 * j + 1 ∨ a = 240 + 9 * j + 2 ∨ a = 240 + 9 * j + 3 ∨ a = 240 + 9 * j + 4) → u a = i a) ∧ ((u (240 + 9 * j + 2) 0).toInt = 0 ∧ (v.toInt = -1 ∨ (x.toInt < v.toInt ∧ v.toInt ≤ (i 1 1).toInt ∧ exT u j v.toInt)))) (fun u => hwc g ka u r L d) (fun _ => []) A) ([.ref (g (240 + 9 * j)), .ref (g 1), .int x] : List Value).toArray s 0 0 A) (F0 m 2 ls []) := by
    intro fuel_lp_1
    induction fuel_lp_1 with
    | zero => intros; omega
    | succ fuel_lp_1 ih_lp_1 =>
      intro f j1 H locs ls hm hr_f hi_lp_1_0 hi_lp_1_1 hi_lp_1_2 hi_lp_1_3 hi_lp_1_4 hi_lp_1_5 hi_lp_1_6 hi_lp_1_7 hi_lp_1_8 hi_lp_1_9 hi_lp_1_10 hO_j1 hfr_j1 hl hH hS
      refine lv_iload_n hx hb dX2_takeWord_2 rfl (lv_at hl 0 rfl) ?_
      refine lv_aload_n hx hb dX2_takeWord_3 rfl (lv_at hl 2 rfl) ?_
      have bx_2 : (0 : Int) ≤ (i 1 1).toInt ∧ (i 1 1).toInt ≤ 480 := hO 1 1
      refine h_geti (ci := 3) (C := RX3) (F := TX3) (N := 2) hx hb hts in3 hown hK hH (by decide) (rfl : kd 1 = 3) (by decide) rfl 1 (by decide) wd0 (fun _ h9 => h9) (by decide) rfl dX2_takeWord_4 ?_
      refine sj_i (y := (i 1 1)) (congrFun (hfr_j1 1 (by omega)) _) ?_
      refine lv_icmp_ge (tgt := 92) hx hb dX2_takeWord_7 (by decide) (fun c_3 => ?_) (fun c_3 => ?_)
      · skip
        have h_4 := s_le (rfl : (i 1 1).toInt = _) (rfl : f.toInt = _) c_3
        refine lv_aload_n hx hb dX2_takeWord_92 rfl (lv_at hl 1 rfl) ?_
        refine lv_aload_n hx hb dX2_takeWord_93 rfl (lv_at hl 1 rfl) ?_
        have bx_5 : (0 : Int) ≤ (j1 (240 + 9 * j) 2).toInt ∧ (j1 (240 + 9 * j) 2).toInt ≤ 61 := by have h9 := hO_j1 (240 + 9 * j) 2; rw [bx_expr0 hj 2] at h9; exact h9
        refine h_geti (ci := 2) (C := RX2) (F := TX2) (N := 11) hx hb hts in2 hown hK hH (lt_nK (by omega)) (kd_expr (t := 0) hj (by decide)) (by decide) rfl 2 (by decide) wd1 (fun _ h9 => h9) (by decide) rfl dX2_takeWord_94 ?_
        refine x_calli (va_runV (As := [.int (j1 (240 + 9 * j) 2)]) (rest := []) ⟨hx, hb, hml, hown, hts⟩ (k_choiceLength l D g ka ad j1 r L d j (j1 (240 + 9 * j) 2) hO_j1 hR H.size (by first | omega | decide) (by first | omega | decide) (by first | omega | decide)) (cwV 1 hts gX2_takeWord_X2_choiceLength rfl rfl rfl (by decide +kernel) ⟨(Nat.le_of_ble_eq_true rfl), (Nat.le_of_ble_eq_true rfl)⟩) (x_preV (q := (RX2, TX2, 11)) hH hK (q_obj (lt_nK (by omega)) (kd_expr (t := 0) hj (by decide)) (by decide)) rfl gxb (gxw hE hS (x_F hH hS hA))) rfl rfl hl.1 rfl (lv_room (Nat.le_of_ble_eq_true rfl)) dX2_takeWord_97 ⟨(Nat.le_of_ble_eq_true rfl), (Nat.le_of_ble_eq_true rfl)⟩) hH hS hA rfl rfl (fun r_6 _ H locs hw_7 hH hS => ?_)
        obtain ⟨hr_9, he_10⟩ := hw_7
        have hr_9 : (-60 : Int) ≤ r_6.toInt ∧ r_6.toInt ≤ 60 := hr_9
        have hr_6C : kC j1 j = (j1 (240 + 9 * j + 2) ((j1 (240 + 9 * j) 2).toInt + 1).toNat).toInt := rfl
        have hr_6B : kB j1 j = (j1 (240 + 9 * j + 2) ((j1 (240 + 9 * j) 2).toInt).toNat).toInt := rfl
        refine lv_if_ne (tgt := 105) hx hb dX2_takeWord_100 (by decide) (fun c_11 => ?_) (fun c_11 => ?_)
        · skip
          have h_12 := s_ne (rfl : r_6.toInt = _) (show (0 : Int32).toInt = 0 from rfl) c_11
          refine lv_aload_n hx hb dX2_takeWord_105 rfl (lv_at hl 1 rfl) ?_
          refine x_callv (va_runV (As := []) (rest := []) ⟨hx, hb, hml, hown, hts⟩ (k_endChoice l D g ka ad j1 r L d j hO_j1 hR H.size (by first | omega | decide) (by first | omega | decide)) (cwV 0 hts gX2_takeWord_X2_endChoice rfl rfl rfl (by decide +kernel) ⟨(Nat.le_of_ble_eq_true rfl), (Nat.le_of_ble_eq_true rfl)⟩) (x_preV (q := (RX2, TX2, 11)) hH hK (q_obj (lt_nK (by omega)) (kd_expr (t := 0) hj (by decide)) (by decide)) rfl gxb (gxw hE hS (x_F hH hS hA))) rfl rfl hl.1 rfl (lv_room (Nat.le_of_ble_eq_true rfl)) dX2_takeWord_106 ⟨(Nat.le_of_ble_eq_true rfl), (Nat.le_of_ble_eq_true rfl)⟩) hH hS hA rfl rfl (fun im_15 H locs hw_14 hH hS => ?_)
          have hH : sj_H D A (hwc g ka im_15 r L d) H := hH
          obtain ⟨hO_17, hfr_16, he_18, hx2_19⟩ := hw_14
          have hm_20 := hx2_19 hi_lp_1_10 (by omega)
          refine lv_aload_n hx hb dX2_takeWord_109 rfl (lv_at hl 1 rfl) ?_
          refine lv_bipush (v := 47) hx hb dX2_takeWord_110 (by decide) ?_
          have hl_21 : (47 : Int32).toInt = 47 := rfl
          refine x_callv (va_runV (As := [.int 47]) (rest := []) ⟨hx, hb, hml, hown, hts⟩ (k_endElement l D g ka ad im_15 r L d j 47 hO_17 hR H.size (by first | omega | decide) (by first | omega | decide) (by first | omega | decide) (by first | omega | decide)) (cwV 1 hts gX2_takeWord_X2_endElement rfl rfl rfl (by decide +kernel) ⟨(Nat.le_of_ble_eq_true rfl), (Nat.le_of_ble_eq_true rfl)⟩) (x_preV (q := (RX2, TX2, 11)) hH hK (q_obj (lt_nK (by omega)) (kd_expr (t := 0) hj (by decide)) (by decide)) rfl gxb (gxw hE hS (x_F hH hS hA))) rfl rfl hl.1 rfl (lv_room (Nat.le_of_ble_eq_true rfl)) dX2_takeWord_112 ⟨(Nat.le_of_ble_eq_true rfl), (Nat.le_of_ble_eq_true rfl)⟩) hH hS hA rfl rfl (fun im_24 H locs hw_23 hH hS => ?_)
          have hH : sj_H D A (hwc g ka im_24 r L d) H := hH
          obtain ⟨hO_26, hfr_25, he_27, hx2_28⟩ := hw_23
          have hm_29 := hx2_28 hm_20
          refine lv_iload_n hx hb dX2_takeWord_115 rfl (lv_at hl 0 rfl) ?_
          exact sj_zret hx hb hr hlocks rfl hS im_24 ⟨hO_26, (fun a ha => ((hfr_25 a (by omega)).trans ((hfr_16 a (by omega)).trans (hfr_j1 a (by omega))))), ⟨by omega, Or.inr ⟨by omega, by omega, ⟨by omega, by omega, by omega, by omega, by omega, by omega, hm_29⟩⟩⟩⟩ hH (sj_Knil hK) (Nat.le_of_ble_eq_true rfl) (Nat.le_of_ble_eq_true rfl) dX2_takeWord_116
        · skip
          have h_30 := s_eq (rfl : r_6.toInt = _) (show (0 : Int32).toInt = 0 from rfl) c_11
          refine lv_iconst (v := (-1)) hx hb dX2_takeWord_103 (by decide) ?_
          have hlv_31 : ((-1) : Int32).toInt = -1 := rfl
          exact sj_zret hx hb hr hlocks rfl hS j1 ⟨hO_j1, (fun a ha => (hfr_j1 a (by omega))), ⟨by omega, Or.inl (by omega)⟩⟩ hH (sj_Knil hK) (Nat.le_of_ble_eq_true rfl) (Nat.le_of_ble_eq_true rfl) dX2_takeWord_104
      · skip
        have h_32 := s_nle (rfl : (i 1 1).toInt = _) (rfl : f.toInt = _) c_3
        refine lv_aload_n hx hb dX2_takeWord_10 rfl (lv_at hl 1 rfl) ?_
        refine lv_aload_n hx hb dX2_takeWord_11 rfl (lv_at hl 2 rfl) ?_
        refine h_getr (ci := 3) (C := RX3) (F := TX3) (N := 2) hx hb hts in3 hown hK hH (by decide) (rfl : kd 1 = 3) (by decide) rfl 0 (by decide) wd2 (fun _ h9 => h9) (by decide) rfl (t := 2) (hR 1 0 rfl) (by decide) dX2_takeWord_12 ?_
        refine lv_iload_n hx hb dX2_takeWord_15 rfl (lv_at hl 0 rfl) ?_
        have bx_33 : (0 : Int) ≤ (i 2 (f.toInt).toNat).toInt ∧ (i 2 (f.toInt).toNat).toInt ≤ 65535 := hO 2 (f.toInt).toNat
        refine h_cald hx hb hK hH (by decide) (rfl : kd 2 = 14) (s_vin (N := 480) (rfl : f.toInt = _) (rfl : ln 2 = 480) (by omega) (by omega)) dX2_takeWord_16 ?_
        have ek_34 : f.toNatClampNeg = (f.toInt).toNat := (s_cl (show f.toInt = f.toInt by omega))
        refine sj_i (y := (i 2 (f.toInt).toNat)) (by rw [ek_34]; exact (congrFun (hfr_j1 2 (by omega)) _)) ?_
        refine x_calli (va_runV (As := [.int (i 2 (f.toInt).toNat)]) (rest := []) ⟨hx, hb, hml, hown, hts⟩ (k_endsWord l D g ka ad j1 r L d j (i 2 (f.toInt).toNat) hO_j1 hR H.size (by first | omega | decide)) (cwV 1 hts gX2_takeWord_X2_endsWord rfl rfl rfl (by decide +kernel) ⟨(Nat.le_of_ble_eq_true rfl), (Nat.le_of_ble_eq_true rfl)⟩) (x_preV (q := (RX2, TX2, 11)) hH hK (q_obj (lt_nK (by omega)) (kd_expr (t := 0) hj (by decide)) (by decide)) rfl gxb (gxw hE hS (x_F hH hS hA))) rfl rfl hl.1 rfl (lv_room (Nat.le_of_ble_eq_true rfl)) dX2_takeWord_17 ⟨(Nat.le_of_ble_eq_true rfl), (Nat.le_of_ble_eq_true rfl)⟩) hH hS hA rfl rfl (fun r_35 _ H locs hw_36 hH hS => ?_)
        have hr_38 := hw_36
        have hr_38 : (0 : Int) ≤ r_35.toInt ∧ r_35.toInt ≤ 1 := hr_38
        refine lv_if_ne (tgt := 92) hx hb dX2_takeWord_20 (by decide) (fun c_39 => ?_) (fun c_39 => ?_)
        · skip
          have h_40 := s_ne (rfl : r_35.toInt = _) (show (0 : Int32).toInt = 0 from rfl) c_39
          refine lv_aload_n hx hb dX2_takeWord_92 rfl (lv_at hl 1 rfl) ?_
          refine lv_aload_n hx hb dX2_takeWord_93 rfl (lv_at hl 1 rfl) ?_
          have bx_41 : (0 : Int) ≤ (j1 (240 + 9 * j) 2).toInt ∧ (j1 (240 + 9 * j) 2).toInt ≤ 61 := by have h9 := hO_j1 (240 + 9 * j) 2; rw [bx_expr0 hj 2] at h9; exact h9
          refine h_geti (ci := 2) (C := RX2) (F := TX2) (N := 11) hx hb hts in2 hown hK hH (lt_nK (by omega)) (kd_expr (t := 0) hj (by decide)) (by decide) rfl 2 (by decide) wd1 (fun _ h9 => h9) (by decide) rfl dX2_takeWord_94 ?_
          refine x_calli (va_runV (As := [.int (j1 (240 + 9 * j) 2)]) (rest := []) ⟨hx, hb, hml, hown, hts⟩ (k_choiceLength l D g ka ad j1 r L d j (j1 (240 + 9 * j) 2) hO_j1 hR H.size (by first | omega | decide) (by first | omega | decide) (by first | omega | decide)) (cwV 1 hts gX2_takeWord_X2_choiceLength rfl rfl rfl (by decide +kernel) ⟨(Nat.le_of_ble_eq_true rfl), (Nat.le_of_ble_eq_true rfl)⟩) (x_preV (q := (RX2, TX2, 11)) hH hK (q_obj (lt_nK (by omega)) (kd_expr (t := 0) hj (by decide)) (by decide)) rfl gxb (gxw hE hS (x_F hH hS hA))) rfl rfl hl.1 rfl (lv_room (Nat.le_of_ble_eq_true rfl)) dX2_takeWord_97 ⟨(Nat.le_of_ble_eq_true rfl), (Nat.le_of_ble_eq_true rfl)⟩) hH hS hA rfl rfl (fun r_42 _ H locs hw_43 hH hS => ?_)
          obtain ⟨hr_45, he_46⟩ := hw_43
          have hr_45 : (-60 : Int) ≤ r_42.toInt ∧ r_42.toInt ≤ 60 := hr_45
          have hr_42C : kC j1 j = (j1 (240 + 9 * j + 2) ((j1 (240 + 9 * j) 2).toInt + 1).toNat).toInt := rfl
          have hr_42B : kB j1 j = (j1 (240 + 9 * j + 2) ((j1 (240 + 9 * j) 2).toInt).toNat).toInt := rfl
          refine lv_if_ne (tgt := 105) hx hb dX2_takeWord_100 (by decide) (fun c_47 => ?_) (fun c_47 => ?_)
          · skip
            have h_48 := s_ne (rfl : r_42.toInt = _) (show (0 : Int32).toInt = 0 from rfl) c_47
            refine lv_aload_n hx hb dX2_takeWord_105 rfl (lv_at hl 1 rfl) ?_
            refine x_callv (va_runV (As := []) (rest := []) ⟨hx, hb, hml, hown, hts⟩ (k_endChoice l D g ka ad j1 r L d j hO_j1 hR H.size (by first | omega | decide) (by first | omega | decide)) (cwV 0 hts gX2_takeWord_X2_endChoice rfl rfl rfl (by decide +kernel) ⟨(Nat.le_of_ble_eq_true rfl), (Nat.le_of_ble_eq_true rfl)⟩) (x_preV (q := (RX2, TX2, 11)) hH hK (q_obj (lt_nK (by omega)) (kd_expr (t := 0) hj (by decide)) (by decide)) rfl gxb (gxw hE hS (x_F hH hS hA))) rfl rfl hl.1 rfl (lv_room (Nat.le_of_ble_eq_true rfl)) dX2_takeWord_106 ⟨(Nat.le_of_ble_eq_true rfl), (Nat.le_of_ble_eq_true rfl)⟩) hH hS hA rfl rfl (fun im_51 H locs hw_50 hH hS => ?_)
            have hH : sj_H D A (hwc g ka im_51 r L d) H := hH
            obtain ⟨hO_53, hfr_52, he_54, hx2_55⟩ := hw_50
            have hm_56 := hx2_55 hi_lp_1_10 (by omega)
            refine lv_aload_n hx hb dX2_takeWord_109 rfl (lv_at hl 1 rfl) ?_
            refine lv_bipush (v := 47) hx hb dX2_takeWord_110 (by decide) ?_
            have hl_57 : (47 : Int32).toInt = 47 := rfl
            refine x_callv (va_runV (As := [.int 47]) (rest := []) ⟨hx, hb, hml, hown, hts⟩ (k_endElement l D g ka ad im_51 r L d j 47 hO_53 hR H.size (by first | omega | decide) (by first | omega | decide) (by first | omega | decide) (by first | omega | decide)) (cwV 1 hts gX2_takeWord_X2_endElement rfl rfl rfl (by decide +kernel) ⟨(Nat.le_of_ble_eq_true rfl), (Nat.le_of_ble_eq_true rfl)⟩) (x_preV (q := (RX2, TX2, 11)) hH hK (q_obj (lt_nK (by omega)) (kd_expr (t := 0) hj (by decide)) (by decide)) rfl gxb (gxw hE hS (x_F hH hS hA))) rfl rfl hl.1 rfl (lv_room (Nat.le_of_ble_eq_true rfl)) dX2_takeWord_112 ⟨(Nat.le_of_ble_eq_true rfl), (Nat.le_of_ble_eq_true rfl)⟩) hH hS hA rfl rfl (fun im_60 H locs hw_59 hH hS => ?_)
            have hH : sj_H D A (hwc g ka im_60 r L d) H := hH
            obtain ⟨hO_62, hfr_61, he_63, hx2_64⟩ := hw_59
            have hm_65 := hx2_64 hm_56
            refine lv_iload_n hx hb dX2_takeWord_115 rfl (lv_at hl 0 rfl) ?_
            exact sj_zret hx hb hr hlocks rfl hS im_60 ⟨hO_62, (fun a ha => ((hfr_61 a (by omega)).trans ((hfr_52 a (by omega)).trans (hfr_j1 a (by omega))))), ⟨by omega, Or.inr ⟨by omega, by omega, ⟨by omega, by omega, by omega, by omega, by omega, by omega, hm_65⟩⟩⟩⟩ hH (sj_Knil hK) (Nat.le_of_ble_eq_true rfl) (Nat.le_of_ble_eq_true rfl) dX2_takeWord_116
          · skip
            have h_66 := s_eq (rfl : r_42.toInt = _) (show (0 : Int32).toInt = 0 from rfl) c_47
            refine lv_iconst (v := (-1)) hx hb dX2_takeWord_103 (by decide) ?_
            have hlv_67 : ((-1) : Int32).toInt = -1 := rfl
            exact sj_zret hx hb hr hlocks rfl hS j1 ⟨hO_j1, (fun a ha => (hfr_j1 a (by omega))), ⟨by omega, Or.inl (by omega)⟩⟩ hH (sj_Knil hK) (Nat.le_of_ble_eq_true rfl) (Nat.le_of_ble_eq_true rfl) dX2_takeWord_104
        · skip
          have h_68 := s_eq (rfl : r_35.toInt = _) (show (0 : Int32).toInt = 0 from rfl) c_39
          refine lv_aload_n hx hb dX2_takeWord_23 rfl (lv_at hl 2 rfl) ?_
          refine lv_iload_n hx hb dX2_takeWord_24 rfl (lv_at hl 0 rfl) ?_
          refine x_calli (va_runV (As := [.int f]) (rest := []) ⟨hx, hb, hml, hown, hts⟩ (k_at_text l D g ka ad j1 r L d f hO_j1 hR H.size ) (cwV 1 hts gX2_takeWord_X3_at rfl rfl rfl (by decide +kernel) ⟨(Nat.le_of_ble_eq_true rfl), (Nat.le_of_ble_eq_true rfl)⟩) (x_preV (q := (RX3, TX3, 2)) hH hK (q_obj (by decide) (rfl : kd 1 = 3) (by decide)) rfl gxb (gxw hE hS (x_F hH hS hA))) rfl rfl hl.1 rfl (lv_room (Nat.le_of_ble_eq_true rfl)) dX2_takeWord_25 ⟨(Nat.le_of_ble_eq_true rfl), (Nat.le_of_ble_eq_true rfl)⟩) hH hS hA rfl rfl (fun r_69 _ H locs hw_70 hH hS => ?_)
          obtain ⟨hr_72, he_73⟩ := hw_70
          have hr_72 : (-1 : Int) ≤ r_69.toInt ∧ r_69.toInt ≤ 65535 := hr_72
          refine lv_bipush (v := 47) hx hb dX2_takeWord_28 (by decide) ?_
          refine lv_icmp_ne (tgt := 53) hx hb dX2_takeWord_30 (by decide) (fun c_74 => ?_) (fun c_74 => ?_)
          · skip
            have h_75 := s_ne (rfl : r_69.toInt = _) (show (47 : Int32).toInt = 47 from rfl) c_74
            refine lv_aload_n hx hb dX2_takeWord_53 rfl (lv_at hl 2 rfl) ?_
            refine lv_iload_n hx hb dX2_takeWord_54 rfl (lv_at hl 0 rfl) ?_
            refine x_calli (va_runV (As := [.int f]) (rest := []) ⟨hx, hb, hml, hown, hts⟩ (k_at_text l D g ka ad j1 r L d f hO_j1 hR H.size ) (cwV 1 hts gX2_takeWord_X3_at rfl rfl rfl (by decide +kernel) ⟨(Nat.le_of_ble_eq_true rfl), (Nat.le_of_ble_eq_true rfl)⟩) (x_preV (q := (RX3, TX3, 2)) hH hK (q_obj (by decide) (rfl : kd 1 = 3) (by decide)) rfl gxb (gxw hE hS (x_F hH hS hA))) rfl rfl hl.1 rfl (lv_room (Nat.le_of_ble_eq_true rfl)) dX2_takeWord_55 ⟨(Nat.le_of_ble_eq_true rfl), (Nat.le_of_ble_eq_true rfl)⟩) hH hS hA rfl rfl (fun r_76 _ H locs hw_77 hH hS => ?_)
            obtain ⟨hr_79, he_80⟩ := hw_77
            have hr_79 : (-1 : Int) ≤ r_76.toInt ∧ r_76.toInt ≤ 65535 := hr_79
            refine lv_bipush (v := 92) hx hb dX2_takeWord_58 (by decide) ?_
            refine lv_icmp_ne (tgt := 66) hx hb dX2_takeWord_60 (by decide) (fun c_81 => ?_) (fun c_81 => ?_)
            · skip
              have h_82 := s_ne (rfl : r_76.toInt = _) (show (92 : Int32).toInt = 92 from rfl) c_81
              refine lv_iload_n hx hb dX2_takeWord_66 rfl (lv_at hl 0 rfl) ?_
              refine lv_aload_n hx hb dX2_takeWord_67 rfl (lv_at hl 2 rfl) ?_
              refine h_geti (ci := 3) (C := RX3) (F := TX3) (N := 2) hx hb hts in3 hown hK hH (by decide) (rfl : kd 1 = 3) (by decide) rfl 1 (by decide) wd0 (fun _ h9 => h9) (by decide) rfl dX2_takeWord_68 ?_
              refine sj_i (y := (i 1 1)) (congrFun (hfr_j1 1 (by omega)) _) ?_
              refine lv_icmp_lt (tgt := 76) hx hb dX2_takeWord_71 (by decide) (fun c_83 => ?_) (fun c_83 => ?_)
              · skip
                have h_84 := s_lt (rfl : f.toInt = _) (rfl : (i 1 1).toInt = _) c_83
                refine lv_aload_n hx hb dX2_takeWord_76 rfl (lv_at hl 1 rfl) ?_
                refine lv_aload_n hx hb dX2_takeWord_77 rfl (lv_at hl 2 rfl) ?_
                refine h_getr (ci := 3) (C := RX3) (F := TX3) (N := 2) hx hb hts in3 hown hK hH (by decide) (rfl : kd 1 = 3) (by decide) rfl 0 (by decide) wd2 (fun _ h9 => h9) (by decide) rfl (t := 2) (hR 1 0 rfl) (by decide) dX2_takeWord_78 ?_
                refine lv_iload_n hx hb dX2_takeWord_81 rfl (lv_at hl 0 rfl) ?_
                refine h_cald hx hb hK hH (by decide) (rfl : kd 2 = 14) (s_vin (N := 480) (rfl : f.toInt = _) (rfl : ln 2 = 480) (by omega) (by omega)) dX2_takeWord_82 ?_
                have ek_85 : f.toNatClampNeg = (f.toInt).toNat := (s_cl (show f.toInt = f.toInt by omega))
                refine sj_i (y := (i 2 (f.toInt).toNat)) (by rw [ek_85]; exact (congrFun (hfr_j1 2 (by omega)) _)) ?_
                refine x_callv (va_runV (As := [.int (i 2 (f.toInt).toNat)]) (rest := []) ⟨hx, hb, hml, hown, hts⟩ (k_addChar l D g ka ad j1 r L d j (i 2 (f.toInt).toNat) hO_j1 hR H.size (by first | omega | decide) (by first | omega | decide) (by first | omega | decide)) (cwV 1 hts gX2_takeWord_X2_addChar rfl rfl rfl (by decide +kernel) ⟨(Nat.le_of_ble_eq_true rfl), (Nat.le_of_ble_eq_true rfl)⟩) (x_preV (q := (RX2, TX2, 11)) hH hK (q_obj (lt_nK (by omega)) (kd_expr (t := 0) hj (by decide)) (by decide)) rfl gxb (gxw hE hS (x_F hH hS hA))) rfl rfl hl.1 rfl (lv_room (Nat.le_of_ble_eq_true rfl)) dX2_takeWord_83 ⟨(Nat.le_of_ble_eq_true rfl), (Nat.le_of_ble_eq_true rfl)⟩) hH hS hA rfl rfl (fun im_88 H locs hw_87 hH hS => ?_)
                have hH : sj_H D A (hwc g ka im_88 r L d) H := hH
                obtain ⟨hO_90, hfr_89, he_91, hx2_92⟩ := hw_87
                have hm_93 := hx2_92 hi_lp_1_10
                obtain ⟨z_94, ez_94, hz_94⟩ := s_add (rfl : f.toInt = _) (show (1 : Int32).toInt = 1 from rfl) (by omega) (by omega)
                refine lv_iinc (v := z_94) (lv' := [(3, .int z_94), (0, .ref (g (240 + 9 * j))), (1, .ref (g 1)), (2, .int x)]) hx hb dX2_takeWord_86 hl (k := 0) rfl ez_94 (by decide) rfl (fun ls hl => ?_)
                refine lv_goto (tgt := 2) hx hb dX2_takeWord_89 (by decide) ?_
                exact ih_lp_1 z_94 _ _ _ ls (by omega) (by omega) (by omega) (by omega) (by omega) (by omega) (by omega) (by omega) (by omega) (by omega) (by omega) (by omega) hm_93 hO_90 (fun a ha => ((hfr_89 a (by omega)).trans (hfr_j1 a (by omega)))) (lv_sub hl [0, 1, 2, 3] rfl) hH hS
              · skip
                have h_95 := s_nlt (rfl : f.toInt = _) (rfl : (i 1 1).toInt = _) c_83
                refine lv_iconst (v := (-1)) hx hb dX2_takeWord_74 (by decide) ?_
                have hlv_96 : ((-1) : Int32).toInt = -1 := rfl
                exact sj_zret hx hb hr hlocks rfl hS j1 ⟨hO_j1, (fun a ha => (hfr_j1 a (by omega))), ⟨by omega, Or.inl (by omega)⟩⟩ hH (sj_Knil hK) (Nat.le_of_ble_eq_true rfl) (Nat.le_of_ble_eq_true rfl) dX2_takeWord_75
            · skip
              have h_97 := s_eq (rfl : r_76.toInt = _) (show (92 : Int32).toInt = 92 from rfl) c_81
              obtain ⟨z_98, ez_98, hz_98⟩ := s_add (rfl : f.toInt = _) (show (1 : Int32).toInt = 1 from rfl) (by omega) (by omega)
              refine lv_iinc (v := z_98) (lv' := [(3, .int z_98), (0, .ref (g (240 + 9 * j))), (1, .ref (g 1)), (2, .int x)]) hx hb dX2_takeWord_63 hl (k := 0) rfl ez_98 (by decide) rfl (fun ls hl => ?_)
              refine lv_iload_n hx hb dX2_takeWord_66 rfl (lv_at hl 0 rfl) ?_
              refine lv_aload_n hx hb dX2_takeWord_67 rfl (lv_at hl 2 rfl) ?_
              refine h_geti (ci := 3) (C := RX3) (F := TX3) (N := 2) hx hb hts in3 hown hK hH (by decide) (rfl : kd 1 = 3) (by decide) rfl 1 (by decide) wd0 (fun _ h9 => h9) (by decide) rfl dX2_takeWord_68 ?_
              refine sj_i (y := (i 1 1)) (congrFun (hfr_j1 1 (by omega)) _) ?_
              refine lv_icmp_lt (tgt := 76) hx hb dX2_takeWord_71 (by decide) (fun c_99 => ?_) (fun c_99 => ?_)
              · skip
                have h_100 := s_lt (rfl : z_98.toInt = _) (rfl : (i 1 1).toInt = _) c_99
                refine lv_aload_n hx hb dX2_takeWord_76 rfl (lv_at hl 1 rfl) ?_
                refine lv_aload_n hx hb dX2_takeWord_77 rfl (lv_at hl 2 rfl) ?_
                refine h_getr (ci := 3) (C := RX3) (F := TX3) (N := 2) hx hb hts in3 hown hK hH (by decide) (rfl : kd 1 = 3) (by decide) rfl 0 (by decide) wd2 (fun _ h9 => h9) (by decide) rfl (t := 2) (hR 1 0 rfl) (by decide) dX2_takeWord_78 ?_
                refine lv_iload_n hx hb dX2_takeWord_81 rfl (lv_at hl 0 rfl) ?_
                have bx_101 : (0 : Int) ≤ (i 2 (f.toInt + 1).toNat).toInt ∧ (i 2 (f.toInt + 1).toNat).toInt ≤ 65535 := hO 2 (f.toInt + 1).toNat
                refine h_cald hx hb hK hH (by decide) (rfl : kd 2 = 14) (s_vin (N := 480) (rfl : z_98.toInt = _) (rfl : ln 2 = 480) (by omega) (by omega)) dX2_takeWord_82 ?_
                have ek_102 : z_98.toNatClampNeg = (f.toInt + 1).toNat := (s_cl (show z_98.toInt = f.toInt + 1 by omega))
                refine sj_i (y := (i 2 (f.toInt + 1).toNat)) (by rw [ek_102]; exact (congrFun (hfr_j1 2 (by omega)) _)) ?_
                refine x_callv (va_runV (As := [.int (i 2 (f.toInt + 1).toNat)]) (rest := []) ⟨hx, hb, hml, hown, hts⟩ (k_addChar l D g ka ad j1 r L d j (i 2 (f.toInt + 1).toNat) hO_j1 hR H.size (by first | omega | decide) (by first | omega | decide) (by first | omega | decide)) (cwV 1 hts gX2_takeWord_X2_addChar rfl rfl rfl (by decide +kernel) ⟨(Nat.le_of_ble_eq_true rfl), (Nat.le_of_ble_eq_true rfl)⟩) (x_preV (q := (RX2, TX2, 11)) hH hK (q_obj (lt_nK (by omega)) (kd_expr (t := 0) hj (by decide)) (by decide)) rfl gxb (gxw hE hS (x_F hH hS hA))) rfl rfl hl.1 rfl (lv_room (Nat.le_of_ble_eq_true rfl)) dX2_takeWord_83 ⟨(Nat.le_of_ble_eq_true rfl), (Nat.le_of_ble_eq_true rfl)⟩) hH hS hA rfl rfl (fun im_105 H locs hw_104 hH hS => ?_)
                have hH : sj_H D A (hwc g ka im_105 r L d) H := hH
                obtain ⟨hO_107, hfr_106, he_108, hx2_109⟩ := hw_104
                have hm_110 := hx2_109 hi_lp_1_10
                obtain ⟨z_111, ez_111, hz_111⟩ := s_add (rfl : z_98.toInt = _) (show (1 : Int32).toInt = 1 from rfl) (by omega) (by omega)
                refine lv_iinc (v := z_111) (lv' := [(3, .int z_111), (0, .ref (g (240 + 9 * j))), (1, .ref (g 1)), (2, .int x)]) hx hb dX2_takeWord_86 hl (k := 0) rfl ez_111 (by decide) rfl (fun ls hl => ?_)
                refine lv_goto (tgt := 2) hx hb dX2_takeWord_89 (by decide) ?_
                exact ih_lp_1 z_111 _ _ _ ls (by omega) (by omega) (by omega) (by omega) (by omega) (by omega) (by omega) (by omega) (by omega) (by omega) (by omega) (by omega) hm_110 hO_107 (fun a ha => ((hfr_106 a (by omega)).trans (hfr_j1 a (by omega)))) (lv_sub hl [0, 1, 2, 3] rfl) hH hS
              · skip
                have h_112 := s_nlt (rfl : z_98.toInt = _) (rfl : (i 1 1).toInt = _) c_99
                refine lv_iconst (v := (-1)) hx hb dX2_takeWord_74 (by decide) ?_
                have hlv_113 : ((-1) : Int32).toInt = -1 := rfl
                exact sj_zret hx hb hr hlocks rfl hS j1 ⟨hO_j1, (fun a ha => (hfr_j1 a (by omega))), ⟨by omega, Or.inl (by omega)⟩⟩ hH (sj_Knil hK) (Nat.le_of_ble_eq_true rfl) (Nat.le_of_ble_eq_true rfl) dX2_takeWord_75
          · skip
            have h_114 := s_eq (rfl : r_69.toInt = _) (show (47 : Int32).toInt = 47 from rfl) c_74
            refine lv_aload_n hx hb dX2_takeWord_33 rfl (lv_at hl 1 rfl) ?_
            refine lv_aload_n hx hb dX2_takeWord_34 rfl (lv_at hl 1 rfl) ?_
            have bx_115 : (0 : Int) ≤ (j1 (240 + 9 * j) 2).toInt ∧ (j1 (240 + 9 * j) 2).toInt ≤ 61 := by have h9 := hO_j1 (240 + 9 * j) 2; rw [bx_expr0 hj 2] at h9; exact h9
            refine h_geti (ci := 2) (C := RX2) (F := TX2) (N := 11) hx hb hts in2 hown hK hH (lt_nK (by omega)) (kd_expr (t := 0) hj (by decide)) (by decide) rfl 2 (by decide) wd1 (fun _ h9 => h9) (by decide) rfl dX2_takeWord_35 ?_
            refine x_calli (va_runV (As := [.int (j1 (240 + 9 * j) 2)]) (rest := []) ⟨hx, hb, hml, hown, hts⟩ (k_choiceLength l D g ka ad j1 r L d j (j1 (240 + 9 * j) 2) hO_j1 hR H.size (by first | omega | decide) (by first | omega | decide) (by first | omega | decide)) (cwV 1 hts gX2_takeWord_X2_choiceLength rfl rfl rfl (by decide +kernel) ⟨(Nat.le_of_ble_eq_true rfl), (Nat.le_of_ble_eq_true rfl)⟩) (x_preV (q := (RX2, TX2, 11)) hH hK (q_obj (lt_nK (by omega)) (kd_expr (t := 0) hj (by decide)) (by decide)) rfl gxb (gxw hE hS (x_F hH hS hA))) rfl rfl hl.1 rfl (lv_room (Nat.le_of_ble_eq_true rfl)) dX2_takeWord_38 ⟨(Nat.le_of_ble_eq_true rfl), (Nat.le_of_ble_eq_true rfl)⟩) hH hS hA rfl rfl (fun r_116 _ H locs hw_117 hH hS => ?_)
            obtain ⟨hr_119, he_120⟩ := hw_117
            have hr_119 : (-60 : Int) ≤ r_116.toInt ∧ r_116.toInt ≤ 60 := hr_119
            have hr_116C : kC j1 j = (j1 (240 + 9 * j + 2) ((j1 (240 + 9 * j) 2).toInt + 1).toNat).toInt := rfl
            have hr_116B : kB j1 j = (j1 (240 + 9 * j + 2) ((j1 (240 + 9 * j) 2).toInt).toNat).toInt := rfl
            refine lv_if_ne (tgt := 46) hx hb dX2_takeWord_41 (by decide) (fun c_121 => ?_) (fun c_121 => ?_)
            · skip
              have h_122 := s_ne (rfl : r_116.toInt = _) (show (0 : Int32).toInt = 0 from rfl) c_121
              refine lv_aload_n hx hb dX2_takeWord_46 rfl (lv_at hl 1 rfl) ?_
              refine x_callv (va_runV (As := []) (rest := []) ⟨hx, hb, hml, hown, hts⟩ (k_endChoice l D g ka ad j1 r L d j hO_j1 hR H.size (by first | omega | decide) (by first | omega | decide)) (cwV 0 hts gX2_takeWord_X2_endChoice rfl rfl rfl (by decide +kernel) ⟨(Nat.le_of_ble_eq_true rfl), (Nat.le_of_ble_eq_true rfl)⟩) (x_preV (q := (RX2, TX2, 11)) hH hK (q_obj (lt_nK (by omega)) (kd_expr (t := 0) hj (by decide)) (by decide)) rfl gxb (gxw hE hS (x_F hH hS hA))) rfl rfl hl.1 rfl (lv_room (Nat.le_of_ble_eq_true rfl)) dX2_takeWord_47 ⟨(Nat.le_of_ble_eq_true rfl), (Nat.le_of_ble_eq_true rfl)⟩) hH hS hA rfl rfl (fun im_125 H locs hw_124 hH hS => ?_)
              have hH : sj_H D A (hwc g ka im_125 r L d) H := hH
              obtain ⟨hO_127, hfr_126, he_128, hx2_129⟩ := hw_124
              have hm_130 := hx2_129 hi_lp_1_10 (by omega)
              refine lv_goto (tgt := 86) hx hb dX2_takeWord_50 (by decide) ?_
              obtain ⟨z_131, ez_131, hz_131⟩ := s_add (rfl : f.toInt = _) (show (1 : Int32).toInt = 1 from rfl) (by omega) (by omega)
              refine lv_iinc (v := z_131) (lv' := [(3, .int z_131), (0, .ref (g (240 + 9 * j))), (1, .ref (g 1)), (2, .int x)]) hx hb dX2_takeWord_86 hl (k := 0) rfl ez_131 (by decide) rfl (fun ls hl => ?_)
              refine lv_goto (tgt := 2) hx hb dX2_takeWord_89 (by decide) ?_
              exact ih_lp_1 z_131 _ _ _ ls (by omega) (by omega) (by omega) (by omega) (by omega) (by omega) (by omega) (by omega) (by omega) (by omega) (by omega) (by omega) hm_130 hO_127 (fun a ha => ((hfr_126 a (by omega)).trans (hfr_j1 a (by omega)))) (lv_sub hl [0, 1, 2, 3] rfl) hH hS
            · skip
              have h_132 := s_eq (rfl : r_116.toInt = _) (show (0 : Int32).toInt = 0 from rfl) c_121
              refine lv_iconst (v := (-1)) hx hb dX2_takeWord_44 (by decide) ?_
              have hlv_133 : ((-1) : Int32).toInt = -1 := rfl
              exact sj_zret hx hb hr hlocks rfl hS j1 ⟨hO_j1, (fun a ha => (hfr_j1 a (by omega))), ⟨by omega, Or.inl (by omega)⟩⟩ hH (sj_Knil hK) (Nat.le_of_ble_eq_true rfl) (Nat.le_of_ble_eq_true rfl) dX2_takeWord_45
  exact lp_1 _ x _ _ _ ls (Nat.lt_succ_self _) (by omega) (by omega) (by omega) (by omega) (by omega) (by omega) (by omega) (by omega) (by omega) (by omega) (by omega) hT7 hO (fun a ha => rfl) (lv_sub hl [0, 1, 2, 3] rfl) hH hS
set_option maxHeartbeats 2000000 in
set_option maxRecDepth 100000 in
theorem k_takeParam (l : Launch) (D : va_G) (g : Nat → Nat) (ka : Nat → ClassId) (ad : Nat → Nat) (i : Nat → Nat → Int32) (r : Nat → Nat → Nat) (L : Nat → Nat → Int64) (d : Nat → Nat → UInt64) (j : Nat) (x : Int32) (hO : OkI i) (hR : RS r) (sz : Nat) (hj : j < 13) (hl0 : (i 1 1).toInt ≤ 60) (hx0 : 0 ≤ x.toInt) (hx1 : x.toInt < (i 1 1).toInt) (hTx : exT i j x.toInt) : Met l yX2_takeParameter wsX2_takeParameter ({ frames := 4, cells := 0, slots := 0, locals := 96 }) (va_Pc [.ref (g (240 + 9 * j)), .ref (g 1), .int x] (sj_B D (hwc g ka i r L d) (hT ka) sz (gx ad (va_A (hwc g ka i r L d) sz)))) (sj_Qi (S := (Nat → Nat → Int32)) D (fun v u => OkI u ∧ (∀ a, ¬ (a = 240 + 9 * j ∨ a = 240 + 9 * j + 1 ∨ a = 240 + 9 * j + 2 ∨ a = 240 + 9 * j + 3 ∨ a = 240 + 9 * j + 4 ∨ a = 240 + 9 * j + 8) → u a = i a) ∧ ((u (240 + 9 * j + 2) 0).toInt = 0 ∧ (v.toInt = -1 ∨ (x.toInt < v.toInt ∧ v.toInt ≤ (i 1 1).toInt ∧ exT u j v.toInt)))) (fun u => hwc g ka u r L d) (fun _ => []) (va_A (hwc g ka i r L d) sz)) 0 0 (va_A (hwc g ka i r L d) sz) := by
  refine x_met (Ex := gx ad) (cc := cX2_takeParameter) (maxL := 5) (ret := (some .int)) (by decide) rfl (Nat.le_of_ble_eq_true rfl) ?_
  intro p e s m below meth c A ls hx hb hr hml hts hown hlocks hA hS hH hK hE hl
  have hown : s.vm.findClass RX2 = some m.cls := hown
  have in2 : ∀ w ∈ wsX20, w ∈ wsX2_takeParameter := (fun _ h => (List.mem_cons_of_mem _ (List.mem_append_left _ (List.mem_append_right _ h))))
  have wd0 := hts (.fieldLink RX2 45 "StoryDesk$Expression" "parameters" "I") (List.mem_cons_of_mem _ (List.mem_append_left _ (List.mem_append_left _ (List.mem_append_left _ lm0))))
  have wd1 := hts (.fieldLink RX2 35 "StoryDesk$Expression" "argumentKinds" "[C") (List.mem_cons_of_mem _ (List.mem_append_left _ (List.mem_append_left _ (List.mem_append_left _ lm1))))
  have hl : lv_has ls 5 [(0, .ref (g (240 + 9 * j))), (1, .ref (g 1)), (2, .int x)] := hl
  have hK : va_K D vwCl (hT ka) s := hK
  obtain ⟨hT1, hT2, hT3, hT4, hT5, hT6, hT7⟩ := hTx
  refine lv_aload_n hx hb dX2_takeParameter_0 rfl (lv_at hl 1 rfl) ?_
  refine lv_iload_n hx hb dX2_takeParameter_1 rfl (lv_at hl 2 rfl) ?_
  refine lv_iconst (v := 1) hx hb dX2_takeParameter_2 (by decide) ?_
  refine lv_iadd hx hb dX2_takeParameter_3 ?_
  obtain ⟨z_1, ez_1, hz_1⟩ := s_add (rfl : x.toInt = _) (show (1 : Int32).toInt = 1 from rfl) (by omega) (by omega)
  refine sj_i ez_1 ?_
  refine x_calli (va_runV (As := [.int z_1]) (rest := []) ⟨hx, hb, hml, hown, hts⟩ (k_at_text l D g ka ad i r L d z_1 hO hR s.heap.size ) (cwV 1 hts gX2_takeParameter_X3_at rfl rfl rfl (by decide +kernel) ⟨(Nat.le_of_ble_eq_true rfl), (Nat.le_of_ble_eq_true rfl)⟩) (x_preV (q := (RX3, TX3, 2)) hH hK (q_obj (by decide) (rfl : kd 1 = 3) (by decide)) rfl gxb (gxw hE hS (x_F hH hS hA))) rfl rfl hl.1 rfl (lv_room (Nat.le_of_ble_eq_true rfl)) dX2_takeParameter_4 ⟨(Nat.le_of_ble_eq_true rfl), (Nat.le_of_ble_eq_true rfl)⟩) hH hS hA rfl rfl (fun r_2 _ H locs hw_3 hH hS => ?_)
  obtain ⟨hr_5, he_6⟩ := hw_3
  have hr_5 : (-1 : Int) ≤ r_2.toInt ∧ r_2.toInt ≤ 65535 := hr_5
  refine lv_istore_n (lv' := [(3, .int r_2), (0, .ref (g (240 + 9 * j))), (1, .ref (g 1)), (2, .int x)]) hx hb dX2_takeParameter_7 rfl hl (by decide) rfl (fun ls hl => ?_)
  refine lv_iload_n hx hb dX2_takeParameter_8 rfl (lv_at hl 0 rfl) ?_
  refine lv_if_lt (tgt := 26) hx hb dX2_takeParameter_9 (by decide) (fun c_7 => ?_) (fun c_7 => ?_)
  · skip
    have h_8 := s_lt (rfl : r_2.toInt = _) (show (0 : Int32).toInt = 0 from rfl) c_7
    refine lv_iconst (v := 0) hx hb dX2_takeParameter_26 (by decide) ?_
    refine lv_istore (lv' := [(4, .int 0), (3, .int r_2), (0, .ref (g (240 + 9 * j))), (1, .ref (g 1)), (2, .int x)]) hx hb dX2_takeParameter_27 hl (by decide) rfl (fun ls hl => ?_)
    refine lv_iload hx hb dX2_takeParameter_29 (lv_at hl 0 rfl) ?_
    refine lv_if_eq (tgt := 55) hx hb dX2_takeParameter_31 (by decide) (fun _ => ?_) (fun h => absurd (by decide) h)
    refine lv_iconst (v := (-1)) hx hb dX2_takeParameter_55 (by decide) ?_
    have hlv_9 : ((-1) : Int32).toInt = -1 := rfl
    exact sj_zret hx hb hr hlocks rfl hS i ⟨hO, (fun a ha => rfl), ⟨by omega, Or.inl (by omega)⟩⟩ hH (sj_Knil hK) (Nat.le_of_ble_eq_true rfl) (Nat.le_of_ble_eq_true rfl) dX2_takeParameter_56
  · skip
    have h_10 := s_nlt (rfl : r_2.toInt = _) (show (0 : Int32).toInt = 0 from rfl) c_7
    refine va_ldcS hx hb hown hE.2.1.1 dX2_takeParameter_12 ?_
    refine lv_iload_n hx hb dX2_takeParameter_14 rfl (lv_at hl 0 rfl) ?_
    refine lv_i2c hx hb dX2_takeParameter_15 rfl ?_
    refine lv_topi (fun z_11 ez_11 => ?_)
    have hz_11 := s_i2c ez_11
    refine x_calli (va_runV (As := [.int z_11]) (rest := []) ⟨hx, hb, hml, hown, hts⟩ (k_indexOf_0 l D g ka ad i r L d z_11 hO hR H.size ) (cwV 1 hts gX2_takeParameter_J0_indexOf_0f7a4 rfl rfl rfl (by decide +kernel) ⟨(Nat.le_of_ble_eq_true rfl), (Nat.le_of_ble_eq_true rfl)⟩) (x_preS2 (n := 0) hE.1.1 (by decide) hH hK hS gxb (gxw hE hS (x_F hH hS hA))) rfl rfl hl.1 rfl (lv_room (Nat.le_of_ble_eq_true rfl)) dX2_takeParameter_16 ⟨(Nat.le_of_ble_eq_true rfl), (Nat.le_of_ble_eq_true rfl)⟩) hH hS hA rfl rfl (fun r_12 _ H locs hw_13 hH hS => ?_)
    obtain ⟨hr_15, he_16⟩ := hw_13
    have hr_15 : (-1 : Int) ≤ r_12.toInt ∧ r_12.toInt ≤ 4 := hr_15
    refine lv_if_lt (tgt := 26) hx hb dX2_takeParameter_19 (by decide) (fun c_17 => ?_) (fun c_17 => ?_)
    · skip
      have h_18 := s_lt (rfl : r_12.toInt = _) (show (0 : Int32).toInt = 0 from rfl) c_17
      refine lv_iconst (v := 0) hx hb dX2_takeParameter_26 (by decide) ?_
      refine lv_istore (lv' := [(4, .int 0), (3, .int r_2), (0, .ref (g (240 + 9 * j))), (1, .ref (g 1)), (2, .int x)]) hx hb dX2_takeParameter_27 hl (by decide) rfl (fun ls hl => ?_)
      refine lv_iload hx hb dX2_takeParameter_29 (lv_at hl 0 rfl) ?_
      refine lv_if_eq (tgt := 55) hx hb dX2_takeParameter_31 (by decide) (fun _ => ?_) (fun h => absurd (by decide) h)
      refine lv_iconst (v := (-1)) hx hb dX2_takeParameter_55 (by decide) ?_
      have hlv_19 : ((-1) : Int32).toInt = -1 := rfl
      exact sj_zret hx hb hr hlocks rfl hS i ⟨hO, (fun a ha => rfl), ⟨by omega, Or.inl (by omega)⟩⟩ hH (sj_Knil hK) (Nat.le_of_ble_eq_true rfl) (Nat.le_of_ble_eq_true rfl) dX2_takeParameter_56
    · skip
      have h_20 := s_nlt (rfl : r_12.toInt = _) (show (0 : Int32).toInt = 0 from rfl) c_17
      refine lv_iconst (v := 1) hx hb dX2_takeParameter_22 (by decide) ?_
      refine lv_goto (tgt := 27) hx hb dX2_takeParameter_23 (by decide) ?_
      refine lv_istore (lv' := [(4, .int 1), (3, .int r_2), (0, .ref (g (240 + 9 * j))), (1, .ref (g 1)), (2, .int x)]) hx hb dX2_takeParameter_27 hl (by decide) rfl (fun ls hl => ?_)
      refine lv_iload hx hb dX2_takeParameter_29 (lv_at hl 0 rfl) ?_
      refine lv_if_eq (tgt := 55) hx hb dX2_takeParameter_31 (by decide) (fun h => absurd h (by decide)) (fun _ => ?_)
      refine lv_aload_n hx hb dX2_takeParameter_34 rfl (lv_at hl 3 rfl) ?_
      refine lv_iload_n hx hb dX2_takeParameter_35 rfl (lv_at hl 4 rfl) ?_
      refine lv_iconst (v := 2) hx hb dX2_takeParameter_36 (by decide) ?_
      refine lv_iadd hx hb dX2_takeParameter_37 ?_
      obtain ⟨z_21, ez_21, hz_21⟩ := s_add (rfl : x.toInt = _) (show (2 : Int32).toInt = 2 from rfl) (by omega) (by omega)
      refine sj_i ez_21 ?_
      refine x_calli (va_runV (As := [.int z_21]) (rest := []) ⟨hx, hb, hml, hown, hts⟩ (k_at_text l D g ka ad i r L d z_21 hO hR H.size ) (cwV 1 hts gX2_takeParameter_X3_at rfl rfl rfl (by decide +kernel) ⟨(Nat.le_of_ble_eq_true rfl), (Nat.le_of_ble_eq_true rfl)⟩) (x_preV (q := (RX3, TX3, 2)) hH hK (q_obj (by decide) (rfl : kd 1 = 3) (by decide)) rfl gxb (gxw hE hS (x_F hH hS hA))) rfl rfl hl.1 rfl (lv_room (Nat.le_of_ble_eq_true rfl)) dX2_takeParameter_38 ⟨(Nat.le_of_ble_eq_true rfl), (Nat.le_of_ble_eq_true rfl)⟩) hH hS hA rfl rfl (fun r_22 _ H locs hw_23 hH hS => ?_)
      obtain ⟨hr_25, he_26⟩ := hw_23
      have hr_25 : (-1 : Int) ≤ r_22.toInt ∧ r_22.toInt ≤ 65535 := hr_25
      refine lv_bipush (v := 125) hx hb dX2_takeParameter_41 (by decide) ?_
      refine lv_icmp_ne (tgt := 55) hx hb dX2_takeParameter_43 (by decide) (fun c_27 => ?_) (fun c_27 => ?_)
      · skip
        have h_28 := s_ne (rfl : r_22.toInt = _) (show (125 : Int32).toInt = 125 from rfl) c_27
        refine lv_iconst (v := (-1)) hx hb dX2_takeParameter_55 (by decide) ?_
        have hlv_29 : ((-1) : Int32).toInt = -1 := rfl
        exact sj_zret hx hb hr hlocks rfl hS i ⟨hO, (fun a ha => rfl), ⟨by omega, Or.inl (by omega)⟩⟩ hH (sj_Knil hK) (Nat.le_of_ble_eq_true rfl) (Nat.le_of_ble_eq_true rfl) dX2_takeParameter_56
      · skip
        have h_30 := s_eq (rfl : r_22.toInt = _) (show (125 : Int32).toInt = 125 from rfl) c_27
        refine lv_aload_n hx hb dX2_takeParameter_46 rfl (lv_at hl 2 rfl) ?_
        have bx_31 : (0 : Int) ≤ (i (240 + 9 * j) 6).toInt ∧ (i (240 + 9 * j) 6).toInt ≤ 6 := by have h9 := hO (240 + 9 * j) 6; rw [bx_expr0 hj 6] at h9; exact h9
        refine h_geti (ci := 2) (C := RX2) (F := TX2) (N := 11) hx hb hts in2 hown hK hH (lt_nK (by omega)) (kd_expr (t := 0) hj (by decide)) (by decide) rfl 6 (by decide) wd0 (fun _ h9 => h9) (by decide) rfl dX2_takeParameter_47 ?_
        refine lv_bipush (v := 6) hx hb dX2_takeParameter_50 (by decide) ?_
        refine lv_icmp_lt (tgt := 57) hx hb dX2_takeParameter_52 (by decide) (fun c_32 => ?_) (fun c_32 => ?_)
        · skip
          have h_33 := s_lt (rfl : (i (240 + 9 * j) 6).toInt = _) (show (6 : Int32).toInt = 6 from rfl) c_32
          refine lv_aload_n hx hb dX2_takeParameter_57 rfl (lv_at hl 2 rfl) ?_
          refine h_getr (ci := 2) (C := RX2) (F := TX2) (N := 11) hx hb hts in2 hown hK hH (lt_nK (by omega)) (kd_expr (t := 0) hj (by decide)) (by decide) rfl 10 (by decide) wd1 (fun _ h9 => h9) (by decide) rfl (t := (240 + 9 * j + 8)) ((hR _ _ (by unfold dyn; simp <;> omega)).trans (sr_expr (by omega) (by omega))) (lt_nK (by omega)) dX2_takeParameter_58 ?_
          refine lv_aload_n hx hb dX2_takeParameter_61 rfl (lv_at hl 2 rfl) ?_
          refine h_geti (ci := 2) (C := RX2) (F := TX2) (N := 11) hx hb hts in2 hown hK hH (lt_nK (by omega)) (kd_expr (t := 0) hj (by decide)) (by decide) rfl 6 (by decide) wd0 (fun _ h9 => h9) (by decide) rfl dX2_takeParameter_62 ?_
          refine lv_iload_n hx hb dX2_takeParameter_65 rfl (lv_at hl 1 rfl) ?_
          refine lv_i2c hx hb dX2_takeParameter_66 rfl ?_
          refine lv_topi (fun z_34 ez_34 => ?_)
          have hz_34 := s_i2c ez_34
          obtain ⟨z_35, ez_35⟩ : ∃ z, vp_nar .char z_34 = z := ⟨_, rfl⟩
          have hz_35 : z_35.toInt = z_34.toInt := by rw [← ez_35, s_narc (rfl : z_34.toInt = _) (by omega) (by omega)] <;> exact (rfl : z_34.toInt = _)
          have hO_36 := okp hO (n := (240 + 9 * j + 8)) (k := ((i (240 + 9 * j) 6).toInt).toNat) (v := z_35) (by rw [bx_expr (t := 8) hj (by decide) (by decide) ((i (240 + 9 * j) 6).toInt).toNat]; exact (show (0 : Int) ≤ (z_35 : Int32).toInt ∧ (z_35 : Int32).toInt ≤ 65535 from ⟨by omega, by omega⟩))
          refine h_cast hx hb hK hH hS (lt_nK (by omega)) (kd_expr (t := 8) hj (by decide)) (s_vin (N := 6) (rfl : (i (240 + 9 * j) 6).toInt = _) (ln_expr (t := 8) hj (by decide)) (by omega) (by omega)) dX2_takeParameter_67 (fun H locs hH hS => ?_)
          rw [ez_35] at hH
          rw [s_cl (show (i (240 + 9 * j) 6).toInt = (i (240 + 9 * j) 6).toInt by omega)] at hH
          refine lv_aload_n hx hb dX2_takeParameter_68 rfl (lv_at hl 2 rfl) ?_
          refine lv_dup hx hb dX2_takeParameter_69 rfl ?_
          refine h_geti (ci := 2) (C := RX2) (F := TX2) (N := 11) hx hb hts in2 hown hK hH (lt_nK (by omega)) (kd_expr (t := 0) hj (by decide)) (by decide) rfl 6 (by decide) wd0 (fun _ h9 => h9) (by decide) rfl dX2_takeParameter_70 ?_
          refine sj_i (y := (i (240 + 9 * j) 6)) (congrFun (up2_n _ _ (by omega)) _) ?_
          refine lv_iconst (v := 1) hx hb dX2_takeParameter_73 (by decide) ?_
          refine lv_iadd hx hb dX2_takeParameter_74 ?_
          obtain ⟨z_37, ez_37, hz_37⟩ := s_add (rfl : (i (240 + 9 * j) 6).toInt = _) (show (1 : Int32).toInt = 1 from rfl) (by omega) (by omega)
          refine sj_i ez_37 ?_
          have hO_38 := okp hO_36 (n := (240 + 9 * j)) (k := 6) (v := z_37) (by rw [bx_expr0 hj 6]; exact (show (0 : Int) ≤ (z_37 : Int32).toInt ∧ (z_37 : Int32).toInt ≤ 6 from ⟨by omega, by omega⟩))
          refine h_puti (ty := .int) (ci := 2) (C := RX2) (F := TX2) (N := 11) hx hb hts in2 tyX2 tyX2_ok nmX2 hown hK hH hS (lt_nK (by omega)) (kd_expr (t := 0) hj (by decide)) (by decide) rfl 6 (by decide) wd0 (fun _ h9 => h9) rfl (by decide +kernel) rfl rfl (by decide) rfl dX2_takeParameter_75 (fun H locs hH hS => ?_)
          refine lv_aload_n hx hb dX2_takeParameter_78 rfl (lv_at hl 2 rfl) ?_
          refine lv_iload_n hx hb dX2_takeParameter_79 rfl (lv_at hl 1 rfl) ?_
          refine lv_i2c hx hb dX2_takeParameter_80 rfl ?_
          refine lv_topi (fun z_39 ez_39 => ?_)
          have hz_39 := s_i2c ez_39
          have hzz : (0 : Int32).toInt = 0 := rfl
          have hf2 : (up2 (up2 i (240 + 9 * j + 8) ((i (240 + 9 * j) 6).toInt).toNat z_35) (240 + 9 * j) 6 z_37) (240 + 9 * j) 2 = (i (240 + 9 * j) 2) := ((up2_k _ _ (by decide)).trans (congrFun (up2_n _ _ (by omega)) _))
          have hf2i := congrArg Int32.toInt hf2
          have hf5 : (up2 (up2 i (240 + 9 * j + 8) ((i (240 + 9 * j) 6).toInt).toNat z_35) (240 + 9 * j) 6 z_37) (240 + 9 * j) 5 = (i (240 + 9 * j) 5) := ((up2_k _ _ (by decide)).trans (congrFun (up2_n _ _ (by omega)) _))
          have hf5i := congrArg Int32.toInt hf5
          have hf6 : (up2 (up2 i (240 + 9 * j + 8) ((i (240 + 9 * j) 6).toInt).toNat z_35) (240 + 9 * j) 6 z_37) (240 + 9 * j) 6 = z_37 := (up2_at _ _ _ _)
          have hf6i := congrArg Int32.toInt hf6
          have hkC : kC (up2 (up2 i (240 + 9 * j + 8) ((i (240 + 9 * j) 6).toInt).toNat z_35) (240 + 9 * j) 6 z_37) j = ((i (240 + 9 * j + 2) ((i (240 + 9 * j) 2).toInt + 1).toNat) : Int32).toInt := by unfold kC; rw [hf2, show (((i (240 + 9 * j) 2) : Int32).toInt + 1).toNat = ((i (240 + 9 * j) 2).toInt + 1).toNat by omega]; exact congrArg Int32.toInt (((congrFun (up2_n _ _ (by omega)) _).trans (congrFun (up2_n _ _ (by omega)) _)))
          have hkB : kB (up2 (up2 i (240 + 9 * j + 8) ((i (240 + 9 * j) 6).toInt).toNat z_35) (240 + 9 * j) 6 z_37) j = ((i (240 + 9 * j + 2) ((i (240 + 9 * j) 2).toInt).toNat) : Int32).toInt := by unfold kB; rw [hf2, show (((i (240 + 9 * j) 2) : Int32).toInt).toNat = ((i (240 + 9 * j) 2).toInt).toNat by omega]; exact congrArg Int32.toInt (((congrFun (up2_n _ _ (by omega)) _).trans (congrFun (up2_n _ _ (by omega)) _)))
          have hiC : kC i j = (i (240 + 9 * j + 2) ((i (240 + 9 * j) 2).toInt + 1).toNat).toInt := rfl
          have hiB : kB i j = (i (240 + 9 * j + 2) ((i (240 + 9 * j) 2).toInt).toNat).toInt := rfl
          have hf0 : ((up2 (up2 i (240 + 9 * j + 8) ((i (240 + 9 * j) 6).toInt).toNat z_35) (240 + 9 * j) 6 z_37) (240 + 9 * j + 2) 0).toInt = ((i (240 + 9 * j + 2) 0) : Int32).toInt := congrArg Int32.toInt (((congrFun (up2_n _ _ (by omega)) _).trans (congrFun (up2_n _ _ (by omega)) _)))
          have hcn : cn (up2 (up2 i (240 + 9 * j + 8) ((i (240 + 9 * j) 6).toInt).toNat z_35) (240 + 9 * j) 6 z_37) j = cn i j := by unfold cn; rw [hf5, show (up2 (up2 i (240 + 9 * j + 8) ((i (240 + 9 * j) 6).toInt).toNat z_35) (240 + 9 * j) 6 z_37) (240 + 9 * j + 3) = i (240 + 9 * j + 3) from ((up2_n _ _ (by omega)).trans (up2_n _ _ (by omega)))]
          have hm_40 : mono (up2 (up2 i (240 + 9 * j + 8) ((i (240 + 9 * j) 6).toInt).toNat z_35) (240 + 9 * j) 6 z_37) j := mono_same hT7 ((up2_n _ _ (by omega)).trans (up2_n _ _ (by omega))) ((up2_n _ _ (by omega)).trans (up2_n _ _ (by omega))) (by omega) (by omega)
          refine x_callv (va_runV (As := [.int z_39]) (rest := []) ⟨hx, hb, hml, hown, hts⟩ (k_endElement l D g ka ad (up2 (up2 i (240 + 9 * j + 8) ((i (240 + 9 * j) 6).toInt).toNat z_35) (240 + 9 * j) 6 z_37) r L d j z_39 hO_38 hR H.size (by first | omega | decide) (by first | omega | decide) (by first | omega | decide) (by first | omega | decide)) (cwV 1 hts gX2_takeParameter_X2_endElement rfl rfl rfl (by decide +kernel) ⟨(Nat.le_of_ble_eq_true rfl), (Nat.le_of_ble_eq_true rfl)⟩) (x_preV (q := (RX2, TX2, 11)) hH hK (q_obj (lt_nK (by omega)) (kd_expr (t := 0) hj (by decide)) (by decide)) rfl gxb (gxw hE hS (x_F hH hS hA))) rfl rfl hl.1 rfl (lv_room (Nat.le_of_ble_eq_true rfl)) dX2_takeParameter_81 ⟨(Nat.le_of_ble_eq_true rfl), (Nat.le_of_ble_eq_true rfl)⟩) hH hS hA rfl rfl (fun im_43 H locs hw_42 hH hS => ?_)
          have hH : sj_H D A (hwc g ka im_43 r L d) H := hH
          obtain ⟨hO_45, hfr_44, he_46, hx2_47⟩ := hw_42
          have hm_48 := hx2_47 hm_40
          refine lv_iload_n hx hb dX2_takeParameter_84 rfl (lv_at hl 4 rfl) ?_
          refine lv_iconst (v := 3) hx hb dX2_takeParameter_85 (by decide) ?_
          refine lv_iadd hx hb dX2_takeParameter_86 ?_
          obtain ⟨z_49, ez_49, hz_49⟩ := s_add (rfl : x.toInt = _) (show (3 : Int32).toInt = 3 from rfl) (by omega) (by omega)
          refine sj_i ez_49 ?_
          exact sj_zret hx hb hr hlocks rfl hS im_43 ⟨hO_45, (fun a ha => ((hfr_44 a (by omega)).trans ((up2_n _ _ (by omega)).trans (up2_n _ _ (by omega))))), ⟨by omega, Or.inr ⟨by omega, by omega, ⟨by omega, by omega, by omega, by omega, by omega, by omega, hm_48⟩⟩⟩⟩ hH (sj_Knil hK) (Nat.le_of_ble_eq_true rfl) (Nat.le_of_ble_eq_true rfl) dX2_takeParameter_87
        · skip
          have h_50 := s_nlt (rfl : (i (240 + 9 * j) 6).toInt = _) (show (6 : Int32).toInt = 6 from rfl) c_32
          refine lv_iconst (v := (-1)) hx hb dX2_takeParameter_55 (by decide) ?_
          have hlv_51 : ((-1) : Int32).toInt = -1 := rfl
          exact sj_zret hx hb hr hlocks rfl hS i ⟨hO, (fun a ha => rfl), ⟨by omega, Or.inl (by omega)⟩⟩ hH (sj_Knil hK) (Nat.le_of_ble_eq_true rfl) (Nat.le_of_ble_eq_true rfl) dX2_takeParameter_56
set_option maxHeartbeats 2000000 in
set_option maxRecDepth 100000 in
theorem k_takeElement (l : Launch) (D : va_G) (g : Nat → Nat) (ka : Nat → ClassId) (ad : Nat → Nat) (i : Nat → Nat → Int32) (r : Nat → Nat → Nat) (L : Nat → Nat → Int64) (d : Nat → Nat → UInt64) (j : Nat) (x : Int32) (hO : OkI i) (hR : RS r) (sz : Nat) (hj : j < 13) (hl0 : (i 1 1).toInt ≤ 60) (hx0 : 0 ≤ x.toInt) (hx1 : x.toInt < (i 1 1).toInt) (hTx : exT i j x.toInt) : Met l yX2_takeElement wsX2_takeElement ({ frames := 5, cells := 0, slots := 0, locals := 120 }) (va_Pc [.ref (g (240 + 9 * j)), .ref (g 1), .int x] (sj_B D (hwc g ka i r L d) (hT ka) sz (gx ad (va_A (hwc g ka i r L d) sz)))) (sj_Qi (S := (Nat → Nat → Int32)) D (fun v u => OkI u ∧ (∀ a, ¬ (a = 240 + 9 * j ∨ a = 240 + 9 * j + 1 ∨ a = 240 + 9 * j + 2 ∨ a = 240 + 9 * j + 3 ∨ a = 240 + 9 * j + 4 ∨ a = 240 + 9 * j + 8) → u a = i a) ∧ ((u (240 + 9 * j + 2) 0).toInt = 0 ∧ (v.toInt = -1 ∨ (x.toInt < v.toInt ∧ v.toInt ≤ (i 1 1).toInt ∧ exT u j v.toInt)))) (fun u => hwc g ka u r L d) (fun _ => []) (va_A (hwc g ka i r L d) sz)) 0 0 (va_A (hwc g ka i r L d) sz) := by
  refine x_met (Ex := gx ad) (cc := cX2_takeElement) (maxL := 4) (ret := (some .int)) (by decide) rfl (Nat.le_of_ble_eq_true rfl) ?_
  intro p e s m below meth c A ls hx hb hr hml hts hown hlocks hA hS hH hK hE hl
  have hown : s.vm.findClass RX2 = some m.cls := hown
  have in3 : ∀ w ∈ wsX30, w ∈ wsX2_takeElement := (fun _ h => (List.mem_cons_of_mem _ (List.mem_append_left _ (List.mem_append_right _ h))))
  have wd0 := hts (.fieldLink RX2 57 "StoryDesk$Letters" "chars" "[C") (List.mem_cons_of_mem _ (List.mem_append_left _ (List.mem_append_left _ (List.mem_append_left _ lm0))))
  have hl : lv_has ls 4 [(0, .ref (g (240 + 9 * j))), (1, .ref (g 1)), (2, .int x)] := hl
  have hK : va_K D vwCl (hT ka) s := hK
  obtain ⟨hT1, hT2, hT3, hT4, hT5, hT6, hT7⟩ := hTx
  refine lv_aload_n hx hb dX2_takeElement_0 rfl (lv_at hl 1 rfl) ?_
  refine h_getr (ci := 3) (C := RX3) (F := TX3) (N := 2) hx hb hts in3 hown hK hH (by decide) (rfl : kd 1 = 3) (by decide) rfl 0 (by decide) wd0 (fun _ h9 => h9) (by decide) rfl (t := 2) (hR 1 0 rfl) (by decide) dX2_takeElement_1 ?_
  refine lv_iload_n hx hb dX2_takeElement_4 rfl (lv_at hl 2 rfl) ?_
  have bx_1 : (0 : Int) ≤ (i 2 (x.toInt).toNat).toInt ∧ (i 2 (x.toInt).toNat).toInt ≤ 65535 := hO 2 (x.toInt).toNat
  refine h_cald hx hb hK hH (by decide) (rfl : kd 2 = 14) (s_vin (N := 480) (rfl : x.toInt = _) (rfl : ln 2 = 480) (by omega) (by omega)) dX2_takeElement_5 ?_
  have ek_2 : x.toNatClampNeg = (x.toInt).toNat := (s_cl (show x.toInt = x.toInt by omega))
  refine sj_i (y := (i 2 (x.toInt).toNat)) (by rw [ek_2]) ?_
  refine lv_istore_n (lv' := [(3, .int (i 2 (x.toInt).toNat)), (0, .ref (g (240 + 9 * j))), (1, .ref (g 1)), (2, .int x)]) hx hb dX2_takeElement_6 rfl hl (by decide) rfl (fun ls hl => ?_)
  refine lv_iload_n hx hb dX2_takeElement_7 rfl (lv_at hl 0 rfl) ?_
  refine lv_bipush (v := 123) hx hb dX2_takeElement_8 (by decide) ?_
  refine lv_icmp_ne (tgt := 20) hx hb dX2_takeElement_10 (by decide) (fun c_3 => ?_) (fun c_3 => ?_)
  · skip
    have h_4 := s_ne (rfl : (i 2 (x.toInt).toNat).toInt = _) (show (123 : Int32).toInt = 123 from rfl) c_3
    refine lv_iload_n hx hb dX2_takeElement_20 rfl (lv_at hl 0 rfl) ?_
    refine lv_bipush (v := 40) hx hb dX2_takeElement_21 (by decide) ?_
    refine lv_icmp_ne (tgt := 33) hx hb dX2_takeElement_23 (by decide) (fun c_5 => ?_) (fun c_5 => ?_)
    · skip
      have h_6 := s_ne (rfl : (i 2 (x.toInt).toNat).toInt = _) (show (40 : Int32).toInt = 40 from rfl) c_5
      refine lv_iload_n hx hb dX2_takeElement_33 rfl (lv_at hl 0 rfl) ?_
      refine lv_bipush (v := 32) hx hb dX2_takeElement_34 (by decide) ?_
      refine lv_icmp_ne (tgt := 58) hx hb dX2_takeElement_36 (by decide) (fun c_7 => ?_) (fun c_7 => ?_)
      · skip
        have h_8 := s_ne (rfl : (i 2 (x.toInt).toNat).toInt = _) (show (32 : Int32).toInt = 32 from rfl) c_7
        refine lv_aload_n hx hb dX2_takeElement_58 rfl (lv_at hl 1 rfl) ?_
        refine lv_aload_n hx hb dX2_takeElement_59 rfl (lv_at hl 2 rfl) ?_
        refine lv_iload_n hx hb dX2_takeElement_60 rfl (lv_at hl 3 rfl) ?_
        refine x_calli (va_runV (As := [.ref (g 1), .int x]) (rest := []) ⟨hx, hb, hml, hown, hts⟩ (k_takeWord l D g ka ad i r L d j x hO hR s.heap.size (by first | omega | decide) (by first | omega | decide) (by first | omega | decide) (by first | omega | decide) ⟨by omega, by omega, by omega, by omega, by omega, by omega, hT7⟩) (cwV 2 hts gX2_takeElement_X2_takeWord rfl rfl rfl (by decide +kernel) ⟨(Nat.le_of_ble_eq_true rfl), (Nat.le_of_ble_eq_true rfl)⟩) (x_preV (q := (RX2, TX2, 11)) hH hK (q_obj (lt_nK (by omega)) (kd_expr (t := 0) hj (by decide)) (by decide)) rfl gxb (gxw hE hS (x_F hH hS hA))) rfl rfl hl.1 rfl (lv_room (Nat.le_of_ble_eq_true rfl)) dX2_takeElement_61 ⟨(Nat.le_of_ble_eq_true rfl), (Nat.le_of_ble_eq_true rfl)⟩) hH hS hA rfl rfl (fun r_9 im_11 H locs hw_10 hH hS => ?_)
        have hH : sj_H D A (hwc g ka im_11 r L d) H := hH
        obtain ⟨hO_13, hfr_12, he_14⟩ := hw_10
        exact sj_zret hx hb hr hlocks rfl hS im_11 ⟨hO_13, (fun a ha => (hfr_12 a (by omega))), he_14⟩ hH (sj_Knil hK) (Nat.le_of_ble_eq_true rfl) (Nat.le_of_ble_eq_true rfl) dX2_takeElement_64
      · skip
        have h_15 := s_eq (rfl : (i 2 (x.toInt).toNat).toInt = _) (show (32 : Int32).toInt = 32 from rfl) c_7
        refine lv_aload_n hx hb dX2_takeElement_39 rfl (lv_at hl 1 rfl) ?_
        refine lv_iload_n hx hb dX2_takeElement_40 rfl (lv_at hl 0 rfl) ?_
        refine x_callv (va_runV (As := [.int (i 2 (x.toInt).toNat)]) (rest := []) ⟨hx, hb, hml, hown, hts⟩ (k_addChar l D g ka ad i r L d j (i 2 (x.toInt).toNat) hO hR s.heap.size (by first | omega | decide) (by first | omega | decide) (by first | omega | decide)) (cwV 1 hts gX2_takeElement_X2_addChar rfl rfl rfl (by decide +kernel) ⟨(Nat.le_of_ble_eq_true rfl), (Nat.le_of_ble_eq_true rfl)⟩) (x_preV (q := (RX2, TX2, 11)) hH hK (q_obj (lt_nK (by omega)) (kd_expr (t := 0) hj (by decide)) (by decide)) rfl gxb (gxw hE hS (x_F hH hS hA))) rfl rfl hl.1 rfl (lv_room (Nat.le_of_ble_eq_true rfl)) dX2_takeElement_41 ⟨(Nat.le_of_ble_eq_true rfl), (Nat.le_of_ble_eq_true rfl)⟩) hH hS hA rfl rfl (fun im_18 H locs hw_17 hH hS => ?_)
        have hH : sj_H D A (hwc g ka im_18 r L d) H := hH
        obtain ⟨hO_20, hfr_19, he_21, hx2_22⟩ := hw_17
        have hm_23 := hx2_22 hT7
        refine lv_aload_n hx hb dX2_takeElement_44 rfl (lv_at hl 1 rfl) ?_
        refine x_callv (va_runV (As := []) (rest := []) ⟨hx, hb, hml, hown, hts⟩ (k_endChoice l D g ka ad im_18 r L d j hO_20 hR H.size (by first | omega | decide) (by first | omega | decide)) (cwV 0 hts gX2_takeElement_X2_endChoice rfl rfl rfl (by decide +kernel) ⟨(Nat.le_of_ble_eq_true rfl), (Nat.le_of_ble_eq_true rfl)⟩) (x_preV (q := (RX2, TX2, 11)) hH hK (q_obj (lt_nK (by omega)) (kd_expr (t := 0) hj (by decide)) (by decide)) rfl gxb (gxw hE hS (x_F hH hS hA))) rfl rfl hl.1 rfl (lv_room (Nat.le_of_ble_eq_true rfl)) dX2_takeElement_45 ⟨(Nat.le_of_ble_eq_true rfl), (Nat.le_of_ble_eq_true rfl)⟩) hH hS hA rfl rfl (fun im_26 H locs hw_25 hH hS => ?_)
        have hH : sj_H D A (hwc g ka im_26 r L d) H := hH
        obtain ⟨hO_28, hfr_27, he_29, hx2_30⟩ := hw_25
        have hm_31 := hx2_30 hm_23 (by omega)
        refine lv_aload_n hx hb dX2_takeElement_48 rfl (lv_at hl 1 rfl) ?_
        refine lv_bipush (v := 47) hx hb dX2_takeElement_49 (by decide) ?_
        have hl_32 : (47 : Int32).toInt = 47 := rfl
        refine x_callv (va_runV (As := [.int 47]) (rest := []) ⟨hx, hb, hml, hown, hts⟩ (k_endElement l D g ka ad im_26 r L d j 47 hO_28 hR H.size (by first | omega | decide) (by first | omega | decide) (by first | omega | decide) (by first | omega | decide)) (cwV 1 hts gX2_takeElement_X2_endElement rfl rfl rfl (by decide +kernel) ⟨(Nat.le_of_ble_eq_true rfl), (Nat.le_of_ble_eq_true rfl)⟩) (x_preV (q := (RX2, TX2, 11)) hH hK (q_obj (lt_nK (by omega)) (kd_expr (t := 0) hj (by decide)) (by decide)) rfl gxb (gxw hE hS (x_F hH hS hA))) rfl rfl hl.1 rfl (lv_room (Nat.le_of_ble_eq_true rfl)) dX2_takeElement_51 ⟨(Nat.le_of_ble_eq_true rfl), (Nat.le_of_ble_eq_true rfl)⟩) hH hS hA rfl rfl (fun im_35 H locs hw_34 hH hS => ?_)
        have hH : sj_H D A (hwc g ka im_35 r L d) H := hH
        obtain ⟨hO_37, hfr_36, he_38, hx2_39⟩ := hw_34
        have hm_40 := hx2_39 hm_31
        refine lv_iload_n hx hb dX2_takeElement_54 rfl (lv_at hl 3 rfl) ?_
        refine lv_iconst (v := 1) hx hb dX2_takeElement_55 (by decide) ?_
        refine lv_iadd hx hb dX2_takeElement_56 ?_
        obtain ⟨z_41, ez_41, hz_41⟩ := s_add (rfl : x.toInt = _) (show (1 : Int32).toInt = 1 from rfl) (by omega) (by omega)
        refine sj_i ez_41 ?_
        exact sj_zret hx hb hr hlocks rfl hS im_35 ⟨hO_37, (fun a ha => ((hfr_36 a (by omega)).trans ((hfr_27 a (by omega)).trans (hfr_19 a (by omega))))), ⟨by omega, Or.inr ⟨by omega, by omega, ⟨by omega, by omega, by omega, by omega, by omega, by omega, hm_40⟩⟩⟩⟩ hH (sj_Knil hK) (Nat.le_of_ble_eq_true rfl) (Nat.le_of_ble_eq_true rfl) dX2_takeElement_57
    · skip
      have h_42 := s_eq (rfl : (i 2 (x.toInt).toNat).toInt = _) (show (40 : Int32).toInt = 40 from rfl) c_5
      refine lv_aload_n hx hb dX2_takeElement_26 rfl (lv_at hl 1 rfl) ?_
      refine lv_aload_n hx hb dX2_takeElement_27 rfl (lv_at hl 2 rfl) ?_
      refine lv_iload_n hx hb dX2_takeElement_28 rfl (lv_at hl 3 rfl) ?_
      refine x_calli (va_runV (As := [.ref (g 1), .int x]) (rest := []) ⟨hx, hb, hml, hown, hts⟩ (k_takeOptional l D g ka ad i r L d j x hO hR s.heap.size (by first | omega | decide) (by first | omega | decide) (by first | omega | decide) (by first | omega | decide) ⟨by omega, by omega, by omega, by omega, by omega, by omega, hT7⟩) (cwV 2 hts gX2_takeElement_X2_takeOptional rfl rfl rfl (by decide +kernel) ⟨(Nat.le_of_ble_eq_true rfl), (Nat.le_of_ble_eq_true rfl)⟩) (x_preV (q := (RX2, TX2, 11)) hH hK (q_obj (lt_nK (by omega)) (kd_expr (t := 0) hj (by decide)) (by decide)) rfl gxb (gxw hE hS (x_F hH hS hA))) rfl rfl hl.1 rfl (lv_room (Nat.le_of_ble_eq_true rfl)) dX2_takeElement_29 ⟨(Nat.le_of_ble_eq_true rfl), (Nat.le_of_ble_eq_true rfl)⟩) hH hS hA rfl rfl (fun r_43 im_45 H locs hw_44 hH hS => ?_)
      have hH : sj_H D A (hwc g ka im_45 r L d) H := hH
      obtain ⟨hO_47, hfr_46, he_48⟩ := hw_44
      exact sj_zret hx hb hr hlocks rfl hS im_45 ⟨hO_47, (fun a ha => (hfr_46 a (by omega))), he_48⟩ hH (sj_Knil hK) (Nat.le_of_ble_eq_true rfl) (Nat.le_of_ble_eq_true rfl) dX2_takeElement_32
  · skip
    have h_49 := s_eq (rfl : (i 2 (x.toInt).toNat).toInt = _) (show (123 : Int32).toInt = 123 from rfl) c_3
    refine lv_aload_n hx hb dX2_takeElement_13 rfl (lv_at hl 1 rfl) ?_
    refine lv_aload_n hx hb dX2_takeElement_14 rfl (lv_at hl 2 rfl) ?_
    refine lv_iload_n hx hb dX2_takeElement_15 rfl (lv_at hl 3 rfl) ?_
    refine x_calli (va_runV (As := [.ref (g 1), .int x]) (rest := []) ⟨hx, hb, hml, hown, hts⟩ (k_takeParam l D g ka ad i r L d j x hO hR s.heap.size (by first | omega | decide) (by first | omega | decide) (by first | omega | decide) (by first | omega | decide) ⟨by omega, by omega, by omega, by omega, by omega, by omega, hT7⟩) (cwV 2 hts gX2_takeElement_X2_takeParameter rfl rfl rfl (by decide +kernel) ⟨(Nat.le_of_ble_eq_true rfl), (Nat.le_of_ble_eq_true rfl)⟩) (x_preV (q := (RX2, TX2, 11)) hH hK (q_obj (lt_nK (by omega)) (kd_expr (t := 0) hj (by decide)) (by decide)) rfl gxb (gxw hE hS (x_F hH hS hA))) rfl rfl hl.1 rfl (lv_room (Nat.le_of_ble_eq_true rfl)) dX2_takeElement_16 ⟨(Nat.le_of_ble_eq_true rfl), (Nat.le_of_ble_eq_true rfl)⟩) hH hS hA rfl rfl (fun r_50 im_52 H locs hw_51 hH hS => ?_)
    have hH : sj_H D A (hwc g ka im_52 r L d) H := hH
    obtain ⟨hO_54, hfr_53, he_55⟩ := hw_51
    exact sj_zret hx hb hr hlocks rfl hS im_52 ⟨hO_54, (fun a ha => (hfr_53 a (by omega))), he_55⟩ hH (sj_Knil hK) (Nat.le_of_ble_eq_true rfl) (Nat.le_of_ble_eq_true rfl) dX2_takeElement_19
set_option maxHeartbeats 2000000 in
set_option maxRecDepth 100000 in
theorem k_take (l : Launch) (D : va_G) (g : Nat → Nat) (ka : Nat → ClassId) (ad : Nat → Nat) (i : Nat → Nat → Int32) (r : Nat → Nat → Nat) (L : Nat → Nat → Int64) (d : Nat → Nat → UInt64) (j : Nat) (hO : OkI i) (hR : RS r) (sz : Nat) (hj : j < 13) (h00 : (i (240 + 9 * j + 2) 0).toInt = 0) : Met l yX2_take wsX2_take ({ frames := 6, cells := 0, slots := 0, locals := 143 }) (va_Pc [.ref (g (240 + 9 * j)), .ref (g 1)] (sj_B D (hwc g ka i r L d) (hT ka) sz (gx ad (va_A (hwc g ka i r L d) sz)))) (sj_Qi (S := (Nat → Nat → Int32)) D (fun v u => OkI u ∧ (∀ a, ¬ (a = 240 + 9 * j ∨ a = 240 + 9 * j + 1 ∨ a = 240 + 9 * j + 2 ∨ a = 240 + 9 * j + 3 ∨ a = 240 + 9 * j + 4 ∨ a = 240 + 9 * j + 8) → u a = i a) ∧ ((0 : Int) ≤ v.toInt ∧ v.toInt ≤ 1) ∧ ((u (240 + 9 * j + 2) 0).toInt = 0 ∧ (v.toInt = 0 ∨ ((cn u j : Int) ≤ 6))) ∧ (v.toInt = 1 → mono u j)) (fun u => hwc g ka u r L d) (fun _ => []) (va_A (hwc g ka i r L d) sz)) 0 0 (va_A (hwc g ka i r L d) sz) := by
  refine x_met (Ex := gx ad) (cc := cX2_take) (maxL := 4) (ret := (some .boolean)) (by decide) rfl (Nat.le_of_ble_eq_true rfl) ?_
  intro p e s m below meth c A ls hx hb hr hml hts hown hlocks hA hS hH hK hE hl
  have hown : s.vm.findClass RX2 = some m.cls := hown
  have in2 : ∀ w ∈ wsX20, w ∈ wsX2_take := (fun _ h => (List.mem_cons_of_mem _ (List.mem_append_left _ (List.mem_append_right _ h))))
  have in3 : ∀ w ∈ wsX30, w ∈ wsX2_take := (fun _ h => (List.mem_cons_of_mem _ (List.mem_append_right _ h)))
  have wd0 := hts (.fieldLink RX2 38 "StoryDesk$Expression" "elements" "I") (List.mem_cons_of_mem _ (List.mem_append_left _ (List.mem_append_left _ (List.mem_append_left _ lm0))))
  have wd1 := hts (.fieldLink RX2 42 "StoryDesk$Expression" "choices" "I") (List.mem_cons_of_mem _ (List.mem_append_left _ (List.mem_append_left _ (List.mem_append_left _ lm1))))
  have wd2 := hts (.fieldLink RX2 15 "StoryDesk$Expression" "choiceStarts" "[I") (List.mem_cons_of_mem _ (List.mem_append_left _ (List.mem_append_left _ (List.mem_append_left _ lm2))))
  have wd3 := hts (.fieldLink RX2 45 "StoryDesk$Expression" "parameters" "I") (List.mem_cons_of_mem _ (List.mem_append_left _ (List.mem_append_left _ (List.mem_append_left _ lm3))))
  have wd4 := hts (.fieldLink RX2 48 "StoryDesk$Letters" "length" "I") (List.mem_cons_of_mem _ (List.mem_append_left _ (List.mem_append_left _ (List.mem_append_left _ lm4))))
  have hl : lv_has ls 4 [(0, .ref (g (240 + 9 * j))), (1, .ref (g 1))] := hl
  have hK : va_K D vwCl (hT ka) s := hK
  refine lv_aload_n hx hb dX2_take_0 rfl (lv_at hl 0 rfl) ?_
  refine lv_iconst (v := 0) hx hb dX2_take_1 (by decide) ?_
  have hO_1 := okp hO (n := (240 + 9 * j)) (k := 5) (v := 0) (by rw [bx_expr0 hj 5]; exact (show (0 : Int) ≤ (0 : Int32).toInt ∧ (0 : Int32).toInt ≤ 60 from ⟨by decide, by decide⟩))
  refine h_puti (ty := .int) (ci := 2) (C := RX2) (F := TX2) (N := 11) hx hb hts in2 tyX2 tyX2_ok nmX2 hown hK hH hS (lt_nK (by omega)) (kd_expr (t := 0) hj (by decide)) (by decide) rfl 5 (by decide) wd0 (fun _ h9 => h9) rfl (by decide +kernel) rfl rfl (by decide) rfl dX2_take_2 (fun H locs hH hS => ?_)
  refine lv_aload_n hx hb dX2_take_5 rfl (lv_at hl 0 rfl) ?_
  refine lv_iconst (v := 0) hx hb dX2_take_6 (by decide) ?_
  have hO_2 := okp hO_1 (n := (240 + 9 * j)) (k := 2) (v := 0) (by rw [bx_expr0 hj 2]; exact (show (0 : Int) ≤ (0 : Int32).toInt ∧ (0 : Int32).toInt ≤ 61 from ⟨by decide, by decide⟩))
  refine h_puti (ty := .int) (ci := 2) (C := RX2) (F := TX2) (N := 11) hx hb hts in2 tyX2 tyX2_ok nmX2 hown hK hH hS (lt_nK (by omega)) (kd_expr (t := 0) hj (by decide)) (by decide) rfl 2 (by decide) wd1 (fun _ h9 => h9) rfl (by decide +kernel) rfl rfl (by decide) rfl dX2_take_7 (fun H locs hH hS => ?_)
  refine lv_aload_n hx hb dX2_take_10 rfl (lv_at hl 0 rfl) ?_
  refine h_getr (ci := 2) (C := RX2) (F := TX2) (N := 11) hx hb hts in2 hown hK hH (lt_nK (by omega)) (kd_expr (t := 0) hj (by decide)) (by decide) rfl 1 (by decide) wd2 (fun _ h9 => h9) (by decide) rfl (t := (240 + 9 * j + 2)) ((hR _ _ (by unfold dyn; simp <;> omega)).trans (sr_expr (by omega) (by omega))) (lt_nK (by omega)) dX2_take_11 ?_
  refine lv_iconst (v := 1) hx hb dX2_take_14 (by decide) ?_
  refine lv_iconst (v := 0) hx hb dX2_take_15 (by decide) ?_
  have hO_3 := okp hO_2 (n := (240 + 9 * j + 2)) (k := 1) (v := 0) (by rw [bx_expr (t := 2) hj (by decide) (by decide) 1]; exact (show (0 : Int) ≤ (0 : Int32).toInt ∧ (0 : Int32).toInt ≤ 60 from ⟨by decide, by decide⟩))
  refine h_iast hx hb hK hH hS (lt_nK (by omega)) (kd_expr (t := 2) hj (by decide)) (s_vin (N := 62) (show (1 : Int32).toInt = 1 from rfl) (ln_expr (t := 2) hj (by decide)) (by omega) (by omega)) dX2_take_16 (fun H locs hH hS => ?_)
  have hH : sj_H D A (hwc g ka (up2 (up2 (up2 i (240 + 9 * j) 5 0) (240 + 9 * j) 2 0) (240 + 9 * j + 2) 1 0) r L d) H := hH
  refine lv_aload_n hx hb dX2_take_17 rfl (lv_at hl 0 rfl) ?_
  refine lv_iconst (v := 0) hx hb dX2_take_18 (by decide) ?_
  have hO_4 := okp hO_3 (n := (240 + 9 * j)) (k := 6) (v := 0) (by rw [bx_expr0 hj 6]; exact (show (0 : Int) ≤ (0 : Int32).toInt ∧ (0 : Int32).toInt ≤ 6 from ⟨by decide, by decide⟩))
  refine h_puti (ty := .int) (ci := 2) (C := RX2) (F := TX2) (N := 11) hx hb hts in2 tyX2 tyX2_ok nmX2 hown hK hH hS (lt_nK (by omega)) (kd_expr (t := 0) hj (by decide)) (by decide) rfl 6 (by decide) wd3 (fun _ h9 => h9) rfl (by decide +kernel) rfl rfl (by decide) rfl dX2_take_19 (fun H locs hH hS => ?_)
  refine lv_aload_n hx hb dX2_take_22 rfl (lv_at hl 1 rfl) ?_
  have bx_5 : (0 : Int) ≤ (i 1 1).toInt ∧ (i 1 1).toInt ≤ 480 := hO 1 1
  refine h_geti (ci := 3) (C := RX3) (F := TX3) (N := 2) hx hb hts in3 hown hK hH (by decide) (rfl : kd 1 = 3) (by decide) rfl 1 (by decide) wd4 (fun _ h9 => h9) (by decide) rfl dX2_take_23 ?_
  refine sj_i (y := (i 1 1)) ((congrFun (up2_n _ _ (by omega)) _).trans ((congrFun (up2_n _ _ (by omega)) _).trans ((congrFun (up2_n _ _ (by omega)) _).trans (congrFun (up2_n _ _ (by omega)) _)))) ?_
  refine lv_iconst (v := 1) hx hb dX2_take_26 (by decide) ?_
  refine lv_icmp_lt (tgt := 39) hx hb dX2_take_27 (by decide) (fun c_6 => ?_) (fun c_6 => ?_)
  · skip
    have h_7 := s_lt (rfl : (i 1 1).toInt = _) (show (1 : Int32).toInt = 1 from rfl) c_6
    refine lv_iconst (v := 0) hx hb dX2_take_39 (by decide) ?_
    have hlv_8 : (0 : Int32).toInt = 0 := rfl
    have hzz : (0 : Int32).toInt = 0 := rfl
    have hf2 : (up2 (up2 (up2 (up2 i (240 + 9 * j) 5 0) (240 + 9 * j) 2 0) (240 + 9 * j + 2) 1 0) (240 + 9 * j) 6 0) (240 + 9 * j) 2 = 0 := ((up2_k _ _ (by decide)).trans ((congrFun (up2_n _ _ (by omega)) _).trans (up2_at _ _ _ _)))
    have hf2i := congrArg Int32.toInt hf2
    have hf5 : (up2 (up2 (up2 (up2 i (240 + 9 * j) 5 0) (240 + 9 * j) 2 0) (240 + 9 * j + 2) 1 0) (240 + 9 * j) 6 0) (240 + 9 * j) 5 = 0 := ((up2_k _ _ (by decide)).trans ((congrFun (up2_n _ _ (by omega)) _).trans ((up2_k _ _ (by decide)).trans (up2_at _ _ _ _))))
    have hf5i := congrArg Int32.toInt hf5
    have hf6 : (up2 (up2 (up2 (up2 i (240 + 9 * j) 5 0) (240 + 9 * j) 2 0) (240 + 9 * j + 2) 1 0) (240 + 9 * j) 6 0) (240 + 9 * j) 6 = 0 := (up2_at _ _ _ _)
    have hf6i := congrArg Int32.toInt hf6
    have hkC : kC (up2 (up2 (up2 (up2 i (240 + 9 * j) 5 0) (240 + 9 * j) 2 0) (240 + 9 * j + 2) 1 0) (240 + 9 * j) 6 0) j = (0 : Int32).toInt := by unfold kC; rw [hf2, show ((0 : Int32).toInt + 1).toNat = 1 by omega]; exact congrArg Int32.toInt (((congrFun (up2_n _ _ (by omega)) _).trans (up2_at _ _ _ _)))
    have hkB : kB (up2 (up2 (up2 (up2 i (240 + 9 * j) 5 0) (240 + 9 * j) 2 0) (240 + 9 * j + 2) 1 0) (240 + 9 * j) 6 0) j = ((i (240 + 9 * j + 2) 0) : Int32).toInt := by unfold kB; rw [hf2, show ((0 : Int32).toInt).toNat = 0 by omega]; exact congrArg Int32.toInt (((congrFun (up2_n _ _ (by omega)) _).trans ((up2_k _ _ (by decide)).trans ((congrFun (up2_n _ _ (by omega)) _).trans (congrFun (up2_n _ _ (by omega)) _)))))
    have hiC : kC i j = (i (240 + 9 * j + 2) ((i (240 + 9 * j) 2).toInt + 1).toNat).toInt := rfl
    have hiB : kB i j = (i (240 + 9 * j + 2) ((i (240 + 9 * j) 2).toInt).toNat).toInt := rfl
    have hf0 : ((up2 (up2 (up2 (up2 i (240 + 9 * j) 5 0) (240 + 9 * j) 2 0) (240 + 9 * j + 2) 1 0) (240 + 9 * j) 6 0) (240 + 9 * j + 2) 0).toInt = ((i (240 + 9 * j + 2) 0) : Int32).toInt := congrArg Int32.toInt (((congrFun (up2_n _ _ (by omega)) _).trans ((up2_k _ _ (by decide)).trans ((congrFun (up2_n _ _ (by omega)) _).trans (congrFun (up2_n _ _ (by omega)) _)))))
    exact sj_zret hx hb hr hlocks (by decide +kernel) hS (up2 (up2 (up2 (up2 i (240 + 9 * j) 5 0) (240 + 9 * j) 2 0) (240 + 9 * j + 2) 1 0) (240 + 9 * j) 6 0) ⟨hO_4, (fun a ha => ((up2_n _ _ (by omega)).trans ((up2_n _ _ (by omega)).trans ((up2_n _ _ (by omega)).trans (up2_n _ _ (by omega)))))), ⟨by decide, by decide⟩, ⟨by omega, Or.inl (by omega)⟩, (fun h => absurd h (by decide))⟩ hH (sj_Knil hK) (Nat.le_of_ble_eq_true rfl) (Nat.le_of_ble_eq_true rfl) dX2_take_40
  · skip
    have h_9 := s_nlt (rfl : (i 1 1).toInt = _) (show (1 : Int32).toInt = 1 from rfl) c_6
    refine lv_aload_n hx hb dX2_take_30 rfl (lv_at hl 1 rfl) ?_
    refine h_geti (ci := 3) (C := RX3) (F := TX3) (N := 2) hx hb hts in3 hown hK hH (by decide) (rfl : kd 1 = 3) (by decide) rfl 1 (by decide) wd4 (fun _ h9 => h9) (by decide) rfl dX2_take_31 ?_
    refine sj_i (y := (i 1 1)) ((congrFun (up2_n _ _ (by omega)) _).trans ((congrFun (up2_n _ _ (by omega)) _).trans ((congrFun (up2_n _ _ (by omega)) _).trans (congrFun (up2_n _ _ (by omega)) _)))) ?_
    refine lv_bipush (v := 60) hx hb dX2_take_34 (by decide) ?_
    refine lv_icmp_le (tgt := 41) hx hb dX2_take_36 (by decide) (fun c_10 => ?_) (fun c_10 => ?_)
    · skip
      have h_11 := s_le (rfl : (i 1 1).toInt = _) (show (60 : Int32).toInt = 60 from rfl) c_10
      refine lv_iconst (v := 0) hx hb dX2_take_41 (by decide) ?_
      refine lv_istore_n (lv' := [(2, .int 0), (0, .ref (g (240 + 9 * j))), (1, .ref (g 1))]) hx hb dX2_take_42 rfl hl (by decide) rfl (fun ls hl => ?_)
      refine lv_iconst (v := 0) hx hb dX2_take_43 (by decide) ?_
      refine lv_istore_n (lv' := [(3, .int 0), (2, .int 0), (0, .ref (g (240 + 9 * j))), (1, .ref (g 1))]) hx hb dX2_take_44 rfl hl (by decide) rfl (fun ls hl => ?_)
      -- loop at 45
      have lp_12 : ∀ (fuel_lp_12 : Nat) (f : Int32) (u : Int32) (j1 : Nat → Nat → Int32) (H : Heap) (locs : List Loc) (ls : Array Slot), (60 - u.toInt).toNat < fuel_lp_12 → (-1 : Int) ≤ f.toInt ∧ f.toInt ≤ 60 → (0 : Int) ≤ u.toInt ∧ u.toInt ≤ 60 → f.toInt ≤ (i 1 1).toInt → f.toInt = -1 ∨ exT j1 j f.toInt → (j1 (240 + 9 * j + 2) 0).toInt = 0 → OkI j1 → (∀ a, ¬ (a = 240 + 9 * j ∨ a = 240 + 9 * j + 1 ∨ a = 240 + 9 * j + 2 ∨ a = 240 + 9 * j + 3 ∨ a = 240 + 9 * j + 4 ∨ a = 240 + 9 * j + 8) → j1 a = (up2 (up2 (up2 (up2 i (240 + 9 * j) 5 0) (240 + 9 * j) 2 0) (240 + 9 * j + 2) 1 0) (240 + 9 * j) 6 0) a) → lv_has ls 4 [(3, .int u), (2, .int f), (0, .ref (g (240 + 9 * j))), (1, .ref (g 1))] → sj_H D A (hwc g ka j1 r L d) H → va_S A s.heap H locs → W p l e (headSpec wsX2_take ({ frames := 6, cells := 0, slots := 0, locals := 143 })).room s m ([.ref (g (240 + 9 * j)), .ref (g 1)] : List Value).toArray below meth c H locs 0 0 (MQ below (sj_Qi (S := (Nat → Nat → Int32)) D (fun v u => OkI u ∧ (∀ a, ¬ (a = 240 + 9 * j ∨ a = 240 + 9 * j + 1 ∨ a = 240 + 9 * j + 2 ∨ a = 240 + 9 * j + 3 ∨ a = 240 + 9 * j + 4 ∨ a = 240 + 9 * j + 8) → u a = i a) ∧ ((0 : Int) ≤ v.toInt ∧ v.toInt ≤ 1) ∧ ((u (240 + 9 * j + 2) 0).toInt = 0 ∧ (v.toInt = 0 ∨ ((cn u j : Int) ≤ 6))) ∧ (v.toInt = 1 → mono u j)) (fun u => hwc g ka u r L d) (fun _ => []) A) ([.ref (g (240 + 9 * j)), .ref (g 1)] : List Value).toArray s 0 0 A) (F0 m 45 ls []) := by
        intro fuel_lp_12
        induction fuel_lp_12 with
        | zero => intros; omega
        | succ fuel_lp_12 ih_lp_12 =>
          intro f u j1 H locs ls hm hr_f hr_u hi_lp_12_0 hi_lp_12_1 hi_lp_12_2 hO_j1 hfr_j1 hl hH hS
          refine lv_iload_n hx hb dX2_take_45 rfl (lv_at hl 0 rfl) ?_
          refine lv_bipush (v := 60) hx hb dX2_take_46 (by decide) ?_
          refine lv_icmp_ge (tgt := 76) hx hb dX2_take_48 (by decide) (fun c_13 => ?_) (fun c_13 => ?_)
          · skip
            have h_14 := s_le (show (60 : Int32).toInt = 60 from rfl) (rfl : u.toInt = _) c_13
            refine lv_iload_n hx hb dX2_take_76 rfl (lv_at hl 1 rfl) ?_
            refine lv_aload_n hx hb dX2_take_77 rfl (lv_at hl 3 rfl) ?_
            refine h_geti (ci := 3) (C := RX3) (F := TX3) (N := 2) hx hb hts in3 hown hK hH (by decide) (rfl : kd 1 = 3) (by decide) rfl 1 (by decide) wd4 (fun _ h9 => h9) (by decide) rfl dX2_take_78 ?_
            refine sj_i (y := (i 1 1)) ((congrFun (hfr_j1 1 (by omega)) _).trans ((congrFun (up2_n _ _ (by omega)) _).trans ((congrFun (up2_n _ _ (by omega)) _).trans ((congrFun (up2_n _ _ (by omega)) _).trans (congrFun (up2_n _ _ (by omega)) _))))) ?_
            refine lv_icmp_ne (tgt := 88) hx hb dX2_take_81 (by decide) (fun c_15 => ?_) (fun c_15 => ?_)
            · skip
              have h_16 := s_ne (rfl : f.toInt = _) (rfl : (i 1 1).toInt = _) c_15
              refine lv_iconst (v := 0) hx hb dX2_take_88 (by decide) ?_
              have hlv_17 : (0 : Int32).toInt = 0 := rfl
              exact sj_zret hx hb hr hlocks (by decide +kernel) hS j1 ⟨hO_j1, (fun a ha => ((hfr_j1 a (by omega)).trans ((up2_n _ _ (by omega)).trans ((up2_n _ _ (by omega)).trans ((up2_n _ _ (by omega)).trans (up2_n _ _ (by omega))))))), ⟨by decide, by decide⟩, ⟨by omega, Or.inl (by omega)⟩, (fun h => absurd h (by decide))⟩ hH (sj_Knil hK) (Nat.le_of_ble_eq_true rfl) (Nat.le_of_ble_eq_true rfl) dX2_take_89
            · skip
              have h_18 := s_eq (rfl : f.toInt = _) (rfl : (i 1 1).toInt = _) c_15
              refine lv_iconst (v := 1) hx hb dX2_take_84 (by decide) ?_
              refine lv_goto (tgt := 89) hx hb dX2_take_85 (by decide) ?_
              have hlv_19 : (1 : Int32).toInt = 1 := rfl
              have h9 := hi_lp_12_1.resolve_left (by omega)
              have h8 := h9.2.2.2.2.1
              have bq : (0 : Int) ≤ (j1 (240 + 9 * j) 6).toInt ∧ (j1 (240 + 9 * j) 6).toInt ≤ 6 := by have h9 := hO_j1 (240 + 9 * j) 6; rw [bx_expr0 hj 6] at h9; exact h9
              exact sj_zret hx hb hr hlocks (by decide +kernel) hS j1 ⟨hO_j1, (fun a ha => ((hfr_j1 a (by omega)).trans ((up2_n _ _ (by omega)).trans ((up2_n _ _ (by omega)).trans ((up2_n _ _ (by omega)).trans (up2_n _ _ (by omega))))))), ⟨by decide, by decide⟩, ⟨by omega, Or.inr (by omega)⟩, (fun _ => h9.2.2.2.2.2.2)⟩ hH (sj_Knil hK) (Nat.le_of_ble_eq_true rfl) (Nat.le_of_ble_eq_true rfl) dX2_take_89
          · skip
            have h_20 := s_nle (show (60 : Int32).toInt = 60 from rfl) (rfl : u.toInt = _) c_13
            refine lv_iload_n hx hb dX2_take_51 rfl (lv_at hl 1 rfl) ?_
            refine lv_if_lt (tgt := 76) hx hb dX2_take_52 (by decide) (fun c_21 => ?_) (fun c_21 => ?_)
            · skip
              have h_22 := s_lt (rfl : f.toInt = _) (show (0 : Int32).toInt = 0 from rfl) c_21
              refine lv_iload_n hx hb dX2_take_76 rfl (lv_at hl 1 rfl) ?_
              refine lv_aload_n hx hb dX2_take_77 rfl (lv_at hl 3 rfl) ?_
              refine h_geti (ci := 3) (C := RX3) (F := TX3) (N := 2) hx hb hts in3 hown hK hH (by decide) (rfl : kd 1 = 3) (by decide) rfl 1 (by decide) wd4 (fun _ h9 => h9) (by decide) rfl dX2_take_78 ?_
              refine sj_i (y := (i 1 1)) ((congrFun (hfr_j1 1 (by omega)) _).trans ((congrFun (up2_n _ _ (by omega)) _).trans ((congrFun (up2_n _ _ (by omega)) _).trans ((congrFun (up2_n _ _ (by omega)) _).trans (congrFun (up2_n _ _ (by omega)) _))))) ?_
              refine lv_icmp_ne (tgt := 88) hx hb dX2_take_81 (by decide) (fun _ => ?_) (fun h => absurd h (p_ne (rfl : f.toInt = _) (rfl : (i 1 1).toInt = _) (by omega)))
              refine lv_iconst (v := 0) hx hb dX2_take_88 (by decide) ?_
              have hlv_23 : (0 : Int32).toInt = 0 := rfl
              exact sj_zret hx hb hr hlocks (by decide +kernel) hS j1 ⟨hO_j1, (fun a ha => ((hfr_j1 a (by omega)).trans ((up2_n _ _ (by omega)).trans ((up2_n _ _ (by omega)).trans ((up2_n _ _ (by omega)).trans (up2_n _ _ (by omega))))))), ⟨by decide, by decide⟩, ⟨by omega, Or.inl (by omega)⟩, (fun h => absurd h (by decide))⟩ hH (sj_Knil hK) (Nat.le_of_ble_eq_true rfl) (Nat.le_of_ble_eq_true rfl) dX2_take_89
            · skip
              have h_24 := s_nlt (rfl : f.toInt = _) (show (0 : Int32).toInt = 0 from rfl) c_21
              refine lv_iload_n hx hb dX2_take_55 rfl (lv_at hl 1 rfl) ?_
              refine lv_aload_n hx hb dX2_take_56 rfl (lv_at hl 3 rfl) ?_
              refine h_geti (ci := 3) (C := RX3) (F := TX3) (N := 2) hx hb hts in3 hown hK hH (by decide) (rfl : kd 1 = 3) (by decide) rfl 1 (by decide) wd4 (fun _ h9 => h9) (by decide) rfl dX2_take_57 ?_
              refine sj_i (y := (i 1 1)) ((congrFun (hfr_j1 1 (by omega)) _).trans ((congrFun (up2_n _ _ (by omega)) _).trans ((congrFun (up2_n _ _ (by omega)) _).trans ((congrFun (up2_n _ _ (by omega)) _).trans (congrFun (up2_n _ _ (by omega)) _))))) ?_
              refine lv_icmp_ge (tgt := 76) hx hb dX2_take_60 (by decide) (fun c_25 => ?_) (fun c_25 => ?_)
              · skip
                have h_26 := s_le (rfl : (i 1 1).toInt = _) (rfl : f.toInt = _) c_25
                refine lv_iload_n hx hb dX2_take_76 rfl (lv_at hl 1 rfl) ?_
                refine lv_aload_n hx hb dX2_take_77 rfl (lv_at hl 3 rfl) ?_
                refine h_geti (ci := 3) (C := RX3) (F := TX3) (N := 2) hx hb hts in3 hown hK hH (by decide) (rfl : kd 1 = 3) (by decide) rfl 1 (by decide) wd4 (fun _ h9 => h9) (by decide) rfl dX2_take_78 ?_
                refine sj_i (y := (i 1 1)) ((congrFun (hfr_j1 1 (by omega)) _).trans ((congrFun (up2_n _ _ (by omega)) _).trans ((congrFun (up2_n _ _ (by omega)) _).trans ((congrFun (up2_n _ _ (by omega)) _).trans (congrFun (up2_n _ _ (by omega)) _))))) ?_
                refine lv_icmp_ne (tgt := 88) hx hb dX2_take_81 (by decide) (fun c_27 => ?_) (fun c_27 => ?_)
                · skip
                  have h_28 := s_ne (rfl : f.toInt = _) (rfl : (i 1 1).toInt = _) c_27
                  refine lv_iconst (v := 0) hx hb dX2_take_88 (by decide) ?_
                  have hlv_29 : (0 : Int32).toInt = 0 := rfl
                  exact sj_zret hx hb hr hlocks (by decide +kernel) hS j1 ⟨hO_j1, (fun a ha => ((hfr_j1 a (by omega)).trans ((up2_n _ _ (by omega)).trans ((up2_n _ _ (by omega)).trans ((up2_n _ _ (by omega)).trans (up2_n _ _ (by omega))))))), ⟨by decide, by decide⟩, ⟨by omega, Or.inl (by omega)⟩, (fun h => absurd h (by decide))⟩ hH (sj_Knil hK) (Nat.le_of_ble_eq_true rfl) (Nat.le_of_ble_eq_true rfl) dX2_take_89
                · skip
                  have h_30 := s_eq (rfl : f.toInt = _) (rfl : (i 1 1).toInt = _) c_27
                  refine lv_iconst (v := 1) hx hb dX2_take_84 (by decide) ?_
                  refine lv_goto (tgt := 89) hx hb dX2_take_85 (by decide) ?_
                  have hlv_31 : (1 : Int32).toInt = 1 := rfl
                  have h9 := hi_lp_12_1.resolve_left (by omega)
                  have h8 := h9.2.2.2.2.1
                  have bq : (0 : Int) ≤ (j1 (240 + 9 * j) 6).toInt ∧ (j1 (240 + 9 * j) 6).toInt ≤ 6 := by have h9 := hO_j1 (240 + 9 * j) 6; rw [bx_expr0 hj 6] at h9; exact h9
                  exact sj_zret hx hb hr hlocks (by decide +kernel) hS j1 ⟨hO_j1, (fun a ha => ((hfr_j1 a (by omega)).trans ((up2_n _ _ (by omega)).trans ((up2_n _ _ (by omega)).trans ((up2_n _ _ (by omega)).trans (up2_n _ _ (by omega))))))), ⟨by decide, by decide⟩, ⟨by omega, Or.inr (by omega)⟩, (fun _ => h9.2.2.2.2.2.2)⟩ hH (sj_Knil hK) (Nat.le_of_ble_eq_true rfl) (Nat.le_of_ble_eq_true rfl) dX2_take_89
              · skip
                have h_32 := s_nle (rfl : (i 1 1).toInt = _) (rfl : f.toInt = _) c_25
                refine lv_aload_n hx hb dX2_take_63 rfl (lv_at hl 2 rfl) ?_
                refine lv_aload_n hx hb dX2_take_64 rfl (lv_at hl 3 rfl) ?_
                refine lv_iload_n hx hb dX2_take_65 rfl (lv_at hl 1 rfl) ?_
                have hwt_33 : (j1 1 1).toInt = ((i 1 1) : Int32).toInt := congrArg Int32.toInt ((congrFun (hfr_j1 1 (by omega)) _).trans ((congrFun (up2_n _ _ (by omega)) _).trans ((congrFun (up2_n _ _ (by omega)) _).trans ((congrFun (up2_n _ _ (by omega)) _).trans (congrFun (up2_n _ _ (by omega)) _)))))
                refine x_calli (va_runV (As := [.ref (g 1), .int f]) (rest := []) ⟨hx, hb, hml, hown, hts⟩ (k_takeElement l D g ka ad j1 r L d j f hO_j1 hR H.size (by first | omega | decide) (by first | omega | decide) (by first | omega | decide) (by first | omega | decide) (hi_lp_12_1.resolve_left (by omega))) (cwV 2 hts gX2_take_X2_takeElement rfl rfl rfl (by decide +kernel) ⟨(Nat.le_of_ble_eq_true rfl), (Nat.le_of_ble_eq_true rfl)⟩) (x_preV (q := (RX2, TX2, 11)) hH hK (q_obj (lt_nK (by omega)) (kd_expr (t := 0) hj (by decide)) (by decide)) rfl gxb (gxw hE hS (x_F hH hS hA))) rfl rfl hl.1 rfl (lv_room (Nat.le_of_ble_eq_true rfl)) dX2_take_66 ⟨(Nat.le_of_ble_eq_true rfl), (Nat.le_of_ble_eq_true rfl)⟩) hH hS hA rfl rfl (fun r_34 im_36 H locs hw_35 hH hS => ?_)
                have hH : sj_H D A (hwc g ka im_36 r L d) H := hH
                obtain ⟨hO_38, hfr_37, he_39⟩ := hw_35
                refine lv_istore_n (lv' := [(2, .int r_34), (3, .int u), (0, .ref (g (240 + 9 * j))), (1, .ref (g 1))]) hx hb dX2_take_69 rfl hl (by decide) rfl (fun ls hl => ?_)
                obtain ⟨z_40, ez_40, hz_40⟩ := s_add (rfl : u.toInt = _) (show (1 : Int32).toInt = 1 from rfl) (by omega) (by omega)
                refine lv_iinc (v := z_40) (lv' := [(3, .int z_40), (2, .int r_34), (0, .ref (g (240 + 9 * j))), (1, .ref (g 1))]) hx hb dX2_take_70 hl (k := 1) rfl ez_40 (by decide) rfl (fun ls hl => ?_)
                refine lv_goto (tgt := 45) hx hb dX2_take_73 (by decide) ?_
                exact ih_lp_12 r_34 z_40 _ _ _ ls (by omega) (by omega) (by omega) (by omega) (he_39.2.imp id (fun h => h.2.2)) (by omega) hO_38 (fun a ha => ((hfr_37 a (by omega)).trans (hfr_j1 a (by omega)))) (lv_sub hl [0, 1, 2, 3] rfl) hH hS
      have hl_41 : (0 : Int32).toInt = 0 := rfl
      have hl_42 : (0 : Int32).toInt = 0 := rfl
      have hzz : (0 : Int32).toInt = 0 := rfl
      have hf2 : (up2 (up2 (up2 (up2 i (240 + 9 * j) 5 0) (240 + 9 * j) 2 0) (240 + 9 * j + 2) 1 0) (240 + 9 * j) 6 0) (240 + 9 * j) 2 = 0 := ((up2_k _ _ (by decide)).trans ((congrFun (up2_n _ _ (by omega)) _).trans (up2_at _ _ _ _)))
      have hf2i := congrArg Int32.toInt hf2
      have hf5 : (up2 (up2 (up2 (up2 i (240 + 9 * j) 5 0) (240 + 9 * j) 2 0) (240 + 9 * j + 2) 1 0) (240 + 9 * j) 6 0) (240 + 9 * j) 5 = 0 := ((up2_k _ _ (by decide)).trans ((congrFun (up2_n _ _ (by omega)) _).trans ((up2_k _ _ (by decide)).trans (up2_at _ _ _ _))))
      have hf5i := congrArg Int32.toInt hf5
      have hf6 : (up2 (up2 (up2 (up2 i (240 + 9 * j) 5 0) (240 + 9 * j) 2 0) (240 + 9 * j + 2) 1 0) (240 + 9 * j) 6 0) (240 + 9 * j) 6 = 0 := (up2_at _ _ _ _)
      have hf6i := congrArg Int32.toInt hf6
      have hkC : kC (up2 (up2 (up2 (up2 i (240 + 9 * j) 5 0) (240 + 9 * j) 2 0) (240 + 9 * j + 2) 1 0) (240 + 9 * j) 6 0) j = (0 : Int32).toInt := by unfold kC; rw [hf2, show ((0 : Int32).toInt + 1).toNat = 1 by omega]; exact congrArg Int32.toInt (((congrFun (up2_n _ _ (by omega)) _).trans (up2_at _ _ _ _)))
      have hkB : kB (up2 (up2 (up2 (up2 i (240 + 9 * j) 5 0) (240 + 9 * j) 2 0) (240 + 9 * j + 2) 1 0) (240 + 9 * j) 6 0) j = ((i (240 + 9 * j + 2) 0) : Int32).toInt := by unfold kB; rw [hf2, show ((0 : Int32).toInt).toNat = 0 by omega]; exact congrArg Int32.toInt (((congrFun (up2_n _ _ (by omega)) _).trans ((up2_k _ _ (by decide)).trans ((congrFun (up2_n _ _ (by omega)) _).trans (congrFun (up2_n _ _ (by omega)) _)))))
      have hiC : kC i j = (i (240 + 9 * j + 2) ((i (240 + 9 * j) 2).toInt + 1).toNat).toInt := rfl
      have hiB : kB i j = (i (240 + 9 * j + 2) ((i (240 + 9 * j) 2).toInt).toNat).toInt := rfl
      have hf0 : ((up2 (up2 (up2 (up2 i (240 + 9 * j) 5 0) (240 + 9 * j) 2 0) (240 + 9 * j + 2) 1 0) (240 + 9 * j) 6 0) (240 + 9 * j + 2) 0).toInt = ((i (240 + 9 * j + 2) 0) : Int32).toInt := congrArg Int32.toInt (((congrFun (up2_n _ _ (by omega)) _).trans ((up2_k _ _ (by decide)).trans ((congrFun (up2_n _ _ (by omega)) _).trans (congrFun (up2_n _ _ (by omega)) _)))))
      have hz0 : cn (up2 (up2 (up2 (up2 i (240 + 9 * j) 5 0) (240 + 9 * j) 2 0) (240 + 9 * j + 2) 1 0) (240 + 9 * j) 6 0) j = 0 := by unfold cn; rw [hf5]; rfl
      exact lp_12 _ 0 0 _ _ _ ls (Nat.lt_succ_self _) (by omega) (by omega) (by omega) (Or.inr ⟨by omega, by omega, by omega, by omega, by omega, by omega, ⟨fun c hc => by omega, fun e h1 h2 => by omega⟩⟩) (by omega) hO_4 (fun a ha => rfl) (lv_sub hl [0, 1, 2, 3] rfl) hH hS
    · skip
      have h_43 := s_nle (rfl : (i 1 1).toInt = _) (show (60 : Int32).toInt = 60 from rfl) c_10
      refine lv_iconst (v := 0) hx hb dX2_take_39 (by decide) ?_
      have hlv_44 : (0 : Int32).toInt = 0 := rfl
      have hzz : (0 : Int32).toInt = 0 := rfl
      have hf2 : (up2 (up2 (up2 (up2 i (240 + 9 * j) 5 0) (240 + 9 * j) 2 0) (240 + 9 * j + 2) 1 0) (240 + 9 * j) 6 0) (240 + 9 * j) 2 = 0 := ((up2_k _ _ (by decide)).trans ((congrFun (up2_n _ _ (by omega)) _).trans (up2_at _ _ _ _)))
      have hf2i := congrArg Int32.toInt hf2
      have hf5 : (up2 (up2 (up2 (up2 i (240 + 9 * j) 5 0) (240 + 9 * j) 2 0) (240 + 9 * j + 2) 1 0) (240 + 9 * j) 6 0) (240 + 9 * j) 5 = 0 := ((up2_k _ _ (by decide)).trans ((congrFun (up2_n _ _ (by omega)) _).trans ((up2_k _ _ (by decide)).trans (up2_at _ _ _ _))))
      have hf5i := congrArg Int32.toInt hf5
      have hf6 : (up2 (up2 (up2 (up2 i (240 + 9 * j) 5 0) (240 + 9 * j) 2 0) (240 + 9 * j + 2) 1 0) (240 + 9 * j) 6 0) (240 + 9 * j) 6 = 0 := (up2_at _ _ _ _)
      have hf6i := congrArg Int32.toInt hf6
      have hkC : kC (up2 (up2 (up2 (up2 i (240 + 9 * j) 5 0) (240 + 9 * j) 2 0) (240 + 9 * j + 2) 1 0) (240 + 9 * j) 6 0) j = (0 : Int32).toInt := by unfold kC; rw [hf2, show ((0 : Int32).toInt + 1).toNat = 1 by omega]; exact congrArg Int32.toInt (((congrFun (up2_n _ _ (by omega)) _).trans (up2_at _ _ _ _)))
      have hkB : kB (up2 (up2 (up2 (up2 i (240 + 9 * j) 5 0) (240 + 9 * j) 2 0) (240 + 9 * j + 2) 1 0) (240 + 9 * j) 6 0) j = ((i (240 + 9 * j + 2) 0) : Int32).toInt := by unfold kB; rw [hf2, show ((0 : Int32).toInt).toNat = 0 by omega]; exact congrArg Int32.toInt (((congrFun (up2_n _ _ (by omega)) _).trans ((up2_k _ _ (by decide)).trans ((congrFun (up2_n _ _ (by omega)) _).trans (congrFun (up2_n _ _ (by omega)) _)))))
      have hiC : kC i j = (i (240 + 9 * j + 2) ((i (240 + 9 * j) 2).toInt + 1).toNat).toInt := rfl
      have hiB : kB i j = (i (240 + 9 * j + 2) ((i (240 + 9 * j) 2).toInt).toNat).toInt := rfl
      have hf0 : ((up2 (up2 (up2 (up2 i (240 + 9 * j) 5 0) (240 + 9 * j) 2 0) (240 + 9 * j + 2) 1 0) (240 + 9 * j) 6 0) (240 + 9 * j + 2) 0).toInt = ((i (240 + 9 * j + 2) 0) : Int32).toInt := congrArg Int32.toInt (((congrFun (up2_n _ _ (by omega)) _).trans ((up2_k _ _ (by decide)).trans ((congrFun (up2_n _ _ (by omega)) _).trans (congrFun (up2_n _ _ (by omega)) _)))))
      exact sj_zret hx hb hr hlocks (by decide +kernel) hS (up2 (up2 (up2 (up2 i (240 + 9 * j) 5 0) (240 + 9 * j) 2 0) (240 + 9 * j + 2) 1 0) (240 + 9 * j) 6 0) ⟨hO_4, (fun a ha => ((up2_n _ _ (by omega)).trans ((up2_n _ _ (by omega)).trans ((up2_n _ _ (by omega)).trans (up2_n _ _ (by omega)))))), ⟨by decide, by decide⟩, ⟨by omega, Or.inl (by omega)⟩, (fun h => absurd h (by decide))⟩ hH (sj_Knil hK) (Nat.le_of_ble_eq_true rfl) (Nat.le_of_ble_eq_true rfl) dX2_take_40
