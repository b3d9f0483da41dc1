/-- how many steps an owner has; how many a case has -/
def mst (i : Nat → Nat → Int32) (w : Int) : Int := (cnt (i 386) w (i 36 17).toInt.toNat : Int)
def mbg (i : Nat → Nat → Int32) (s : Nat) : Int := if (i 385 s).toInt = 0 then 0 else mst i (20 + (i 385 s).toInt)
def mcs (i : Nat → Nat → Int32) (c : Nat) : Int := if mst i (i 397 c).toInt = 0 then 0 else mst i (i 397 c).toInt + mst i 20 + mbg i (i 397 c).toInt.toNat
theorem mst_0 (i : Nat → Nat → Int32) (w : Int) : 0 ≤ mst i w := Int.natCast_nonneg _
theorem mbg_or (i : Nat → Nat → Int32) (s : Nat) : ((i 385 s).toInt = 0 ∧ mbg i s = 0) ∨ ((i 385 s).toInt ≠ 0 ∧ mbg i s = mst i (20 + (i 385 s).toInt)) := by
  unfold mbg
  by_cases h : (i 385 s).toInt = 0
  · rw [if_pos h]; exact Or.inl ⟨h, rfl⟩
  · rw [if_neg h]; exact Or.inr ⟨h, rfl⟩
theorem mcs_or (i : Nat → Nat → Int32) (c : Nat) : (mst i (i 397 c).toInt = 0 ∧ mcs i c = 0) ∨ (mst i (i 397 c).toInt ≠ 0 ∧ mcs i c = mst i (i 397 c).toInt + mst i 20 + mbg i (i 397 c).toInt.toNat) := by
  unfold mcs
  by_cases h : mst i (i 397 c).toInt = 0
  · rw [if_pos h]; exact Or.inl ⟨h, rfl⟩
  · rw [if_neg h]; exact Or.inr ⟨h, rfl⟩
theorem mst_sum {i : Nat → Nat → Int32} {s g : Int} (h0 : 0 ≤ s ∧ s < 20) (h1 : 0 ≤ g ∧ g < 20) (hn : 0 ≤ (i 36 17).toInt) (hg : g ≠ 0) : mst i s + mst i 20 + mst i (20 + g) ≤ (i 36 17).toInt := by
  unfold mst
  have := cnt_three (i 386) (w := s) (v := 20) (u := 20 + g) (by omega) (by omega) (by omega) (i 36 17).toInt.toNat
  omega
theorem mst_two {i : Nat → Nat → Int32} {s : Int} (h0 : 0 ≤ s ∧ s < 20) (hn : 0 ≤ (i 36 17).toInt) : mst i s + mst i 20 ≤ (i 36 17).toInt := by
  unfold mst
  have := cnt_two (i 386) (w := s) (v := 20) (by omega) (i 36 17).toInt.toNat
  omega
theorem mcs_r {i : Nat → Nat → Int32} (hO : OkI i) (c : Nat) : 0 ≤ mcs i c ∧ mcs i c ≤ 30 := by
  have h17 : (0 : Int) ≤ (i 36 17).toInt ∧ (i 36 17).toInt ≤ 30 := hO 36 17
  have h397 : (0 : Int) ≤ (i 397 c).toInt ∧ (i 397 c).toInt ≤ 11 := hO 397 c
  have h385 : (0 : Int) ≤ (i 385 (i 397 c).toInt.toNat).toInt ∧ (i 385 (i 397 c).toInt.toNat).toInt ≤ 4 := hO 385 _
  have a1 := mst_0 i (i 397 c).toInt
  have a2 := mst_0 i 20
  rcases mcs_or i c with ⟨_, h⟩ | ⟨_, h⟩
  · rw [h]; decide
  · rw [h]
    rcases mbg_or i (i 397 c).toInt.toNat with ⟨_, h2⟩ | ⟨h3, h2⟩
    · have := mst_two (i := i) (s := (i 397 c).toInt) (by omega) h17.1; omega
    · have a3 := mst_0 i (20 + (i 385 (i 397 c).toInt.toNat).toInt)
      have := mst_sum (i := i) (s := (i 397 c).toInt) (g := (i 385 (i 397 c).toInt.toNat).toInt) (by omega) (by omega) h17.1 h3; omega
theorem cnt_find {f : Nat → Int32} {w : Int} {n : Nat} {v z : Int} (h : (v = -1 ∧ (cnt f w n : Int) ≤ z) ∨ (0 ≤ v ∧ v < (n : Int) ∧ (f v.toNat).toInt = w ∧ (cnt f w v.toNat : Int) = z)) (hz : z < (cnt f w n : Int)) : 0 ≤ v ∧ v < (n : Int) ∧ (f v.toNat).toInt = w ∧ (cnt f w v.toNat : Int) = z := by
  rcases h with ⟨_, h⟩ | ⟨h1, h2, h3, h4⟩
  · omega
  · exact ⟨h1, h2, h3, h4⟩
/-- which of all steps a step of a case is -/
def fdR (i : Nat → Nat → Int32) (w z s : Int) : Prop := 0 ≤ s ∧ s < (i 36 17).toInt ∧ (i 386 s.toNat).toInt = w ∧ (cnt (i 386) w s.toNat : Int) = z
theorem fdR_u {i : Nat → Nat → Int32} {w z s t : Int} (h : fdR i w z s) (g : fdR i w z t) : s = t := by
  obtain ⟨h0, _, h1, h2⟩ := h
  obtain ⟨g0, _, g1, g2⟩ := g
  rcases Int.lt_trichotomy s t with q | q | q
  · exfalso
    have a1 := cnt_or (i 386) w s.toNat
    have a2 := cnt_up (i 386) w (a := s.toNat + 1) (b := t.toNat) (by omega)
    omega
  · exact q
  · exfalso
    have a1 := cnt_or (i 386) w t.toNat
    have a2 := cnt_up (i 386) w (a := t.toNat + 1) (b := s.toNat) (by omega)
    omega
def stR (i : Nat → Nat → Int32) (c : Nat) (k s : Int) : Prop := (k < mst i 20 ∧ fdR i 20 k s) ∨ (mst i 20 ≤ k ∧ k < mst i 20 + mbg i (i 397 c).toInt.toNat ∧ fdR i (20 + (i 385 (i 397 c).toInt.toNat).toInt) (k - mst i 20) s) ∨ (mst i 20 ≤ k ∧ mst i 20 + mbg i (i 397 c).toInt.toNat ≤ k ∧ fdR i (i 397 c).toInt (k - mst i 20 - mbg i (i 397 c).toInt.toNat) s)
theorem stR_u {i : Nat → Nat → Int32} {c : Nat} {k s t : Int} (h : stR i c k s) (g : stR i c k t) : s = t := by
  rcases h with ⟨h1, h⟩ | ⟨h1, h2, h⟩ | ⟨h1, h2, h⟩ <;> rcases g with ⟨g1, g⟩ | ⟨g1, g2, g⟩ | ⟨g1, g2, g⟩
  · exact fdR_u h g
  · omega
  · omega
  · omega
  · exact fdR_u h g
  · omega
  · omega
  · omega
  · exact fdR_u h g
theorem dX12_stepsOf_0 : decode cX12_stepsOf 0 = .ok (.aload_n 0, 1) := by decide +kernel
theorem dX12_stepsOf_1 : decode cX12_stepsOf 1 = .ok (.getfield 102, 3) := by decide +kernel
theorem dX12_stepsOf_4 : decode cX12_stepsOf 4 = .ok (.aload_n 0, 1) := by decide +kernel
theorem dX12_stepsOf_5 : decode cX12_stepsOf 5 = .ok (.getfield 99, 3) := by decide +kernel
theorem dX12_stepsOf_8 : decode cX12_stepsOf 8 = .ok (.iload_n 1, 1) := by decide +kernel
theorem dX12_stepsOf_9 : decode cX12_stepsOf 9 = .ok (.invokestatic 214, 3) := by decide +kernel
theorem dX12_stepsOf_12 : decode cX12_stepsOf 12 = .ok (.ireturn, 1) := by decide +kernel
theorem dX12_caseSteps_0 : decode cX12_caseSteps 0 = .ok (.aload_n 0, 1) := by decide +kernel
theorem dX12_caseSteps_1 : decode cX12_caseSteps 1 = .ok (.getfield 195, 3) := by decide +kernel
theorem dX12_caseSteps_4 : decode cX12_caseSteps 4 = .ok (.iload_n 1, 1) := by decide +kernel
theorem dX12_caseSteps_5 : decode cX12_caseSteps 5 = .ok (.iaload, 1) := by decide +kernel
theorem dX12_caseSteps_6 : decode cX12_caseSteps 6 = .ok (.istore_n 2, 1) := by decide +kernel
theorem dX12_caseSteps_7 : decode cX12_caseSteps 7 = .ok (.aload_n 0, 1) := by decide +kernel
theorem dX12_caseSteps_8 : decode cX12_caseSteps 8 = .ok (.iload_n 2, 1) := by decide +kernel
theorem dX12_caseSteps_9 : decode cX12_caseSteps 9 = .ok (.invokevirtual 218, 3) := by decide +kernel
theorem dX12_caseSteps_12 : decode cX12_caseSteps 12 = .ok (.istore_n 3, 1) := by decide +kernel
theorem dX12_caseSteps_13 : decode cX12_caseSteps 13 = .ok (.aload_n 0, 1) := by decide +kernel
theorem dX12_caseSteps_14 : decode cX12_caseSteps 14 = .ok (.getfield 135, 3) := by decide +kernel
theorem dX12_caseSteps_17 : decode cX12_caseSteps 17 = .ok (.iload_n 2, 1) := by decide +kernel
theorem dX12_caseSteps_18 : decode cX12_caseSteps 18 = .ok (.iaload, 1) := by decide +kernel
theorem dX12_caseSteps_19 : decode cX12_caseSteps 19 = .ok (.istore 4, 2) := by decide +kernel
theorem dX12_caseSteps_21 : decode cX12_caseSteps 21 = .ok (.iload_n 3, 1) := by decide +kernel
theorem dX12_caseSteps_22 : decode cX12_caseSteps 22 = .ok (.ifCond .ne 7, 3) := by decide +kernel
theorem dX12_caseSteps_29 : decode cX12_caseSteps 29 = .ok (.iload_n 3, 1) := by decide +kernel
theorem dX12_caseSteps_30 : decode cX12_caseSteps 30 = .ok (.aload_n 0, 1) := by decide +kernel
theorem dX12_caseSteps_31 : decode cX12_caseSteps 31 = .ok (.bipush 20, 2) := by decide +kernel
theorem dX12_caseSteps_33 : decode cX12_caseSteps 33 = .ok (.invokevirtual 218, 3) := by decide +kernel
theorem dX12_caseSteps_36 : decode cX12_caseSteps 36 = .ok (.iadd, 1) := by decide +kernel
theorem dX12_caseSteps_37 : decode cX12_caseSteps 37 = .ok (.iload 4, 2) := by decide +kernel
theorem dX12_caseSteps_39 : decode cX12_caseSteps 39 = .ok (.ifCond .ne 7, 3) := by decide +kernel
theorem dX12_caseSteps_46 : decode cX12_caseSteps 46 = .ok (.aload_n 0, 1) := by decide +kernel
theorem dX12_caseSteps_47 : decode cX12_caseSteps 47 = .ok (.bipush 20, 2) := by decide +kernel
theorem dX12_caseSteps_49 : decode cX12_caseSteps 49 = .ok (.iload 4, 2) := by decide +kernel
theorem dX12_caseSteps_51 : decode cX12_caseSteps 51 = .ok (.iadd, 1) := by decide +kernel
theorem dX12_caseSteps_52 : decode cX12_caseSteps 52 = .ok (.invokevirtual 218, 3) := by decide +kernel
theorem dX12_caseSteps_55 : decode cX12_caseSteps 55 = .ok (.iadd, 1) := by decide +kernel
theorem dX12_caseSteps_56 : decode cX12_caseSteps 56 = .ok (.ireturn, 1) := by decide +kernel
theorem dX12_caseSteps_42 : decode cX12_caseSteps 42 = .ok (.iconst 0, 1) := by decide +kernel
theorem dX12_caseSteps_43 : decode cX12_caseSteps 43 = .ok (.goto 12, 3) := by decide +kernel
theorem dX12_caseSteps_25 : decode cX12_caseSteps 25 = .ok (.iconst 0, 1) := by decide +kernel
theorem dX12_caseSteps_26 : decode cX12_caseSteps 26 = .ok (.goto 30, 3) := by decide +kernel
theorem dX12_stepAt_0 : decode cX12_stepAt 0 = .ok (.aload_n 0, 1) := by decide +kernel
theorem dX12_stepAt_1 : decode cX12_stepAt 1 = .ok (.getfield 102, 3) := by decide +kernel
theorem dX12_stepAt_4 : decode cX12_stepAt 4 = .ok (.aload_n 0, 1) := by decide +kernel
theorem dX12_stepAt_5 : decode cX12_stepAt 5 = .ok (.getfield 99, 3) := by decide +kernel
theorem dX12_stepAt_8 : decode cX12_stepAt 8 = .ok (.iload_n 1, 1) := by decide +kernel
theorem dX12_stepAt_9 : decode cX12_stepAt 9 = .ok (.iload_n 2, 1) := by decide +kernel
theorem dX12_stepAt_10 : decode cX12_stepAt 10 = .ok (.invokestatic 73, 3) := by decide +kernel
theorem dX12_stepAt_13 : decode cX12_stepAt 13 = .ok (.ireturn, 1) := by decide +kernel
theorem dX12_caseStep_0 : decode cX12_caseStep 0 = .ok (.aload_n 0, 1) := by decide +kernel
theorem dX12_caseStep_1 : decode cX12_caseStep 1 = .ok (.getfield 195, 3) := by decide +kernel
theorem dX12_caseStep_4 : decode cX12_caseStep 4 = .ok (.iload_n 1, 1) := by decide +kernel
theorem dX12_caseStep_5 : decode cX12_caseStep 5 = .ok (.iaload, 1) := by decide +kernel
theorem dX12_caseStep_6 : decode cX12_caseStep 6 = .ok (.istore_n 3, 1) := by decide +kernel
theorem dX12_caseStep_7 : decode cX12_caseStep 7 = .ok (.aload_n 0, 1) := by decide +kernel
theorem dX12_caseStep_8 : decode cX12_caseStep 8 = .ok (.bipush 20, 2) := by decide +kernel
theorem dX12_caseStep_10 : decode cX12_caseStep 10 = .ok (.invokevirtual 218, 3) := by decide +kernel
theorem dX12_caseStep_13 : decode cX12_caseStep 13 = .ok (.istore 4, 2) := by decide +kernel
theorem dX12_caseStep_15 : decode cX12_caseStep 15 = .ok (.aload_n 0, 1) := by decide +kernel
theorem dX12_caseStep_16 : decode cX12_caseStep 16 = .ok (.getfield 135, 3) := by decide +kernel
theorem dX12_caseStep_19 : decode cX12_caseStep 19 = .ok (.iload_n 3, 1) := by decide +kernel
theorem dX12_caseStep_20 : decode cX12_caseStep 20 = .ok (.iaload, 1) := by decide +kernel
theorem dX12_caseStep_21 : decode cX12_caseStep 21 = .ok (.ifCond .ne 7, 3) := by decide +kernel
theorem dX12_caseStep_28 : decode cX12_caseStep 28 = .ok (.aload_n 0, 1) := by decide +kernel
theorem dX12_caseStep_29 : decode cX12_caseStep 29 = .ok (.bipush 20, 2) := by decide +kernel
theorem dX12_caseStep_31 : decode cX12_caseStep 31 = .ok (.aload_n 0, 1) := by decide +kernel
theorem dX12_caseStep_32 : decode cX12_caseStep 32 = .ok (.getfield 135, 3) := by decide +kernel
theorem dX12_caseStep_35 : decode cX12_caseStep 35 = .ok (.iload_n 3, 1) := by decide +kernel
theorem dX12_caseStep_36 : decode cX12_caseStep 36 = .ok (.iaload, 1) := by decide +kernel
theorem dX12_caseStep_37 : decode cX12_caseStep 37 = .ok (.iadd, 1) := by decide +kernel
theorem dX12_caseStep_38 : decode cX12_caseStep 38 = .ok (.invokevirtual 218, 3) := by decide +kernel
theorem dX12_caseStep_41 : decode cX12_caseStep 41 = .ok (.istore 5, 2) := by decide +kernel
theorem dX12_caseStep_43 : decode cX12_caseStep 43 = .ok (.iload_n 2, 1) := by decide +kernel
theorem dX12_caseStep_44 : decode cX12_caseStep 44 = .ok (.iload 4, 2) := by decide +kernel
theorem dX12_caseStep_46 : decode cX12_caseStep 46 = .ok (.if_icmp .ge 11, 3) := by decide +kernel
theorem dX12_caseStep_57 : decode cX12_caseStep 57 = .ok (.iload_n 2, 1) := by decide +kernel
theorem dX12_caseStep_58 : decode cX12_caseStep 58 = .ok (.iload 4, 2) := by decide +kernel
theorem dX12_caseStep_60 : decode cX12_caseStep 60 = .ok (.iload 5, 2) := by decide +kernel
theorem dX12_caseStep_62 : decode cX12_caseStep 62 = .ok (.iadd, 1) := by decide +kernel
theorem dX12_caseStep_63 : decode cX12_caseStep 63 = .ok (.if_icmp .ge 23, 3) := by decide +kernel
theorem dX12_caseStep_86 : decode cX12_caseStep 86 = .ok (.aload_n 0, 1) := by decide +kernel
theorem dX12_caseStep_87 : decode cX12_caseStep 87 = .ok (.iload_n 3, 1) := by decide +kernel
theorem dX12_caseStep_88 : decode cX12_caseStep 88 = .ok (.iload_n 2, 1) := by decide +kernel
theorem dX12_caseStep_89 : decode cX12_caseStep 89 = .ok (.iload 4, 2) := by decide +kernel
theorem dX12_caseStep_91 : decode cX12_caseStep 91 = .ok (.isub, 1) := by decide +kernel
theorem dX12_caseStep_92 : decode cX12_caseStep 92 = .ok (.iload 5, 2) := by decide +kernel
theorem dX12_caseStep_94 : decode cX12_caseStep 94 = .ok (.isub, 1) := by decide +kernel
theorem dX12_caseStep_95 : decode cX12_caseStep 95 = .ok (.invokevirtual 221, 3) := by decide +kernel
theorem dX12_caseStep_98 : decode cX12_caseStep 98 = .ok (.ireturn, 1) := by decide +kernel
theorem dX12_caseStep_66 : decode cX12_caseStep 66 = .ok (.aload_n 0, 1) := by decide +kernel
theorem dX12_caseStep_67 : decode cX12_caseStep 67 = .ok (.bipush 20, 2) := by decide +kernel
theorem dX12_caseStep_69 : decode cX12_caseStep 69 = .ok (.aload_n 0, 1) := by decide +kernel
theorem dX12_caseStep_70 : decode cX12_caseStep 70 = .ok (.getfield 135, 3) := by decide +kernel
theorem dX12_caseStep_73 : decode cX12_caseStep 73 = .ok (.iload_n 3, 1) := by decide +kernel
theorem dX12_caseStep_74 : decode cX12_caseStep 74 = .ok (.iaload, 1) := by decide +kernel
theorem dX12_caseStep_75 : decode cX12_caseStep 75 = .ok (.iadd, 1) := by decide +kernel
theorem dX12_caseStep_76 : decode cX12_caseStep 76 = .ok (.iload_n 2, 1) := by decide +kernel
theorem dX12_caseStep_77 : decode cX12_caseStep 77 = .ok (.iload 4, 2) := by decide +kernel
theorem dX12_caseStep_79 : decode cX12_caseStep 79 = .ok (.isub, 1) := by decide +kernel
theorem dX12_caseStep_80 : decode cX12_caseStep 80 = .ok (.invokevirtual 221, 3) := by decide +kernel
theorem dX12_caseStep_83 : decode cX12_caseStep 83 = .ok (.goto 15, 3) := by decide +kernel
theorem dX12_caseStep_49 : decode cX12_caseStep 49 = .ok (.aload_n 0, 1) := by decide +kernel
theorem dX12_caseStep_50 : decode cX12_caseStep 50 = .ok (.bipush 20, 2) := by decide +kernel
theorem dX12_caseStep_52 : decode cX12_caseStep 52 = .ok (.iload_n 2, 1) := by decide +kernel
theorem dX12_caseStep_53 : decode cX12_caseStep 53 = .ok (.invokevirtual 221, 3) := by decide +kernel
theorem dX12_caseStep_56 : decode cX12_caseStep 56 = .ok (.ireturn, 1) := by decide +kernel
theorem dX12_caseStep_24 : decode cX12_caseStep 24 = .ok (.iconst 0, 1) := by decide +kernel
theorem dX12_caseStep_25 : decode cX12_caseStep 25 = .ok (.goto 16, 3) := by decide +kernel
theorem gw_X12_count : wsX12_count.all goodWord = true := by decide +kernel
theorem gX12_stepsOf_X12_count : GoodIn wsX12_stepsOf (va_wsS RX12 214 yX12_count wsX12_count) := goodIn_app (goodIn_sub (List.forall_mem_cons.mpr ⟨(List.mem_cons_of_mem _ (List.mem_append_left _ lm2)), List.forall_mem_cons.mpr ⟨(List.mem_cons_of_mem _ (List.mem_append_left _ lm3)), List.forall_mem_cons.mpr ⟨(List.mem_cons_of_mem _ (List.mem_append_left _ lm4)), (fun _ h => absurd h List.not_mem_nil)⟩⟩⟩) (by decide +kernel)) (goodIn_sub (by unfold wsX12_count; exact List.forall_mem_cons.mpr ⟨(List.mem_cons_of_mem _ (List.mem_append_left _ lm5)), (fun _ h => absurd h List.not_mem_nil)⟩) gw_X12_count)
theorem gw_X12_stepsOf : wsX12_stepsOf.all goodWord = true := by decide +kernel
theorem gX12_caseSteps_X12_stepsOf : GoodIn wsX12_caseSteps (wsV RX12 218 RX12 yX12_stepsOf wsX12_stepsOf) := goodIn_app (goodIn_sub (List.forall_mem_cons.mpr ⟨(List.mem_cons_of_mem _ (List.mem_append_left _ lm2)), List.forall_mem_cons.mpr ⟨(List.mem_cons_of_mem _ (List.mem_append_left _ lm3)), List.forall_mem_cons.mpr ⟨(List.mem_cons_of_mem _ (List.mem_append_left _ lm4)), List.forall_mem_cons.mpr ⟨(List.mem_cons_of_mem _ (List.mem_append_left _ lm5)), (fun _ h => absurd h List.not_mem_nil)⟩⟩⟩⟩) (by decide +kernel)) (goodIn_sub (by unfold wsX12_stepsOf; exact List.forall_mem_cons.mpr ⟨(List.mem_cons_of_mem _ (List.mem_append_left _ lm6)), List.forall_mem_append.mpr ⟨List.forall_mem_cons.mpr ⟨(List.mem_cons_of_mem _ (List.mem_append_left _ lm7)), List.forall_mem_cons.mpr ⟨(List.mem_cons_of_mem _ (List.mem_append_left _ lm8)), List.forall_mem_cons.mpr ⟨(List.mem_cons_of_mem _ (List.mem_append_left _ lm9)), List.forall_mem_cons.mpr ⟨(List.mem_cons_of_mem _ (List.mem_append_left _ lm10)), List.forall_mem_cons.mpr ⟨(List.mem_cons_of_mem _ (List.mem_append_left _ lm5)), List.forall_mem_cons.mpr ⟨(List.mem_cons_of_mem _ (List.mem_append_left _ lm11)), (fun _ h => absurd h List.not_mem_nil)⟩⟩⟩⟩⟩⟩, (fun _ h => (List.mem_cons_of_mem _ (List.mem_append_right _ h)))⟩⟩) gw_X12_stepsOf)
theorem gX12_stepAt_X12_find : GoodIn wsX12_stepAt (va_wsS RX12 73 yX12_find wsX12_find) := goodIn_app (goodIn_sub (List.forall_mem_cons.mpr ⟨(List.mem_cons_of_mem _ (List.mem_append_left _ lm2)), List.forall_mem_cons.mpr ⟨(List.mem_cons_of_mem _ (List.mem_append_left _ lm3)), List.forall_mem_cons.mpr ⟨(List.mem_cons_of_mem _ (List.mem_append_left _ lm4)), (fun _ h => absurd h List.not_mem_nil)⟩⟩⟩) (by decide +kernel)) (goodIn_sub (by unfold wsX12_find; exact List.forall_mem_cons.mpr ⟨(List.mem_cons_of_mem _ (List.mem_append_left _ lm5)), (fun _ h => absurd h List.not_mem_nil)⟩) gw_X12_find)
theorem gX12_caseStep_X12_stepsOf : GoodIn wsX12_caseStep (wsV RX12 218 RX12 yX12_stepsOf wsX12_stepsOf) := goodIn_app (goodIn_sub (List.forall_mem_cons.mpr ⟨(List.mem_cons_of_mem _ (List.mem_append_left _ lm2)), List.forall_mem_cons.mpr ⟨(List.mem_cons_of_mem _ (List.mem_append_left _ lm3)), List.forall_mem_cons.mpr ⟨(List.mem_cons_of_mem _ (List.mem_append_left _ lm4)), List.forall_mem_cons.mpr ⟨(List.mem_cons_of_mem _ (List.mem_append_left _ lm5)), (fun _ h => absurd h List.not_mem_nil)⟩⟩⟩⟩) (by decide +kernel)) (goodIn_sub (by unfold wsX12_stepsOf; exact List.forall_mem_cons.mpr ⟨(List.mem_cons_of_mem _ (List.mem_append_left _ lm6)), List.forall_mem_append.mpr ⟨List.forall_mem_cons.mpr ⟨(List.mem_cons_of_mem _ (List.mem_append_left _ lm7)), List.forall_mem_cons.mpr ⟨(List.mem_cons_of_mem _ (List.mem_append_left _ lm8)), List.forall_mem_cons.mpr ⟨(List.mem_cons_of_mem _ (List.mem_append_left _ lm9)), List.forall_mem_cons.mpr ⟨(List.mem_cons_of_mem _ (List.mem_append_left _ lm10)), List.forall_mem_cons.mpr ⟨(List.mem_cons_of_mem _ (List.mem_append_left _ lm5)), List.forall_mem_cons.mpr ⟨(List.mem_cons_of_mem _ (List.mem_append_left _ lm11)), (fun _ h => absurd h List.not_mem_nil)⟩⟩⟩⟩⟩⟩, (fun _ h => (List.mem_cons_of_mem _ (List.mem_append_right _ h)))⟩⟩) gw_X12_stepsOf)
theorem gw_X12_stepAt : wsX12_stepAt.all goodWord = true := by decide +kernel
theorem gX12_caseStep_X12_stepAt : GoodIn wsX12_caseStep (wsV RX12 221 RX12 yX12_stepAt wsX12_stepAt) := goodIn_app (goodIn_sub (List.forall_mem_cons.mpr ⟨(List.mem_cons_of_mem _ (List.mem_append_left _ lm12)), List.forall_mem_cons.mpr ⟨(List.mem_cons_of_mem _ (List.mem_append_left _ lm13)), List.forall_mem_cons.mpr ⟨(List.mem_cons_of_mem _ (List.mem_append_left _ lm14)), List.forall_mem_cons.mpr ⟨(List.mem_cons_of_mem _ (List.mem_append_left _ lm5)), (fun _ h => absurd h List.not_mem_nil)⟩⟩⟩⟩) (by decide +kernel)) (goodIn_sub (by unfold wsX12_stepAt; exact List.forall_mem_cons.mpr ⟨(List.mem_cons_of_mem _ (List.mem_append_left _ lm15)), List.forall_mem_append.mpr ⟨List.forall_mem_cons.mpr ⟨(List.mem_cons_of_mem _ (List.mem_append_left _ lm7)), List.forall_mem_cons.mpr ⟨(List.mem_cons_of_mem _ (List.mem_append_left _ lm8)), List.forall_mem_cons.mpr ⟨(List.mem_cons_of_mem _ (List.mem_append_left _ lm16)), List.forall_mem_cons.mpr ⟨(List.mem_cons_of_mem _ (List.mem_append_left _ lm17)), List.forall_mem_cons.mpr ⟨(List.mem_cons_of_mem _ (List.mem_append_left _ lm5)), List.forall_mem_cons.mpr ⟨(List.mem_cons_of_mem _ (List.mem_append_left _ lm18)), (fun _ h => absurd h List.not_mem_nil)⟩⟩⟩⟩⟩⟩, (fun _ h => (List.mem_cons_of_mem _ (List.mem_append_right _ h)))⟩⟩) gw_X12_stepAt)
set_option maxHeartbeats 2000000 in
set_option maxRecDepth 100000 in
theorem m_stepsOf (l : Launch) (D : va_G) (g : Nat → Nat) (ka : Nat → ClassId) (ad : Nat → Nat) (i : Nat → Nat → Int32) (r : Nat → Nat → Nat) (L : Nat → Nat → Int64) (d : Nat → Nat → UInt64) (x : Int32) (hO : OkI i) (hR : RS r) (sz : Nat)  : Met l yX12_stepsOf wsX12_stepsOf ({ frames := 1, cells := 0, slots := 0, locals := 24 }) (va_Pc [.ref (g 36), .int x] (sj_B D (hwc g ka i r L d) (hT ka) sz (gx ad (va_A (hwc g ka i r L d) sz)))) (sj_Qi (S := Unit) D (fun v u => ((0 : Int) ≤ v.toInt ∧ v.toInt ≤ 30) ∧ (v.toInt = mst i x.toInt)) (fun _ => hwc g ka i r L d) (fun _ => []) (va_A (hwc g ka i r L d) sz)) 0 0 (va_A (hwc g ka i r L d) sz) := by
  refine x_met (Ex := gx ad) (cc := cX12_stepsOf) (maxL := 2) (ret := (some .int)) (by decide) rfl (Nat.le_of_ble_eq_true rfl) ?_
  intro p e s m below meth c A ls hx hb hr hml hts hown hlocks hA hS hH hK hE hl
  have hown : s.vm.findClass RX12 = some m.cls := hown
  have in12 : ∀ w ∈ wsX120, w ∈ wsX12_stepsOf := (fun _ h => (List.mem_cons_of_mem _ (List.mem_append_right _ h)))
  have wd0 := hts (.fieldLink RX12 102 "StoryDeskModel" "stepOwner" "[I") (List.mem_cons_of_mem _ (List.mem_append_left _ lm0))
  have wd1 := hts (.fieldLink RX12 99 "StoryDeskModel" "steps" "I") (List.mem_cons_of_mem _ (List.mem_append_left _ lm1))
  have hl : lv_has ls 2 [(0, .ref (g 36)), (1, .int x)] := hl
  have hK : va_K D vwCl (hT ka) s := hK
  have hg_1 := s_rng x
  have hb17 : (0 : Int) ≤ (i 36 17).toInt ∧ (i 36 17).toInt ≤ 30 := hO 36 17
  refine lv_aload_n hx hb dX12_stepsOf_0 rfl (lv_at hl 0 rfl) ?_
  refine h_getr (ci := 12) (C := RX12) (F := TX12) (N := 86) hx hb hts in12 hown hK hH (by decide) (rfl : kd 36 = 12) (by decide) rfl 19 (by decide) wd0 (fun _ h9 => h9) (by decide) rfl (t := 386) (hR 36 19 rfl) (by decide) dX12_stepsOf_1 ?_
  refine lv_aload_n hx hb dX12_stepsOf_4 rfl (lv_at hl 0 rfl) ?_
  have bx_2 : (0 : Int) ≤ (i 36 17).toInt ∧ (i 36 17).toInt ≤ 30 := hO 36 17
  refine h_geti (ci := 12) (C := RX12) (F := TX12) (N := 86) hx hb hts in12 hown hK hH (by decide) (rfl : kd 36 = 12) (by decide) rfl 17 (by decide) wd1 (fun _ h9 => h9) (by decide) rfl dX12_stepsOf_5 ?_
  refine lv_iload_n hx hb dX12_stepsOf_8 rfl (lv_at hl 1 rfl) ?_
  refine x_calli (va_runS (As := [.ref (g 386), .int (i 36 17), .int x]) (rest := []) ⟨hx, hb, hml, hown, hts⟩ (m_count_steps l D g ka ad i r L d (i 36 17) x hO hR s.heap.size (by first | omega | decide) (by first | omega | decide)) (cwS 3 hts gX12_stepsOf_X12_count rfl rfl rfl (by decide +kernel) ⟨(Nat.le_of_ble_eq_true rfl), (Nat.le_of_ble_eq_true rfl)⟩) (x_preS hH hK gxb (gxw hE hS (x_F hH hS hA))) rfl rfl hl.1 rfl (lv_room (Nat.le_of_ble_eq_true rfl)) dX12_stepsOf_9 ⟨(Nat.le_of_ble_eq_true rfl), (Nat.le_of_ble_eq_true rfl)⟩) hH hS hA rfl rfl (fun r_3 _ H locs hw_4 hH hS => ?_)
  obtain ⟨hr_6, he_7⟩ := hw_4
  have hr_6 : (0 : Int) ≤ r_3.toInt ∧ r_3.toInt ≤ 30 := hr_6
  exact sj_zret hx hb hr hlocks rfl hS () ⟨⟨by omega, by omega⟩, (by unfold mst; omega)⟩ hH (sj_Knil hK) (Nat.le_of_ble_eq_true rfl) (Nat.le_of_ble_eq_true rfl) dX12_stepsOf_12
set_option maxHeartbeats 2000000 in
set_option maxRecDepth 100000 in
theorem m_caseSteps (l : Launch) (D : va_G) (g : Nat → Nat) (ka : Nat → ClassId) (ad : Nat → Nat) (i : Nat → Nat → Int32) (r : Nat → Nat → Nat) (L : Nat → Nat → Int64) (d : Nat → Nat → UInt64) (x : Int32) (hO : OkI i) (hR : RS r) (sz : Nat) (hx0 : 0 ≤ x.toInt) (hx1 : x.toInt ≤ 23) : Met l yX12_caseSteps wsX12_caseSteps ({ frames := 2, cells := 0, slots := 0, locals := 45 }) (va_Pc [.ref (g 36), .int x] (sj_B D (hwc g ka i r L d) (hT ka) sz (gx ad (va_A (hwc g ka i r L d) sz)))) (sj_Qi (S := Unit) D (fun v u => ((0 : Int) ≤ v.toInt ∧ v.toInt ≤ 30) ∧ (v.toInt = mcs i x.toInt.toNat)) (fun _ => hwc g ka i r L d) (fun _ => []) (va_A (hwc g ka i r L d) sz)) 0 0 (va_A (hwc g ka i r L d) sz) := by
  refine x_met (Ex := gx ad) (cc := cX12_caseSteps) (maxL := 5) (ret := (some .int)) (by decide) rfl (Nat.le_of_ble_eq_true rfl) ?_
  intro p e s m below meth c A ls hx hb hr hml hts hown hlocks hA hS hH hK hE hl
  have hown : s.vm.findClass RX12 = some m.cls := hown
  have in12 : ∀ w ∈ wsX120, w ∈ wsX12_caseSteps := (fun _ h => (List.mem_cons_of_mem _ (List.mem_append_right _ h)))
  have wd0 := hts (.fieldLink RX12 195 "StoryDeskModel" "caseScenario" "[I") (List.mem_cons_of_mem _ (List.mem_append_left _ lm0))
  have wd1 := hts (.fieldLink RX12 135 "StoryDeskModel" "scenarioGroup" "[I") (List.mem_cons_of_mem _ (List.mem_append_left _ lm1))
  have hl : lv_has ls 5 [(0, .ref (g 36)), (1, .int x)] := hl
  have hK : va_K D vwCl (hT ka) s := hK
  have hb17 : (0 : Int) ≤ (i 36 17).toInt ∧ (i 36 17).toInt ≤ 30 := hO 36 17
  have h397 : (0 : Int) ≤ (i 397 x.toInt.toNat).toInt ∧ (i 397 x.toInt.toNat).toInt ≤ 11 := hO 397 _
  have h385 : (0 : Int) ≤ (i 385 (i 397 x.toInt.toNat).toInt.toNat).toInt ∧ (i 385 (i 397 x.toInt.toNat).toInt.toNat).toInt ≤ 4 := hO 385 _
  have hmb := mbg_or i (i 397 x.toInt.toNat).toInt.toNat
  have hmc := mcs_or i x.toInt.toNat
  have hmr := mcs_r hO x.toInt.toNat
  have ha1 := mst_0 i (i 397 x.toInt.toNat).toInt
  have ha2 := mst_0 i 20
  have hz20 : (20 : Int32).toInt = 20 := rfl
  refine lv_aload_n hx hb dX12_caseSteps_0 rfl (lv_at hl 0 rfl) ?_
  refine h_getr (ci := 12) (C := RX12) (F := TX12) (N := 86) hx hb hts in12 hown hK hH (by decide) (rfl : kd 36 = 12) (by decide) rfl 34 (by decide) wd0 (fun _ h9 => h9) (by decide) rfl (t := 397) (hR 36 34 rfl) (by decide) dX12_caseSteps_1 ?_
  refine lv_iload_n hx hb dX12_caseSteps_4 rfl (lv_at hl 1 rfl) ?_
  have bx_1 : (0 : Int) ≤ (i 397 (x.toInt).toNat).toInt ∧ (i 397 (x.toInt).toNat).toInt ≤ 11 := hO 397 (x.toInt).toNat
  refine h_iald hx hb hK hH (by decide) (rfl : kd 397 = 13) (s_vin (N := 24) (rfl : x.toInt = _) (rfl : ln 397 = 24) (by omega) (by omega)) dX12_caseSteps_5 ?_
  have ek_2 : x.toNatClampNeg = (x.toInt).toNat := (s_cl (show x.toInt = x.toInt by omega))
  refine sj_i (y := (i 397 (x.toInt).toNat)) (by rw [ek_2]) ?_
  refine lv_istore_n (lv' := [(2, .int (i 397 (x.toInt).toNat)), (0, .ref (g 36)), (1, .int x)]) hx hb dX12_caseSteps_6 rfl hl (by decide) rfl (fun ls hl => ?_)
  refine lv_aload_n hx hb dX12_caseSteps_7 rfl (lv_at hl 1 rfl) ?_
  refine lv_iload_n hx hb dX12_caseSteps_8 rfl (lv_at hl 0 rfl) ?_
  refine x_calli (va_runV (As := [.int (i 397 (x.toInt).toNat)]) (rest := []) ⟨hx, hb, hml, hown, hts⟩ (m_stepsOf l D g ka ad i r L d (i 397 (x.toInt).toNat) hO hR s.heap.size ) (cwV 1 hts gX12_caseSteps_X12_stepsOf rfl rfl rfl (by decide +kernel) ⟨(Nat.le_of_ble_eq_true rfl), (Nat.le_of_ble_eq_true rfl)⟩) (x_preV (q := (RX12, TX12, 86)) hH hK (q_obj (by decide) (rfl : kd 36 = 12) (by decide)) rfl gxb (gxw hE hS (x_F hH hS hA))) rfl rfl hl.1 rfl (lv_room (Nat.le_of_ble_eq_true rfl)) dX12_caseSteps_9 ⟨(Nat.le_of_ble_eq_true rfl), (Nat.le_of_ble_eq_true rfl)⟩) hH hS hA rfl rfl (fun r_3 _ H locs hw_4 hH hS => ?_)
  obtain ⟨hr_6, he_7⟩ := hw_4
  have hr_6 : (0 : Int) ≤ r_3.toInt ∧ r_3.toInt ≤ 30 := hr_6
  refine lv_istore_n (lv' := [(3, .int r_3), (2, .int (i 397 (x.toInt).toNat)), (0, .ref (g 36)), (1, .int x)]) hx hb dX12_caseSteps_12 rfl hl (by decide) rfl (fun ls hl => ?_)
  refine lv_aload_n hx hb dX12_caseSteps_13 rfl (lv_at hl 2 rfl) ?_
  refine h_getr (ci := 12) (C := RX12) (F := TX12) (N := 86) hx hb hts in12 hown hK hH (by decide) (rfl : kd 36 = 12) (by decide) rfl 16 (by decide) wd1 (fun _ h9 => h9) (by decide) rfl (t := 385) (hR 36 16 rfl) (by decide) dX12_caseSteps_14 ?_
  refine lv_iload_n hx hb dX12_caseSteps_17 rfl (lv_at hl 1 rfl) ?_
  have bx_8 : (0 : Int) ≤ (i 385 ((i 397 (x.toInt).toNat).toInt).toNat).toInt ∧ (i 385 ((i 397 (x.toInt).toNat).toInt).toNat).toInt ≤ 4 := hO 385 ((i 397 (x.toInt).toNat).toInt).toNat
  refine h_iald hx hb hK hH (by decide) (rfl : kd 385 = 13) (s_vin (N := 12) (rfl : (i 397 (x.toInt).toNat).toInt = _) (rfl : ln 385 = 12) (by omega) (by omega)) dX12_caseSteps_18 ?_
  have ek_9 : (i 397 (x.toInt).toNat).toNatClampNeg = ((i 397 (x.toInt).toNat).toInt).toNat := (s_cl (show (i 397 (x.toInt).toNat).toInt = (i 397 (x.toInt).toNat).toInt by omega))
  refine sj_i (y := (i 385 ((i 397 (x.toInt).toNat).toInt).toNat)) (by rw [ek_9]) ?_
  refine lv_istore (lv' := [(4, .int (i 385 ((i 397 (x.toInt).toNat).toInt).toNat)), (3, .int r_3), (2, .int (i 397 (x.toInt).toNat)), (0, .ref (g 36)), (1, .int x)]) hx hb dX12_caseSteps_19 hl (by decide) rfl (fun ls hl => ?_)
  refine lv_iload_n hx hb dX12_caseSteps_21 rfl (lv_at hl 1 rfl) ?_
  refine lv_if_ne (tgt := 29) hx hb dX12_caseSteps_22 (by decide) (fun c_10 => ?_) (fun c_10 => ?_)
  · skip
    have h_11 := s_ne (rfl : r_3.toInt = _) (show (0 : Int32).toInt = 0 from rfl) c_10
    refine lv_iload_n hx hb dX12_caseSteps_29 rfl (lv_at hl 1 rfl) ?_
    refine lv_aload_n hx hb dX12_caseSteps_30 rfl (lv_at hl 3 rfl) ?_
    refine lv_bipush (v := 20) hx hb dX12_caseSteps_31 (by decide) ?_
    have hl_12 : (20 : Int32).toInt = 20 := rfl
    refine x_calli (va_runV (As := [.int 20]) (rest := [.int r_3]) ⟨hx, hb, hml, hown, hts⟩ (m_stepsOf l D g ka ad i r L d 20 hO hR H.size ) (cwV 1 hts gX12_caseSteps_X12_stepsOf rfl rfl rfl (by decide +kernel) ⟨(Nat.le_of_ble_eq_true rfl), (Nat.le_of_ble_eq_true rfl)⟩) (x_preV (q := (RX12, TX12, 86)) hH hK (q_obj (by decide) (rfl : kd 36 = 12) (by decide)) rfl gxb (gxw hE hS (x_F hH hS hA))) rfl rfl hl.1 rfl (lv_room (Nat.le_of_ble_eq_true rfl)) dX12_caseSteps_33 ⟨(Nat.le_of_ble_eq_true rfl), (Nat.le_of_ble_eq_true rfl)⟩) hH hS hA rfl rfl (fun r_13 _ H locs hw_14 hH hS => ?_)
    obtain ⟨hr_16, he_17⟩ := hw_14
    have hr_16 : (0 : Int) ≤ r_13.toInt ∧ r_13.toInt ≤ 30 := hr_16
    rw [show (20 : Int32).toInt = 20 from rfl] at he_17
    refine lv_iadd hx hb dX12_caseSteps_36 ?_
    obtain ⟨z_18, ez_18, hz_18⟩ := s_add (rfl : r_3.toInt = _) (rfl : r_13.toInt = _) (by omega) (by omega)
    refine sj_i ez_18 ?_
    refine lv_iload hx hb dX12_caseSteps_37 (lv_at hl 0 rfl) ?_
    refine lv_if_ne (tgt := 46) hx hb dX12_caseSteps_39 (by decide) (fun c_19 => ?_) (fun c_19 => ?_)
    · skip
      have h_20 := s_ne (rfl : (i 385 ((i 397 (x.toInt).toNat).toInt).toNat).toInt = _) (show (0 : Int32).toInt = 0 from rfl) c_19
      refine lv_aload_n hx hb dX12_caseSteps_46 rfl (lv_at hl 3 rfl) ?_
      refine lv_bipush (v := 20) hx hb dX12_caseSteps_47 (by decide) ?_
      refine lv_iload hx hb dX12_caseSteps_49 (lv_at hl 0 rfl) ?_
      refine lv_iadd hx hb dX12_caseSteps_51 ?_
      obtain ⟨z_21, ez_21, hz_21⟩ := s_add (show (20 : Int32).toInt = 20 from rfl) (rfl : (i 385 ((i 397 (x.toInt).toNat).toInt).toNat).toInt = _) (by omega) (by omega)
      refine sj_i ez_21 ?_
      refine x_calli (va_runV (As := [.int z_21]) (rest := [.int z_18]) ⟨hx, hb, hml, hown, hts⟩ (m_stepsOf l D g ka ad i r L d z_21 hO hR H.size ) (cwV 1 hts gX12_caseSteps_X12_stepsOf rfl rfl rfl (by decide +kernel) ⟨(Nat.le_of_ble_eq_true rfl), (Nat.le_of_ble_eq_true rfl)⟩) (x_preV (q := (RX12, TX12, 86)) hH hK (q_obj (by decide) (rfl : kd 36 = 12) (by decide)) rfl gxb (gxw hE hS (x_F hH hS hA))) rfl rfl hl.1 rfl (lv_room (Nat.le_of_ble_eq_true rfl)) dX12_caseSteps_52 ⟨(Nat.le_of_ble_eq_true rfl), (Nat.le_of_ble_eq_true rfl)⟩) hH hS hA rfl rfl (fun r_22 _ H locs hw_23 hH hS => ?_)
      obtain ⟨hr_25, he_26⟩ := hw_23
      have hr_25 : (0 : Int) ≤ r_22.toInt ∧ r_22.toInt ≤ 30 := hr_25
      rw [show z_21.toInt = 20 + (i 385 (i 397 x.toInt.toNat).toInt.toNat).toInt by omega] at he_26
      refine lv_iadd hx hb dX12_caseSteps_55 ?_
      obtain ⟨z_27, ez_27, hz_27⟩ := s_add (rfl : z_18.toInt = _) (rfl : r_22.toInt = _) (by omega) (by omega)
      refine sj_i ez_27 ?_
      exact sj_zret hx hb hr hlocks rfl hS () ⟨⟨by omega, by omega⟩, (by omega)⟩ hH (sj_Knil hK) (Nat.le_of_ble_eq_true rfl) (Nat.le_of_ble_eq_true rfl) dX12_caseSteps_56
    · skip
      have h_28 := s_eq (rfl : (i 385 ((i 397 (x.toInt).toNat).toInt).toNat).toInt = _) (show (0 : Int32).toInt = 0 from rfl) c_19
      refine lv_iconst (v := 0) hx hb dX12_caseSteps_42 (by decide) ?_
      refine lv_goto (tgt := 55) hx hb dX12_caseSteps_43 (by decide) ?_
      refine lv_iadd hx hb dX12_caseSteps_55 ?_
      obtain ⟨z_29, ez_29, hz_29⟩ := s_add (rfl : z_18.toInt = _) (show (0 : Int32).toInt = 0 from rfl) (by omega) (by omega)
      refine sj_i ez_29 ?_
      exact sj_zret hx hb hr hlocks rfl hS () ⟨⟨by omega, by omega⟩, (by omega)⟩ hH (sj_Knil hK) (Nat.le_of_ble_eq_true rfl) (Nat.le_of_ble_eq_true rfl) dX12_caseSteps_56
  · skip
    have h_30 := s_eq (rfl : r_3.toInt = _) (show (0 : Int32).toInt = 0 from rfl) c_10
    refine lv_iconst (v := 0) hx hb dX12_caseSteps_25 (by decide) ?_
    refine lv_goto (tgt := 56) hx hb dX12_caseSteps_26 (by decide) ?_
    have hlv_31 : (0 : Int32).toInt = 0 := rfl
    exact sj_zret hx hb hr hlocks rfl hS () ⟨⟨by decide, by decide⟩, (by omega)⟩ hH (sj_Knil hK) (Nat.le_of_ble_eq_true rfl) (Nat.le_of_ble_eq_true rfl) dX12_caseSteps_56
set_option maxHeartbeats 2000000 in
set_option maxRecDepth 100000 in
theorem m_stepAt (l : Launch) (D : va_G) (g : Nat → Nat) (ka : Nat → ClassId) (ad : Nat → Nat) (i : Nat → Nat → Int32) (r : Nat → Nat → Nat) (L : Nat → Nat → Int64) (d : Nat → Nat → UInt64) (x : Int32) (y : Int32) (hO : OkI i) (hR : RS r) (sz : Nat) (hy0 : 0 ≤ y.toInt) (hym : y.toInt < mst i x.toInt) : Met l yX12_stepAt wsX12_stepAt ({ frames := 1, cells := 0, slots := 0, locals := 25 }) (va_Pc [.ref (g 36), .int x, .int y] (sj_B D (hwc g ka i r L d) (hT ka) sz (gx ad (va_A (hwc g ka i r L d) sz)))) (sj_Qi (S := Unit) D (fun v u => ((0 : Int) ≤ v.toInt ∧ v.toInt ≤ 29) ∧ (v.toInt < (i 36 17).toInt) ∧ (fdR i x.toInt y.toInt v.toInt)) (fun _ => hwc g ka i r L d) (fun _ => []) (va_A (hwc g ka i r L d) sz)) 0 0 (va_A (hwc g ka i r L d) sz) := by
  refine x_met (Ex := gx ad) (cc := cX12_stepAt) (maxL := 3) (ret := (some .int)) (by decide) rfl (Nat.le_of_ble_eq_true rfl) ?_
  intro p e s m below meth c A ls hx hb hr hml hts hown hlocks hA hS hH hK hE hl
  have hown : s.vm.findClass RX12 = some m.cls := hown
  have in12 : ∀ w ∈ wsX120, w ∈ wsX12_stepAt := (fun _ h => (List.mem_cons_of_mem _ (List.mem_append_right _ h)))
  have wd0 := hts (.fieldLink RX12 102 "StoryDeskModel" "stepOwner" "[I") (List.mem_cons_of_mem _ (List.mem_append_left _ lm0))
  have wd1 := hts (.fieldLink RX12 99 "StoryDeskModel" "steps" "I") (List.mem_cons_of_mem _ (List.mem_append_left _ lm1))
  have hl : lv_has ls 3 [(0, .ref (g 36)), (1, .int x), (2, .int y)] := hl
  have hK : va_K D vwCl (hT ka) s := hK
  have hg_1 := s_rng x
  have hb17 : (0 : Int) ≤ (i 36 17).toInt ∧ (i 36 17).toInt ≤ 30 := hO 36 17
  refine lv_aload_n hx hb dX12_stepAt_0 rfl (lv_at hl 0 rfl) ?_
  refine h_getr (ci := 12) (C := RX12) (F := TX12) (N := 86) hx hb hts in12 hown hK hH (by decide) (rfl : kd 36 = 12) (by decide) rfl 19 (by decide) wd0 (fun _ h9 => h9) (by decide) rfl (t := 386) (hR 36 19 rfl) (by decide) dX12_stepAt_1 ?_
  refine lv_aload_n hx hb dX12_stepAt_4 rfl (lv_at hl 0 rfl) ?_
  have bx_2 : (0 : Int) ≤ (i 36 17).toInt ∧ (i 36 17).toInt ≤ 30 := hO 36 17
  refine h_geti (ci := 12) (C := RX12) (F := TX12) (N := 86) hx hb hts in12 hown hK hH (by decide) (rfl : kd 36 = 12) (by decide) rfl 17 (by decide) wd1 (fun _ h9 => h9) (by decide) rfl dX12_stepAt_5 ?_
  refine lv_iload_n hx hb dX12_stepAt_8 rfl (lv_at hl 1 rfl) ?_
  refine lv_iload_n hx hb dX12_stepAt_9 rfl (lv_at hl 2 rfl) ?_
  refine x_calli (va_runS (As := [.ref (g 386), .int (i 36 17), .int x, .int y]) (rest := []) ⟨hx, hb, hml, hown, hts⟩ (m_find_steps l D g ka ad i r L d (i 36 17) x y hO hR s.heap.size (by first | omega | decide) (by first | omega | decide) (by first | omega | decide)) (cwS 4 hts gX12_stepAt_X12_find rfl rfl rfl (by decide +kernel) ⟨(Nat.le_of_ble_eq_true rfl), (Nat.le_of_ble_eq_true rfl)⟩) (x_preS hH hK gxb (gxw hE hS (x_F hH hS hA))) rfl rfl hl.1 rfl (lv_room (Nat.le_of_ble_eq_true rfl)) dX12_stepAt_10 ⟨(Nat.le_of_ble_eq_true rfl), (Nat.le_of_ble_eq_true rfl)⟩) hH hS hA rfl rfl (fun r_3 _ H locs hw_4 hH hS => ?_)
  obtain ⟨hr_6, he_7⟩ := hw_4
  have hr_6 : (-1 : Int) ≤ r_3.toInt ∧ r_3.toInt ≤ 29 := hr_6
  have hfd := cnt_find (n := (i 36 17).toInt.toNat) (z := y.toInt) (v := r_3.toInt) (by rw [show (((i 36 17).toInt.toNat : Nat) : Int) = (i 36 17).toInt by omega]; exact he_7) hym
  have hfd1 := hfd.1
  have hfd2 := hfd.2.1
  exact sj_zret hx hb hr hlocks rfl hS () ⟨⟨by omega, by omega⟩, (by omega), ⟨hfd1, by omega, hfd.2.2.1, hfd.2.2.2⟩⟩ hH (sj_Knil hK) (Nat.le_of_ble_eq_true rfl) (Nat.le_of_ble_eq_true rfl) dX12_stepAt_13
set_option maxHeartbeats 2000000 in
set_option maxRecDepth 100000 in
theorem m_caseStep (l : Launch) (D : va_G) (g : Nat → Nat) (ka : Nat → ClassId) (ad : Nat → Nat) (i : Nat → Nat → Int32) (r : Nat → Nat → Nat) (L : Nat → Nat → Int64) (d : Nat → Nat → UInt64) (x : Int32) (y : Int32) (hO : OkI i) (hR : RS r) (sz : Nat) (hx0 : 0 ≤ x.toInt) (hx1 : x.toInt ≤ 23) (hy0 : 0 ≤ y.toInt) (hy1 : y.toInt < mcs i x.toInt.toNat) : Met l yX12_caseStep wsX12_caseStep ({ frames := 2, cells := 0, slots := 0, locals := 47 }) (va_Pc [.ref (g 36), .int x, .int y] (sj_B D (hwc g ka i r L d) (hT ka) sz (gx ad (va_A (hwc g ka i r L d) sz)))) (sj_Qi (S := Unit) D (fun v u => ((0 : Int) ≤ v.toInt ∧ v.toInt ≤ 29) ∧ (v.toInt < (i 36 17).toInt) ∧ (stR i x.toInt.toNat y.toInt v.toInt)) (fun _ => hwc g ka i r L d) (fun _ => []) (va_A (hwc g ka i r L d) sz)) 0 0 (va_A (hwc g ka i r L d) sz) := by
  refine x_met (Ex := gx ad) (cc := cX12_caseStep) (maxL := 6) (ret := (some .int)) (by decide) rfl (Nat.le_of_ble_eq_true rfl) ?_
  intro p e s m below meth c A ls hx hb hr hml hts hown hlocks hA hS hH hK hE hl
  have hown : s.vm.findClass RX12 = some m.cls := hown
  have in12 : ∀ w ∈ wsX120, w ∈ wsX12_caseStep := (fun _ h => (List.mem_cons_of_mem _ (List.mem_append_right _ h)))
  have wd0 := hts (.fieldLink RX12 195 "StoryDeskModel" "caseScenario" "[I") (List.mem_cons_of_mem _ (List.mem_append_left _ lm0))
  have wd1 := hts (.fieldLink RX12 135 "StoryDeskModel" "scenarioGroup" "[I") (List.mem_cons_of_mem _ (List.mem_append_left _ lm1))
  have hl : lv_has ls 6 [(0, .ref (g 36)), (1, .int x), (2, .int y)] := hl
  have hK : va_K D vwCl (hT ka) s := hK
  have hb17 : (0 : Int) ≤ (i 36 17).toInt ∧ (i 36 17).toInt ≤ 30 := hO 36 17
  have h397 : (0 : Int) ≤ (i 397 x.toInt.toNat).toInt ∧ (i 397 x.toInt.toNat).toInt ≤ 11 := hO 397 _
  have h385 : (0 : Int) ≤ (i 385 (i 397 x.toInt.toNat).toInt.toNat).toInt ∧ (i 385 (i 397 x.toInt.toNat).toInt.toNat).toInt ≤ 4 := hO 385 _
  have hmb := mbg_or i (i 397 x.toInt.toNat).toInt.toNat
  have hmc := mcs_or i x.toInt.toNat
  have hmr := mcs_r hO x.toInt.toNat
  have ha1 := mst_0 i (i 397 x.toInt.toNat).toInt
  have ha2 := mst_0 i 20
  have hz20 : (20 : Int32).toInt = 20 := rfl
  refine lv_aload_n hx hb dX12_caseStep_0 rfl (lv_at hl 0 rfl) ?_
  refine h_getr (ci := 12) (C := RX12) (F := TX12) (N := 86) hx hb hts in12 hown hK hH (by decide) (rfl : kd 36 = 12) (by decide) rfl 34 (by decide) wd0 (fun _ h9 => h9) (by decide) rfl (t := 397) (hR 36 34 rfl) (by decide) dX12_caseStep_1 ?_
  refine lv_iload_n hx hb dX12_caseStep_4 rfl (lv_at hl 1 rfl) ?_
  have bx_1 : (0 : Int) ≤ (i 397 (x.toInt).toNat).toInt ∧ (i 397 (x.toInt).toNat).toInt ≤ 11 := hO 397 (x.toInt).toNat
  refine h_iald hx hb hK hH (by decide) (rfl : kd 397 = 13) (s_vin (N := 24) (rfl : x.toInt = _) (rfl : ln 397 = 24) (by omega) (by omega)) dX12_caseStep_5 ?_
  have ek_2 : x.toNatClampNeg = (x.toInt).toNat := (s_cl (show x.toInt = x.toInt by omega))
  refine sj_i (y := (i 397 (x.toInt).toNat)) (by rw [ek_2]) ?_
  refine lv_istore_n (lv' := [(3, .int (i 397 (x.toInt).toNat)), (0, .ref (g 36)), (1, .int x), (2, .int y)]) hx hb dX12_caseStep_6 rfl hl (by decide) rfl (fun ls hl => ?_)
  refine lv_aload_n hx hb dX12_caseStep_7 rfl (lv_at hl 1 rfl) ?_
  refine lv_bipush (v := 20) hx hb dX12_caseStep_8 (by decide) ?_
  have hl_3 : (20 : Int32).toInt = 20 := rfl
  refine x_calli (va_runV (As := [.int 20]) (rest := []) ⟨hx, hb, hml, hown, hts⟩ (m_stepsOf l D g ka ad i r L d 20 hO hR s.heap.size ) (cwV 1 hts gX12_caseStep_X12_stepsOf rfl rfl rfl (by decide +kernel) ⟨(Nat.le_of_ble_eq_true rfl), (Nat.le_of_ble_eq_true rfl)⟩) (x_preV (q := (RX12, TX12, 86)) hH hK (q_obj (by decide) (rfl : kd 36 = 12) (by decide)) rfl gxb (gxw hE hS (x_F hH hS hA))) rfl rfl hl.1 rfl (lv_room (Nat.le_of_ble_eq_true rfl)) dX12_caseStep_10 ⟨(Nat.le_of_ble_eq_true rfl), (Nat.le_of_ble_eq_true rfl)⟩) hH hS hA rfl rfl (fun r_4 _ H locs hw_5 hH hS => ?_)
  obtain ⟨hr_7, he_8⟩ := hw_5
  have hr_7 : (0 : Int) ≤ r_4.toInt ∧ r_4.toInt ≤ 30 := hr_7
  rw [show (20 : Int32).toInt = 20 from rfl] at he_8
  refine lv_istore (lv' := [(4, .int r_4), (3, .int (i 397 (x.toInt).toNat)), (0, .ref (g 36)), (1, .int x), (2, .int y)]) hx hb dX12_caseStep_13 hl (by decide) rfl (fun ls hl => ?_)
  refine lv_aload_n hx hb dX12_caseStep_15 rfl (lv_at hl 2 rfl) ?_
  refine h_getr (ci := 12) (C := RX12) (F := TX12) (N := 86) hx hb hts in12 hown hK hH (by decide) (rfl : kd 36 = 12) (by decide) rfl 16 (by decide) wd1 (fun _ h9 => h9) (by decide) rfl (t := 385) (hR 36 16 rfl) (by decide) dX12_caseStep_16 ?_
  refine lv_iload_n hx hb dX12_caseStep_19 rfl (lv_at hl 1 rfl) ?_
  have bx_9 : (0 : Int) ≤ (i 385 ((i 397 (x.toInt).toNat).toInt).toNat).toInt ∧ (i 385 ((i 397 (x.toInt).toNat).toInt).toNat).toInt ≤ 4 := hO 385 ((i 397 (x.toInt).toNat).toInt).toNat
  refine h_iald hx hb hK hH (by decide) (rfl : kd 385 = 13) (s_vin (N := 12) (rfl : (i 397 (x.toInt).toNat).toInt = _) (rfl : ln 385 = 12) (by omega) (by omega)) dX12_caseStep_20 ?_
  have ek_10 : (i 397 (x.toInt).toNat).toNatClampNeg = ((i 397 (x.toInt).toNat).toInt).toNat := (s_cl (show (i 397 (x.toInt).toNat).toInt = (i 397 (x.toInt).toNat).toInt by omega))
  refine sj_i (y := (i 385 ((i 397 (x.toInt).toNat).toInt).toNat)) (by rw [ek_10]) ?_
  refine lv_if_ne (tgt := 28) hx hb dX12_caseStep_21 (by decide) (fun c_11 => ?_) (fun c_11 => ?_)
  · skip
    have h_12 := s_ne (rfl : (i 385 ((i 397 (x.toInt).toNat).toInt).toNat).toInt = _) (show (0 : Int32).toInt = 0 from rfl) c_11
    refine lv_aload_n hx hb dX12_caseStep_28 rfl (lv_at hl 2 rfl) ?_
    refine lv_bipush (v := 20) hx hb dX12_caseStep_29 (by decide) ?_
    refine lv_aload_n hx hb dX12_caseStep_31 rfl (lv_at hl 2 rfl) ?_
    refine h_getr (ci := 12) (C := RX12) (F := TX12) (N := 86) hx hb hts in12 hown hK hH (by decide) (rfl : kd 36 = 12) (by decide) rfl 16 (by decide) wd1 (fun _ h9 => h9) (by decide) rfl (t := 385) (hR 36 16 rfl) (by decide) dX12_caseStep_32 ?_
    refine lv_iload_n hx hb dX12_caseStep_35 rfl (lv_at hl 1 rfl) ?_
    refine h_iald hx hb hK hH (by decide) (rfl : kd 385 = 13) (s_vin (N := 12) (rfl : (i 397 (x.toInt).toNat).toInt = _) (rfl : ln 385 = 12) (by omega) (by omega)) dX12_caseStep_36 ?_
    have ek_13 : (i 397 (x.toInt).toNat).toNatClampNeg = ((i 397 (x.toInt).toNat).toInt).toNat := (s_cl (show (i 397 (x.toInt).toNat).toInt = (i 397 (x.toInt).toNat).toInt by omega))
    refine sj_i (y := (i 385 ((i 397 (x.toInt).toNat).toInt).toNat)) (by rw [ek_13]) ?_
    refine lv_iadd hx hb dX12_caseStep_37 ?_
    obtain ⟨z_14, ez_14, hz_14⟩ := s_add (show (20 : Int32).toInt = 20 from rfl) (rfl : (i 385 ((i 397 (x.toInt).toNat).toInt).toNat).toInt = _) (by omega) (by omega)
    refine sj_i ez_14 ?_
    refine x_calli (va_runV (As := [.int z_14]) (rest := []) ⟨hx, hb, hml, hown, hts⟩ (m_stepsOf l D g ka ad i r L d z_14 hO hR H.size ) (cwV 1 hts gX12_caseStep_X12_stepsOf rfl rfl rfl (by decide +kernel) ⟨(Nat.le_of_ble_eq_true rfl), (Nat.le_of_ble_eq_true rfl)⟩) (x_preV (q := (RX12, TX12, 86)) hH hK (q_obj (by decide) (rfl : kd 36 = 12) (by decide)) rfl gxb (gxw hE hS (x_F hH hS hA))) rfl rfl hl.1 rfl (lv_room (Nat.le_of_ble_eq_true rfl)) dX12_caseStep_38 ⟨(Nat.le_of_ble_eq_true rfl), (Nat.le_of_ble_eq_true rfl)⟩) hH hS hA rfl rfl (fun r_15 _ H locs hw_16 hH hS => ?_)
    obtain ⟨hr_18, he_19⟩ := hw_16
    have hr_18 : (0 : Int) ≤ r_15.toInt ∧ r_15.toInt ≤ 30 := hr_18
    rw [show z_14.toInt = 20 + (i 385 (i 397 x.toInt.toNat).toInt.toNat).toInt by omega] at he_19
    refine lv_istore (lv' := [(5, .int r_15), (4, .int r_4), (3, .int (i 397 (x.toInt).toNat)), (0, .ref (g 36)), (1, .int x), (2, .int y)]) hx hb dX12_caseStep_41 hl (by decide) rfl (fun ls hl => ?_)
    refine lv_iload_n hx hb dX12_caseStep_43 rfl (lv_at hl 5 rfl) ?_
    refine lv_iload hx hb dX12_caseStep_44 (lv_at hl 1 rfl) ?_
    refine lv_icmp_ge (tgt := 57) hx hb dX12_caseStep_46 (by decide) (fun c_20 => ?_) (fun c_20 => ?_)
    · skip
      have h_21 := s_le (rfl : r_4.toInt = _) (rfl : y.toInt = _) c_20
      refine lv_iload_n hx hb dX12_caseStep_57 rfl (lv_at hl 5 rfl) ?_
      refine lv_iload hx hb dX12_caseStep_58 (lv_at hl 1 rfl) ?_
      refine lv_iload hx hb dX12_caseStep_60 (lv_at hl 0 rfl) ?_
      refine lv_iadd hx hb dX12_caseStep_62 ?_
      obtain ⟨z_22, ez_22, hz_22⟩ := s_add (rfl : r_4.toInt = _) (rfl : r_15.toInt = _) (by omega) (by omega)
      refine sj_i ez_22 ?_
      refine lv_icmp_ge (tgt := 86) hx hb dX12_caseStep_63 (by decide) (fun c_23 => ?_) (fun c_23 => ?_)
      · skip
        have h_24 := s_le (rfl : z_22.toInt = _) (rfl : y.toInt = _) c_23
        refine lv_aload_n hx hb dX12_caseStep_86 rfl (lv_at hl 3 rfl) ?_
        refine lv_iload_n hx hb dX12_caseStep_87 rfl (lv_at hl 2 rfl) ?_
        refine lv_iload_n hx hb dX12_caseStep_88 rfl (lv_at hl 5 rfl) ?_
        refine lv_iload hx hb dX12_caseStep_89 (lv_at hl 1 rfl) ?_
        refine lv_isub hx hb dX12_caseStep_91 ?_
        obtain ⟨z_25, ez_25, hz_25⟩ := s_sub (rfl : y.toInt = _) (rfl : r_4.toInt = _) (by omega) (by omega)
        refine sj_i ez_25 ?_
        refine lv_iload hx hb dX12_caseStep_92 (lv_at hl 0 rfl) ?_
        refine lv_isub hx hb dX12_caseStep_94 ?_
        obtain ⟨z_26, ez_26, hz_26⟩ := s_sub (rfl : z_25.toInt = _) (rfl : r_15.toInt = _) (by omega) (by omega)
        refine sj_i ez_26 ?_
        refine x_calli (va_runV (As := [.int (i 397 (x.toInt).toNat), .int z_26]) (rest := []) ⟨hx, hb, hml, hown, hts⟩ (m_stepAt l D g ka ad i r L d (i 397 (x.toInt).toNat) z_26 hO hR H.size (by first | omega | decide) (by omega)) (cwV 2 hts gX12_caseStep_X12_stepAt rfl rfl rfl (by decide +kernel) ⟨(Nat.le_of_ble_eq_true rfl), (Nat.le_of_ble_eq_true rfl)⟩) (x_preV (q := (RX12, TX12, 86)) hH hK (q_obj (by decide) (rfl : kd 36 = 12) (by decide)) rfl gxb (gxw hE hS (x_F hH hS hA))) rfl rfl hl.1 rfl (lv_room (Nat.le_of_ble_eq_true rfl)) dX12_caseStep_95 ⟨(Nat.le_of_ble_eq_true rfl), (Nat.le_of_ble_eq_true rfl)⟩) hH hS hA rfl rfl (fun r_27 _ H locs hw_28 hH hS => ?_)
        obtain ⟨hr_30, he_31, hx2_32⟩ := hw_28
        have hr_30 : (0 : Int) ≤ r_27.toInt ∧ r_27.toInt ≤ 29 := hr_30
        have hV_33 : stR i x.toInt.toNat y.toInt (r_27 : Int32).toInt := (Or.inr (Or.inr ⟨by omega, by omega, by rw [show y.toInt - mst i 20 - mbg i (i 397 x.toInt.toNat).toInt.toNat = z_26.toInt by omega]; exact hx2_32⟩))
        exact sj_zret hx hb hr hlocks rfl hS () ⟨⟨by omega, by omega⟩, (by omega), hV_33⟩ hH (sj_Knil hK) (Nat.le_of_ble_eq_true rfl) (Nat.le_of_ble_eq_true rfl) dX12_caseStep_98
      · skip
        have h_34 := s_nle (rfl : z_22.toInt = _) (rfl : y.toInt = _) c_23
        refine lv_aload_n hx hb dX12_caseStep_66 rfl (lv_at hl 3 rfl) ?_
        refine lv_bipush (v := 20) hx hb dX12_caseStep_67 (by decide) ?_
        refine lv_aload_n hx hb dX12_caseStep_69 rfl (lv_at hl 3 rfl) ?_
        refine h_getr (ci := 12) (C := RX12) (F := TX12) (N := 86) hx hb hts in12 hown hK hH (by decide) (rfl : kd 36 = 12) (by decide) rfl 16 (by decide) wd1 (fun _ h9 => h9) (by decide) rfl (t := 385) (hR 36 16 rfl) (by decide) dX12_caseStep_70 ?_
        refine lv_iload_n hx hb dX12_caseStep_73 rfl (lv_at hl 2 rfl) ?_
        refine h_iald hx hb hK hH (by decide) (rfl : kd 385 = 13) (s_vin (N := 12) (rfl : (i 397 (x.toInt).toNat).toInt = _) (rfl : ln 385 = 12) (by omega) (by omega)) dX12_caseStep_74 ?_
        have ek_35 : (i 397 (x.toInt).toNat).toNatClampNeg = ((i 397 (x.toInt).toNat).toInt).toNat := (s_cl (show (i 397 (x.toInt).toNat).toInt = (i 397 (x.toInt).toNat).toInt by omega))
        refine sj_i (y := (i 385 ((i 397 (x.toInt).toNat).toInt).toNat)) (by rw [ek_35]) ?_
        refine lv_iadd hx hb dX12_caseStep_75 ?_
        obtain ⟨z_36, ez_36, hz_36⟩ := s_add (show (20 : Int32).toInt = 20 from rfl) (rfl : (i 385 ((i 397 (x.toInt).toNat).toInt).toNat).toInt = _) (by omega) (by omega)
        refine sj_i ez_36 ?_
        refine lv_iload_n hx hb dX12_caseStep_76 rfl (lv_at hl 5 rfl) ?_
        refine lv_iload hx hb dX12_caseStep_77 (lv_at hl 1 rfl) ?_
        refine lv_isub hx hb dX12_caseStep_79 ?_
        obtain ⟨z_37, ez_37, hz_37⟩ := s_sub (rfl : y.toInt = _) (rfl : r_4.toInt = _) (by omega) (by omega)
        refine sj_i ez_37 ?_
        refine x_calli (va_runV (As := [.int z_36, .int z_37]) (rest := []) ⟨hx, hb, hml, hown, hts⟩ (m_stepAt l D g ka ad i r L d z_36 z_37 hO hR H.size (by first | omega | decide) (by rw [show z_36.toInt = 20 + (i 385 (i 397 x.toInt.toNat).toInt.toNat).toInt by omega]; omega)) (cwV 2 hts gX12_caseStep_X12_stepAt rfl rfl rfl (by decide +kernel) ⟨(Nat.le_of_ble_eq_true rfl), (Nat.le_of_ble_eq_true rfl)⟩) (x_preV (q := (RX12, TX12, 86)) hH hK (q_obj (by decide) (rfl : kd 36 = 12) (by decide)) rfl gxb (gxw hE hS (x_F hH hS hA))) rfl rfl hl.1 rfl (lv_room (Nat.le_of_ble_eq_true rfl)) dX12_caseStep_80 ⟨(Nat.le_of_ble_eq_true rfl), (Nat.le_of_ble_eq_true rfl)⟩) hH hS hA rfl rfl (fun r_38 _ H locs hw_39 hH hS => ?_)
        obtain ⟨hr_41, he_42, hx2_43⟩ := hw_39
        have hr_41 : (0 : Int) ≤ r_38.toInt ∧ r_38.toInt ≤ 29 := hr_41
        refine lv_goto (tgt := 98) hx hb dX12_caseStep_83 (by decide) ?_
        have hV_44 : stR i x.toInt.toNat y.toInt (r_38 : Int32).toInt := (Or.inr (Or.inl ⟨by omega, by omega, by rw [show 20 + (i 385 (i 397 x.toInt.toNat).toInt.toNat).toInt = z_36.toInt by omega, show y.toInt - mst i 20 = z_37.toInt by omega]; exact hx2_43⟩))
        exact sj_zret hx hb hr hlocks rfl hS () ⟨⟨by omega, by omega⟩, (by omega), hV_44⟩ hH (sj_Knil hK) (Nat.le_of_ble_eq_true rfl) (Nat.le_of_ble_eq_true rfl) dX12_caseStep_98
    · skip
      have h_45 := s_nle (rfl : r_4.toInt = _) (rfl : y.toInt = _) c_20
      refine lv_aload_n hx hb dX12_caseStep_49 rfl (lv_at hl 3 rfl) ?_
      refine lv_bipush (v := 20) hx hb dX12_caseStep_50 (by decide) ?_
      refine lv_iload_n hx hb dX12_caseStep_52 rfl (lv_at hl 5 rfl) ?_
      have hl_46 : (20 : Int32).toInt = 20 := rfl
      refine x_calli (va_runV (As := [.int 20, .int y]) (rest := []) ⟨hx, hb, hml, hown, hts⟩ (m_stepAt l D g ka ad i r L d 20 y hO hR H.size (by first | omega | decide) (by rw [show (20 : Int32).toInt = 20 from rfl]; omega)) (cwV 2 hts gX12_caseStep_X12_stepAt rfl rfl rfl (by decide +kernel) ⟨(Nat.le_of_ble_eq_true rfl), (Nat.le_of_ble_eq_true rfl)⟩) (x_preV (q := (RX12, TX12, 86)) hH hK (q_obj (by decide) (rfl : kd 36 = 12) (by decide)) rfl gxb (gxw hE hS (x_F hH hS hA))) rfl rfl hl.1 rfl (lv_room (Nat.le_of_ble_eq_true rfl)) dX12_caseStep_53 ⟨(Nat.le_of_ble_eq_true rfl), (Nat.le_of_ble_eq_true rfl)⟩) hH hS hA rfl rfl (fun r_47 _ H locs hw_48 hH hS => ?_)
      obtain ⟨hr_50, he_51, hx2_52⟩ := hw_48
      have hr_50 : (0 : Int) ≤ r_47.toInt ∧ r_47.toInt ≤ 29 := hr_50
      have hV_53 : stR i x.toInt.toNat y.toInt (r_47 : Int32).toInt := (Or.inl ⟨by omega, hx2_52⟩)
      exact sj_zret hx hb hr hlocks rfl hS () ⟨⟨by omega, by omega⟩, (by omega), hV_53⟩ hH (sj_Knil hK) (Nat.le_of_ble_eq_true rfl) (Nat.le_of_ble_eq_true rfl) dX12_caseStep_56
  · skip
    have h_54 := s_eq (rfl : (i 385 ((i 397 (x.toInt).toNat).toInt).toNat).toInt = _) (show (0 : Int32).toInt = 0 from rfl) c_11
    refine lv_iconst (v := 0) hx hb dX12_caseStep_24 (by decide) ?_
    refine lv_goto (tgt := 41) hx hb dX12_caseStep_25 (by decide) ?_
    refine lv_istore (lv' := [(5, .int 0), (4, .int r_4), (3, .int (i 397 (x.toInt).toNat)), (0, .ref (g 36)), (1, .int x), (2, .int y)]) hx hb dX12_caseStep_41 hl (by decide) rfl (fun ls hl => ?_)
    refine lv_iload_n hx hb dX12_caseStep_43 rfl (lv_at hl 5 rfl) ?_
    refine lv_iload hx hb dX12_caseStep_44 (lv_at hl 1 rfl) ?_
    refine lv_icmp_ge (tgt := 57) hx hb dX12_caseStep_46 (by decide) (fun c_55 => ?_) (fun c_55 => ?_)
    · skip
      have h_56 := s_le (rfl : r_4.toInt = _) (rfl : y.toInt = _) c_55
      refine lv_iload_n hx hb dX12_caseStep_57 rfl (lv_at hl 5 rfl) ?_
      refine lv_iload hx hb dX12_caseStep_58 (lv_at hl 1 rfl) ?_
      refine lv_iload hx hb dX12_caseStep_60 (lv_at hl 0 rfl) ?_
      refine lv_iadd hx hb dX12_caseStep_62 ?_
      obtain ⟨z_57, ez_57, hz_57⟩ := s_add (rfl : r_4.toInt = _) (show (0 : Int32).toInt = 0 from rfl) (by omega) (by omega)
      refine sj_i ez_57 ?_
      refine lv_icmp_ge (tgt := 86) hx hb dX12_caseStep_63 (by decide) (fun c_58 => ?_) (fun c_58 => ?_)
      · skip
        have h_59 := s_le (rfl : z_57.toInt = _) (rfl : y.toInt = _) c_58
        refine lv_aload_n hx hb dX12_caseStep_86 rfl (lv_at hl 3 rfl) ?_
        refine lv_iload_n hx hb dX12_caseStep_87 rfl (lv_at hl 2 rfl) ?_
        refine lv_iload_n hx hb dX12_caseStep_88 rfl (lv_at hl 5 rfl) ?_
        refine lv_iload hx hb dX12_caseStep_89 (lv_at hl 1 rfl) ?_
        refine lv_isub hx hb dX12_caseStep_91 ?_
        obtain ⟨z_60, ez_60, hz_60⟩ := s_sub (rfl : y.toInt = _) (rfl : r_4.toInt = _) (by omega) (by omega)
        refine sj_i ez_60 ?_
        refine lv_iload hx hb dX12_caseStep_92 (lv_at hl 0 rfl) ?_
        refine lv_isub hx hb dX12_caseStep_94 ?_
        obtain ⟨z_61, ez_61, hz_61⟩ := s_sub (rfl : z_60.toInt = _) (show (0 : Int32).toInt = 0 from rfl) (by omega) (by omega)
        refine sj_i ez_61 ?_
        refine x_calli (va_runV (As := [.int (i 397 (x.toInt).toNat), .int z_61]) (rest := []) ⟨hx, hb, hml, hown, hts⟩ (m_stepAt l D g ka ad i r L d (i 397 (x.toInt).toNat) z_61 hO hR H.size (by first | omega | decide) (by omega)) (cwV 2 hts gX12_caseStep_X12_stepAt rfl rfl rfl (by decide +kernel) ⟨(Nat.le_of_ble_eq_true rfl), (Nat.le_of_ble_eq_true rfl)⟩) (x_preV (q := (RX12, TX12, 86)) hH hK (q_obj (by decide) (rfl : kd 36 = 12) (by decide)) rfl gxb (gxw hE hS (x_F hH hS hA))) rfl rfl hl.1 rfl (lv_room (Nat.le_of_ble_eq_true rfl)) dX12_caseStep_95 ⟨(Nat.le_of_ble_eq_true rfl), (Nat.le_of_ble_eq_true rfl)⟩) hH hS hA rfl rfl (fun r_62 _ H locs hw_63 hH hS => ?_)
        obtain ⟨hr_65, he_66, hx2_67⟩ := hw_63
        have hr_65 : (0 : Int) ≤ r_62.toInt ∧ r_62.toInt ≤ 29 := hr_65
        have hV_68 : stR i x.toInt.toNat y.toInt (r_62 : Int32).toInt := (Or.inr (Or.inr ⟨by omega, by omega, by rw [show y.toInt - mst i 20 - mbg i (i 397 x.toInt.toNat).toInt.toNat = z_61.toInt by omega]; exact hx2_67⟩))
        exact sj_zret hx hb hr hlocks rfl hS () ⟨⟨by omega, by omega⟩, (by omega), hV_68⟩ hH (sj_Knil hK) (Nat.le_of_ble_eq_true rfl) (Nat.le_of_ble_eq_true rfl) dX12_caseStep_98
      · skip
        have h_69 := s_nle (rfl : z_57.toInt = _) (rfl : y.toInt = _) c_58
        refine lv_aload_n hx hb dX12_caseStep_66 rfl (lv_at hl 3 rfl) ?_
        refine lv_bipush (v := 20) hx hb dX12_caseStep_67 (by decide) ?_
        refine lv_aload_n hx hb dX12_caseStep_69 rfl (lv_at hl 3 rfl) ?_
        refine h_getr (ci := 12) (C := RX12) (F := TX12) (N := 86) hx hb hts in12 hown hK hH (by decide) (rfl : kd 36 = 12) (by decide) rfl 16 (by decide) wd1 (fun _ h9 => h9) (by decide) rfl (t := 385) (hR 36 16 rfl) (by decide) dX12_caseStep_70 ?_
        refine lv_iload_n hx hb dX12_caseStep_73 rfl (lv_at hl 2 rfl) ?_
        refine h_iald hx hb hK hH (by decide) (rfl : kd 385 = 13) (s_vin (N := 12) (rfl : (i 397 (x.toInt).toNat).toInt = _) (rfl : ln 385 = 12) (by omega) (by omega)) dX12_caseStep_74 ?_
        have ek_70 : (i 397 (x.toInt).toNat).toNatClampNeg = ((i 397 (x.toInt).toNat).toInt).toNat := (s_cl (show (i 397 (x.toInt).toNat).toInt = (i 397 (x.toInt).toNat).toInt by omega))
        refine sj_i (y := (i 385 ((i 397 (x.toInt).toNat).toInt).toNat)) (by rw [ek_70]) ?_
        refine lv_iadd hx hb dX12_caseStep_75 ?_
        obtain ⟨z_71, ez_71, hz_71⟩ := s_add (show (20 : Int32).toInt = 20 from rfl) (rfl : (i 385 ((i 397 (x.toInt).toNat).toInt).toNat).toInt = _) (by omega) (by omega)
        refine sj_i ez_71 ?_
        refine lv_iload_n hx hb dX12_caseStep_76 rfl (lv_at hl 5 rfl) ?_
        refine lv_iload hx hb dX12_caseStep_77 (lv_at hl 1 rfl) ?_
        refine lv_isub hx hb dX12_caseStep_79 ?_
        obtain ⟨z_72, ez_72, hz_72⟩ := s_sub (rfl : y.toInt = _) (rfl : r_4.toInt = _) (by omega) (by omega)
        refine sj_i ez_72 ?_
        refine x_calli (va_runV (As := [.int z_71, .int z_72]) (rest := []) ⟨hx, hb, hml, hown, hts⟩ (m_stepAt l D g ka ad i r L d z_71 z_72 hO hR H.size (by first | omega | decide) (by rw [show z_71.toInt = 20 + (i 385 (i 397 x.toInt.toNat).toInt.toNat).toInt by omega]; omega)) (cwV 2 hts gX12_caseStep_X12_stepAt rfl rfl rfl (by decide +kernel) ⟨(Nat.le_of_ble_eq_true rfl), (Nat.le_of_ble_eq_true rfl)⟩) (x_preV (q := (RX12, TX12, 86)) hH hK (q_obj (by decide) (rfl : kd 36 = 12) (by decide)) rfl gxb (gxw hE hS (x_F hH hS hA))) rfl rfl hl.1 rfl (lv_room (Nat.le_of_ble_eq_true rfl)) dX12_caseStep_80 ⟨(Nat.le_of_ble_eq_true rfl), (Nat.le_of_ble_eq_true rfl)⟩) hH hS hA rfl rfl (fun r_73 _ H locs hw_74 hH hS => ?_)
        obtain ⟨hr_76, he_77, hx2_78⟩ := hw_74
        have hr_76 : (0 : Int) ≤ r_73.toInt ∧ r_73.toInt ≤ 29 := hr_76
        refine lv_goto (tgt := 98) hx hb dX12_caseStep_83 (by decide) ?_
        have hV_79 : stR i x.toInt.toNat y.toInt (r_73 : Int32).toInt := (Or.inr (Or.inl ⟨by omega, by omega, by rw [show 20 + (i 385 (i 397 x.toInt.toNat).toInt.toNat).toInt = z_71.toInt by omega, show y.toInt - mst i 20 = z_72.toInt by omega]; exact hx2_78⟩))
        exact sj_zret hx hb hr hlocks rfl hS () ⟨⟨by omega, by omega⟩, (by omega), hV_79⟩ hH (sj_Knil hK) (Nat.le_of_ble_eq_true rfl) (Nat.le_of_ble_eq_true rfl) dX12_caseStep_98
    · skip
      have h_80 := s_nle (rfl : r_4.toInt = _) (rfl : y.toInt = _) c_55
      refine lv_aload_n hx hb dX12_caseStep_49 rfl (lv_at hl 3 rfl) ?_
      refine lv_bipush (v := 20) hx hb dX12_caseStep_50 (by decide) ?_
      refine lv_iload_n hx hb dX12_caseStep_52 rfl (lv_at hl 5 rfl) ?_
      have hl_81 : (20 : Int32).toInt = 20 := rfl
      refine x_calli (va_runV (As := [.int 20, .int y]) (rest := []) ⟨hx, hb, hml, hown, hts⟩ (m_stepAt l D g ka ad i r L d 20 y hO hR H.size (by first | omega | decide) (by rw [show (20 : Int32).toInt = 20 from rfl]; omega)) (cwV 2 hts gX12_caseStep_X12_stepAt rfl rfl rfl (by decide +kernel) ⟨(Nat.le_of_ble_eq_true rfl), (Nat.le_of_ble_eq_true rfl)⟩) (x_preV (q := (RX12, TX12, 86)) hH hK (q_obj (by decide) (rfl : kd 36 = 12) (by decide)) rfl gxb (gxw hE hS (x_F hH hS hA))) rfl rfl hl.1 rfl (lv_room (Nat.le_of_ble_eq_true rfl)) dX12_caseStep_53 ⟨(Nat.le_of_ble_eq_true rfl), (Nat.le_of_ble_eq_true rfl)⟩) hH hS hA rfl rfl (fun r_82 _ H locs hw_83 hH hS => ?_)
      obtain ⟨hr_85, he_86, hx2_87⟩ := hw_83
      have hr_85 : (0 : Int) ≤ r_82.toInt ∧ r_82.toInt ≤ 29 := hr_85
      have hV_88 : stR i x.toInt.toNat y.toInt (r_82 : Int32).toInt := (Or.inl ⟨by omega, hx2_87⟩)
      exact sj_zret hx hb hr hlocks rfl hS () ⟨⟨by omega, by omega⟩, (by omega), hV_88⟩ hH (sj_Knil hK) (Nat.le_of_ble_eq_true rfl) (Nat.le_of_ble_eq_true rfl) dX12_caseStep_56
