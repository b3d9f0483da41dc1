theorem lkd_1 {f : Nat → Int32} {a b d : Int} (h0 : 0 ≤ a) (h : lkd d (lnL f a b) = 1) : a < b ∧ (f a.toNat).toInt = 64 := by
  rcases Int.lt_or_le a b with h9 | h9
  · refine ⟨h9, ?_⟩
    rw [lkd_ln h0 h9] at h
    have h1 := hdK_r d (f a.toNat).toInt
    have h2 := sgK_r d (f a.toNat).toInt
    unfold kdF at h
    repeat' split at h
    all_goals omega
  · rw [lkd_0 h9] at h; omega
theorem tagW_r : ∀ (l : List Int) (s : Int32), (0 ≤ s.toInt ∧ s.toInt ≤ 65535) → 0 ≤ (tagW l s).toInt ∧ (tagW l s).toInt ≤ 65535
  | [], s, h => h
  | [x], s, h => by
    show 0 ≤ (if x = 32 then s else 0).toInt ∧ (if x = 32 then s else 0).toInt ≤ 65535
    split
    · exact h
    · decide
  | x :: c :: u, s, h => by
    show 0 ≤ (if x = 32 then tagW (c :: u) s else if x = 64 ∧ 97 ≤ c ∧ c ≤ 112 ∧ u.headD 32 = 32 then tagW u (bitO s c) else 0).toInt ∧ (if x = 32 then tagW (c :: u) s else if x = 64 ∧ 97 ≤ c ∧ c ≤ 112 ∧ u.headD 32 = 32 then tagW u (bitO s c) else 0).toInt ≤ 65535
    split
    · exact tagW_r (c :: u) s h
    · split
      · rename_i g
        have h9 := bitO_r h g.2.1 g.2.2.1
        exact tagW_r u _ ⟨by omega, h9.2⟩
      · decide
theorem OR_pos {x y : Int32} (hx : 0 ≤ x.toInt ∧ x.toInt ≤ 65535) (hy : 1 ≤ y.toInt ∧ y.toInt ≤ 65535) : 1 ≤ (x ||| y).toInt := by
  have g1 := s_ofN (x := x) rfl hx.1 (by omega)
  have g2 := s_ofN (x := y) rfl (by omega) (by omega)
  have g3 : x.toInt.toNat ||| y.toInt.toNat < 2 ^ 16 := Nat.or_lt_two_pow (by omega) (by omega)
  have g5 : y.toInt.toNat ≤ x.toInt.toNat ||| y.toInt.toNat := Nat.right_le_or
  have g4 : x ||| y = nI (x.toInt.toNat ||| y.toInt.toNat) := by
    rw [g1, g2, s_nIt (by omega), s_nIt (by omega), Int.toNat_natCast, Int.toNat_natCast]
    refine Int32.toBitVec_inj.mp ?_
    show BitVec.ofNat 32 _ ||| BitVec.ofNat 32 _ = BitVec.ofNat 32 _
    exact (BitVec.ofNat_or ..).symm
  rw [g4, s_nIt (by omega)]
  omega
theorem dX12_lineError_0 : decode cX12_lineError 0 = .ok (.aload_n 0, 1) := by decide +kernel
theorem dX12_lineError_1 : decode cX12_lineError 1 = .ok (.invokevirtual 144, 3) := by decide +kernel
theorem dX12_lineError_4 : decode cX12_lineError 4 = .ok (.istore_n 2, 1) := by decide +kernel
theorem dX12_lineError_5 : decode cX12_lineError 5 = .ok (.iload_n 2, 1) := by decide +kernel
theorem dX12_lineError_6 : decode cX12_lineError 6 = .ok (.ifCond .ne 5, 3) := by decide +kernel
theorem dX12_lineError_11 : decode cX12_lineError 11 = .ok (.aload_n 0, 1) := by decide +kernel
theorem dX12_lineError_12 : decode cX12_lineError 12 = .ok (.iload_n 2, 1) := by decide +kernel
theorem dX12_lineError_13 : decode cX12_lineError 13 = .ok (.invokevirtual 148, 3) := by decide +kernel
theorem dX12_lineError_16 : decode cX12_lineError 16 = .ok (.ifCond .ne 5, 3) := by decide +kernel
theorem dX12_lineError_21 : decode cX12_lineError 21 = .ok (.iload_n 2, 1) := by decide +kernel
theorem dX12_lineError_22 : decode cX12_lineError 22 = .ok (.iconst 1, 1) := by decide +kernel
theorem dX12_lineError_23 : decode cX12_lineError 23 = .ok (.if_icmp .ne 8, 3) := by decide +kernel
theorem dX12_lineError_31 : decode cX12_lineError 31 = .ok (.iload_n 2, 1) := by decide +kernel
theorem dX12_lineError_32 : decode cX12_lineError 32 = .ok (.iconst 2, 1) := by decide +kernel
theorem dX12_lineError_33 : decode cX12_lineError 33 = .ok (.if_icmp .ne 9, 3) := by decide +kernel
theorem dX12_lineError_42 : decode cX12_lineError 42 = .ok (.iload_n 2, 1) := by decide +kernel
theorem dX12_lineError_43 : decode cX12_lineError 43 = .ok (.bipush 8, 2) := by decide +kernel
theorem dX12_lineError_45 : decode cX12_lineError 45 = .ok (.if_icmp .ne 9, 3) := by decide +kernel
theorem dX12_lineError_54 : decode cX12_lineError 54 = .ok (.iload_n 2, 1) := by decide +kernel
theorem dX12_lineError_55 : decode cX12_lineError 55 = .ok (.bipush 9, 2) := by decide +kernel
theorem dX12_lineError_57 : decode cX12_lineError 57 = .ok (.if_icmp .ne 5, 3) := by decide +kernel
theorem dX12_lineError_62 : decode cX12_lineError 62 = .ok (.iload_n 2, 1) := by decide +kernel
theorem dX12_lineError_63 : decode cX12_lineError 63 = .ok (.iconst 5, 1) := by decide +kernel
theorem dX12_lineError_64 : decode cX12_lineError 64 = .ok (.if_icmp .eq 10, 3) := by decide +kernel
theorem dX12_lineError_74 : decode cX12_lineError 74 = .ok (.aload_n 0, 1) := by decide +kernel
theorem dX12_lineError_75 : decode cX12_lineError 75 = .ok (.bipush 20, 2) := by decide +kernel
theorem dX12_lineError_77 : decode cX12_lineError 77 = .ok (.aload_n 0, 1) := by decide +kernel
theorem dX12_lineError_78 : decode cX12_lineError 78 = .ok (.getfield 117, 3) := by decide +kernel
theorem dX12_lineError_81 : decode cX12_lineError 81 = .ok (.iadd, 1) := by decide +kernel
theorem dX12_lineError_82 : decode cX12_lineError 82 = .ok (.iconst 1, 1) := by decide +kernel
theorem dX12_lineError_83 : decode cX12_lineError 83 = .ok (.isub, 1) := by decide +kernel
theorem dX12_lineError_84 : decode cX12_lineError 84 = .ok (.putfield 105, 3) := by decide +kernel
theorem dX12_lineError_87 : decode cX12_lineError 87 = .ok (.aload_n 0, 1) := by decide +kernel
theorem dX12_lineError_88 : decode cX12_lineError 88 = .ok (.iconst 2, 1) := by decide +kernel
theorem dX12_lineError_89 : decode cX12_lineError 89 = .ok (.putfield 50, 3) := by decide +kernel
theorem dX12_lineError_92 : decode cX12_lineError 92 = .ok (.iconst 0, 1) := by decide +kernel
theorem dX12_lineError_93 : decode cX12_lineError 93 = .ok (.ireturn, 1) := by decide +kernel
theorem dX12_lineError_67 : decode cX12_lineError 67 = .ok (.aload_n 0, 1) := by decide +kernel
theorem dX12_lineError_68 : decode cX12_lineError 68 = .ok (.iload_n 2, 1) := by decide +kernel
theorem dX12_lineError_69 : decode cX12_lineError 69 = .ok (.iload_n 1, 1) := by decide +kernel
theorem dX12_lineError_70 : decode cX12_lineError 70 = .ok (.invokevirtual 161, 3) := by decide +kernel
theorem dX12_lineError_73 : decode cX12_lineError 73 = .ok (.ireturn, 1) := by decide +kernel
theorem dX12_lineError_60 : decode cX12_lineError 60 = .ok (.iconst 0, 1) := by decide +kernel
theorem dX12_lineError_61 : decode cX12_lineError 61 = .ok (.ireturn, 1) := by decide +kernel
theorem dX12_lineError_48 : decode cX12_lineError 48 = .ok (.aload_n 0, 1) := by decide +kernel
theorem dX12_lineError_49 : decode cX12_lineError 49 = .ok (.iload_n 1, 1) := by decide +kernel
theorem dX12_lineError_50 : decode cX12_lineError 50 = .ok (.invokevirtual 158, 3) := by decide +kernel
theorem dX12_lineError_53 : decode cX12_lineError 53 = .ok (.ireturn, 1) := by decide +kernel
theorem dX12_lineError_36 : decode cX12_lineError 36 = .ok (.aload_n 0, 1) := by decide +kernel
theorem dX12_lineError_37 : decode cX12_lineError 37 = .ok (.iload_n 1, 1) := by decide +kernel
theorem dX12_lineError_38 : decode cX12_lineError 38 = .ok (.invokevirtual 155, 3) := by decide +kernel
theorem dX12_lineError_41 : decode cX12_lineError 41 = .ok (.ireturn, 1) := by decide +kernel
theorem dX12_lineError_26 : decode cX12_lineError 26 = .ok (.aload_n 0, 1) := by decide +kernel
theorem dX12_lineError_27 : decode cX12_lineError 27 = .ok (.invokevirtual 152, 3) := by decide +kernel
theorem dX12_lineError_30 : decode cX12_lineError 30 = .ok (.ireturn, 1) := by decide +kernel
theorem dX12_lineError_19 : decode cX12_lineError 19 = .ok (.iconst 1, 1) := by decide +kernel
theorem dX12_lineError_20 : decode cX12_lineError 20 = .ok (.ireturn, 1) := by decide +kernel
theorem dX12_lineError_9 : decode cX12_lineError 9 = .ok (.iconst 0, 1) := by decide +kernel
theorem dX12_lineError_10 : decode cX12_lineError 10 = .ok (.ireturn, 1) := by decide +kernel
theorem gw_X12_kind : wsX12_kind.all goodWord = true := by decide +kernel
theorem gX12_lineError_X12_kind : GoodIn wsX12_lineError (wsV RX12 144 RX12 yX12_kind wsX12_kind) := goodIn_app (goodIn_sub (List.forall_mem_cons.mpr ⟨(List.mem_cons_of_mem _ (List.mem_append_left _ (List.mem_append_left _ lm3))), List.forall_mem_cons.mpr ⟨(List.mem_cons_of_mem _ (List.mem_append_left _ (List.mem_append_left _ lm4))), List.forall_mem_cons.mpr ⟨(List.mem_cons_of_mem _ (List.mem_append_left _ (List.mem_append_left _ lm5))), List.forall_mem_cons.mpr ⟨(List.mem_cons_of_mem _ (List.mem_append_left _ (List.mem_append_left _ lm6))), (fun _ h => absurd h List.not_mem_nil)⟩⟩⟩⟩) (by decide +kernel)) (goodIn_sub (by unfold wsX12_kind; exact List.forall_mem_cons.mpr ⟨(List.mem_cons_of_mem _ (List.mem_append_left _ (List.mem_append_left _ lm7))), List.forall_mem_append.mpr ⟨List.forall_mem_cons.mpr ⟨(List.mem_cons_of_mem _ (List.mem_append_left _ (List.mem_append_left _ lm8))), List.forall_mem_cons.mpr ⟨(List.mem_cons_of_mem _ (List.mem_append_left _ (List.mem_append_left _ lm9))), List.forall_mem_cons.mpr ⟨(List.mem_cons_of_mem _ (List.mem_append_left _ (List.mem_append_left _ lm10))), List.forall_mem_cons.mpr ⟨(List.mem_cons_of_mem _ (List.mem_append_left _ (List.mem_append_left _ lm11))), List.forall_mem_cons.mpr ⟨(List.mem_cons_of_mem _ (List.mem_append_left _ (List.mem_append_left _ lm12))), List.forall_mem_cons.mpr ⟨(List.mem_cons_of_mem _ (List.mem_append_left _ (List.mem_append_left _ lm13))), List.forall_mem_cons.mpr ⟨(List.mem_cons_of_mem _ (List.mem_append_left _ (List.mem_append_left _ lm6))), List.forall_mem_cons.mpr ⟨(List.mem_cons_of_mem _ (List.mem_append_left _ (List.mem_append_left _ lm14))), List.forall_mem_cons.mpr ⟨(List.mem_cons_of_mem _ (List.mem_append_left _ (List.mem_append_left _ lm15))), List.forall_mem_cons.mpr ⟨(List.mem_cons_of_mem _ (List.mem_append_left _ (List.mem_append_left _ lm16))), List.forall_mem_cons.mpr ⟨(List.mem_cons_of_mem _ (List.mem_append_left _ (List.mem_append_left _ lm17))), List.forall_mem_cons.mpr ⟨(List.mem_cons_of_mem _ (List.mem_append_left _ (List.mem_append_left _ lm18))), List.forall_mem_cons.mpr ⟨(List.mem_cons_of_mem _ (List.mem_append_left _ (List.mem_append_left _ lm19))), List.forall_mem_cons.mpr ⟨(List.mem_cons_of_mem _ (List.mem_append_left _ (List.mem_append_left _ lm20))), (fun _ h => absurd h List.not_mem_nil)⟩⟩⟩⟩⟩⟩⟩⟩⟩⟩⟩⟩⟩⟩, (fun _ h => (List.mem_cons_of_mem _ (List.mem_append_right _ h)))⟩⟩) gw_X12_kind)
theorem gw_X12_comes : wsX12_comes.all goodWord = true := by decide +kernel
theorem gX12_lineError_X12_comes : GoodIn wsX12_lineError (wsV RX12 148 RX12 yX12_comes wsX12_comes) := goodIn_app (goodIn_sub (List.forall_mem_cons.mpr ⟨(List.mem_cons_of_mem _ (List.mem_append_left _ (List.mem_append_left _ lm21))), List.forall_mem_cons.mpr ⟨(List.mem_cons_of_mem _ (List.mem_append_left _ (List.mem_append_left _ lm22))), List.forall_mem_cons.mpr ⟨(List.mem_cons_of_mem _ (List.mem_append_left _ (List.mem_append_left _ lm23))), List.forall_mem_cons.mpr ⟨(List.mem_cons_of_mem _ (List.mem_append_left _ (List.mem_append_left _ lm6))), (fun _ h => absurd h List.not_mem_nil)⟩⟩⟩⟩) (by decide +kernel)) (goodIn_sub (by unfold wsX12_comes; exact List.forall_mem_cons.mpr ⟨(List.mem_cons_of_mem _ (List.mem_append_left _ (List.mem_append_right _ (List.mem_append_left _ lm0)))), List.forall_mem_append.mpr ⟨List.forall_mem_cons.mpr ⟨(List.mem_cons_of_mem _ (List.mem_append_left _ (List.mem_append_right _ (List.mem_append_left _ lm1)))), List.forall_mem_cons.mpr ⟨(List.mem_cons_of_mem _ (List.mem_append_left _ (List.mem_append_left _ lm2))), List.forall_mem_cons.mpr ⟨(List.mem_cons_of_mem _ (List.mem_append_left _ (List.mem_append_right _ (List.mem_append_left _ lm2)))), List.forall_mem_cons.mpr ⟨(List.mem_cons_of_mem _ (List.mem_append_left _ (List.mem_append_right _ (List.mem_append_left _ lm3)))), List.forall_mem_cons.mpr ⟨(List.mem_cons_of_mem _ (List.mem_append_left _ (List.mem_append_left _ lm6))), List.forall_mem_cons.mpr ⟨(List.mem_cons_of_mem _ (List.mem_append_left _ (List.mem_append_right _ (List.mem_append_left _ lm4)))), List.forall_mem_cons.mpr ⟨(List.mem_cons_of_mem _ (List.mem_append_left _ (List.mem_append_right _ (List.mem_append_left _ lm5)))), List.forall_mem_cons.mpr ⟨(List.mem_cons_of_mem _ (List.mem_append_left _ (List.mem_append_right _ (List.mem_append_left _ lm6)))), (fun _ h => absurd h List.not_mem_nil)⟩⟩⟩⟩⟩⟩⟩⟩, (fun _ h => (List.mem_cons_of_mem _ (List.mem_append_right _ h)))⟩⟩) gw_X12_comes)
theorem gw_X12_title : wsX12_title.all goodWord = true := by decide +kernel
theorem gX12_lineError_X12_title : GoodIn wsX12_lineError (wsV RX12 161 RX12 yX12_title wsX12_title) := goodIn_app (goodIn_sub (List.forall_mem_cons.mpr ⟨(List.mem_cons_of_mem _ (List.mem_append_left _ (List.mem_append_right _ (List.mem_append_right _ (List.mem_append_right _ lm1))))), List.forall_mem_cons.mpr ⟨(List.mem_cons_of_mem _ (List.mem_append_left _ (List.mem_append_right _ (List.mem_append_right _ (List.mem_append_right _ lm2))))), List.forall_mem_cons.mpr ⟨(List.mem_cons_of_mem _ (List.mem_append_left _ (List.mem_append_right _ (List.mem_append_right _ (List.mem_append_right _ lm3))))), List.forall_mem_cons.mpr ⟨(List.mem_cons_of_mem _ (List.mem_append_left _ (List.mem_append_left _ lm6))), (fun _ h => absurd h List.not_mem_nil)⟩⟩⟩⟩) (by decide +kernel)) (goodIn_sub (by unfold wsX12_title; exact List.forall_mem_cons.mpr ⟨(List.mem_cons_of_mem _ (List.mem_append_left _ (List.mem_append_right _ (List.mem_append_right _ (List.mem_append_right _ lm4))))), List.forall_mem_append.mpr ⟨List.forall_mem_cons.mpr ⟨(List.mem_cons_of_mem _ (List.mem_append_left _ (List.mem_append_left _ lm0))), List.forall_mem_cons.mpr ⟨(List.mem_cons_of_mem _ (List.mem_append_left _ (List.mem_append_right _ (List.mem_append_right _ (List.mem_append_right _ lm5))))), List.forall_mem_cons.mpr ⟨(List.mem_cons_of_mem _ (List.mem_append_left _ (List.mem_append_right _ (List.mem_append_right _ (List.mem_append_right _ lm6))))), List.forall_mem_cons.mpr ⟨(List.mem_cons_of_mem _ (List.mem_append_left _ (List.mem_append_right _ (List.mem_append_right _ (List.mem_append_right _ lm7))))), List.forall_mem_cons.mpr ⟨(List.mem_cons_of_mem _ (List.mem_append_left _ (List.mem_append_right _ (List.mem_append_left _ lm11)))), List.forall_mem_cons.mpr ⟨(List.mem_cons_of_mem _ (List.mem_append_left _ (List.mem_append_left _ lm2))), List.forall_mem_cons.mpr ⟨(List.mem_cons_of_mem _ (List.mem_append_left _ (List.mem_append_right _ (List.mem_append_right _ (List.mem_append_right _ lm8))))), List.forall_mem_cons.mpr ⟨(List.mem_cons_of_mem _ (List.mem_append_left _ (List.mem_append_right _ (List.mem_append_right _ (List.mem_append_right _ lm9))))), List.forall_mem_cons.mpr ⟨(List.mem_cons_of_mem _ (List.mem_append_left _ (List.mem_append_right _ (List.mem_append_right _ (List.mem_append_right _ lm10))))), List.forall_mem_cons.mpr ⟨(List.mem_cons_of_mem _ (List.mem_append_left _ (List.mem_append_left _ lm1))), List.forall_mem_cons.mpr ⟨(List.mem_cons_of_mem _ (List.mem_append_left _ (List.mem_append_right _ (List.mem_append_right _ (List.mem_append_right _ lm11))))), List.forall_mem_cons.mpr ⟨(List.mem_cons_of_mem _ (List.mem_append_left _ (List.mem_append_right _ (List.mem_append_right _ (List.mem_append_right _ lm12))))), List.forall_mem_cons.mpr ⟨(List.mem_cons_of_mem _ (List.mem_append_left _ (List.mem_append_right _ (List.mem_append_left _ lm19)))), List.forall_mem_cons.mpr ⟨(List.mem_cons_of_mem _ (List.mem_append_left _ (List.mem_append_right _ (List.mem_append_left _ lm1)))), (fun _ h => absurd h List.not_mem_nil)⟩⟩⟩⟩⟩⟩⟩⟩⟩⟩⟩⟩⟩⟩, (fun _ h => (List.mem_cons_of_mem _ (List.mem_append_right _ h)))⟩⟩) gw_X12_title)
theorem gw_X12_step : wsX12_step.all goodWord = true := by decide +kernel
theorem gX12_lineError_X12_step : GoodIn wsX12_lineError (wsV RX12 158 RX12 yX12_step wsX12_step) := goodIn_app (goodIn_sub (List.forall_mem_cons.mpr ⟨(List.mem_cons_of_mem _ (List.mem_append_left _ (List.mem_append_right _ (List.mem_append_right _ (List.mem_append_left _ lm16))))), List.forall_mem_cons.mpr ⟨(List.mem_cons_of_mem _ (List.mem_append_left _ (List.mem_append_right _ (List.mem_append_right _ (List.mem_append_left _ lm17))))), List.forall_mem_cons.mpr ⟨(List.mem_cons_of_mem _ (List.mem_append_left _ (List.mem_append_right _ (List.mem_append_right _ (List.mem_append_left _ lm18))))), List.forall_mem_cons.mpr ⟨(List.mem_cons_of_mem _ (List.mem_append_left _ (List.mem_append_left _ lm6))), (fun _ h => absurd h List.not_mem_nil)⟩⟩⟩⟩) (by decide +kernel)) (goodIn_sub (by unfold wsX12_step; exact List.forall_mem_cons.mpr ⟨(List.mem_cons_of_mem _ (List.mem_append_left _ (List.mem_append_right _ (List.mem_append_right _ (List.mem_append_left _ lm19))))), List.forall_mem_append.mpr ⟨List.forall_mem_cons.mpr ⟨(List.mem_cons_of_mem _ (List.mem_append_left _ (List.mem_append_right _ (List.mem_append_right _ (List.mem_append_left _ lm20))))), List.forall_mem_cons.mpr ⟨(List.mem_cons_of_mem _ (List.mem_append_left _ (List.mem_append_left _ lm9))), List.forall_mem_cons.mpr ⟨(List.mem_cons_of_mem _ (List.mem_append_left _ (List.mem_append_left _ lm8))), List.forall_mem_cons.mpr ⟨(List.mem_cons_of_mem _ (List.mem_append_left _ (List.mem_append_right _ (List.mem_append_right _ (List.mem_append_left _ lm21))))), List.forall_mem_cons.mpr ⟨(List.mem_cons_of_mem _ (List.mem_append_left _ (List.mem_append_left _ lm1))), List.forall_mem_cons.mpr ⟨(List.mem_cons_of_mem _ (List.mem_append_left _ (List.mem_append_right _ (List.mem_append_right _ (List.mem_append_left _ lm22))))), List.forall_mem_cons.mpr ⟨(List.mem_cons_of_mem _ (List.mem_append_left _ (List.mem_append_right _ (List.mem_append_right _ (List.mem_append_left _ lm23))))), List.forall_mem_cons.mpr ⟨(List.mem_cons_of_mem _ (List.mem_append_left _ (List.mem_append_right _ (List.mem_append_right _ (List.mem_append_right _ lm0))))), List.forall_mem_cons.mpr ⟨(List.mem_cons_of_mem _ (List.mem_append_left _ (List.mem_append_right _ (List.mem_append_left _ lm19)))), List.forall_mem_cons.mpr ⟨(List.mem_cons_of_mem _ (List.mem_append_left _ (List.mem_append_left _ lm2))), List.forall_mem_cons.mpr ⟨(List.mem_cons_of_mem _ (List.mem_append_left _ (List.mem_append_right _ (List.mem_append_left _ lm12)))), List.forall_mem_cons.mpr ⟨(List.mem_cons_of_mem _ (List.mem_append_left _ (List.mem_append_right _ (List.mem_append_left _ lm13)))), List.forall_mem_cons.mpr ⟨(List.mem_cons_of_mem _ (List.mem_append_left _ (List.mem_append_left _ lm6))), List.forall_mem_cons.mpr ⟨(List.mem_cons_of_mem _ (List.mem_append_left _ (List.mem_append_right _ (List.mem_append_left _ lm14)))), (fun _ h => absurd h List.not_mem_nil)⟩⟩⟩⟩⟩⟩⟩⟩⟩⟩⟩⟩⟩⟩, (fun _ h => (List.mem_cons_of_mem _ (List.mem_append_right _ h)))⟩⟩) gw_X12_step)
theorem gw_X12_row : wsX12_row.all goodWord = true := by decide +kernel
theorem gX12_lineError_X12_row : GoodIn wsX12_lineError (wsV RX12 155 RX12 yX12_row wsX12_row) := goodIn_app (goodIn_sub (List.forall_mem_cons.mpr ⟨(List.mem_cons_of_mem _ (List.mem_append_left _ (List.mem_append_right _ (List.mem_append_left _ lm15)))), List.forall_mem_cons.mpr ⟨(List.mem_cons_of_mem _ (List.mem_append_left _ (List.mem_append_right _ (List.mem_append_left _ lm16)))), List.forall_mem_cons.mpr ⟨(List.mem_cons_of_mem _ (List.mem_append_left _ (List.mem_append_right _ (List.mem_append_left _ lm17)))), List.forall_mem_cons.mpr ⟨(List.mem_cons_of_mem _ (List.mem_append_left _ (List.mem_append_left _ lm6))), (fun _ h => absurd h List.not_mem_nil)⟩⟩⟩⟩) (by decide +kernel)) (goodIn_sub (by unfold wsX12_row; exact List.forall_mem_cons.mpr ⟨(List.mem_cons_of_mem _ (List.mem_append_left _ (List.mem_append_right _ (List.mem_append_left _ lm18)))), List.forall_mem_append.mpr ⟨List.forall_mem_append.mpr ⟨List.forall_mem_cons.mpr ⟨(List.mem_cons_of_mem _ (List.mem_append_left _ (List.mem_append_left _ lm8))), List.forall_mem_cons.mpr ⟨(List.mem_cons_of_mem _ (List.mem_append_left _ (List.mem_append_left _ lm9))), List.forall_mem_cons.mpr ⟨(List.mem_cons_of_mem _ (List.mem_append_left _ (List.mem_append_right _ (List.mem_append_left _ lm19)))), List.forall_mem_cons.mpr ⟨(List.mem_cons_of_mem _ (List.mem_append_left _ (List.mem_append_right _ (List.mem_append_left _ lm20)))), List.forall_mem_cons.mpr ⟨(List.mem_cons_of_mem _ (List.mem_append_left _ (List.mem_append_right _ (List.mem_append_left _ lm21)))), List.forall_mem_cons.mpr ⟨(List.mem_cons_of_mem _ (List.mem_append_left _ (List.mem_append_right _ (List.mem_append_left _ lm22)))), List.forall_mem_cons.mpr ⟨(List.mem_cons_of_mem _ (List.mem_append_left _ (List.mem_append_right _ (List.mem_append_left _ lm23)))), List.forall_mem_cons.mpr ⟨(List.mem_cons_of_mem _ (List.mem_append_left _ (List.mem_append_left _ lm2))), List.forall_mem_cons.mpr ⟨(List.mem_cons_of_mem _ (List.mem_append_left _ (List.mem_append_right _ (List.mem_append_right _ (List.mem_append_left _ lm0))))), List.forall_mem_cons.mpr ⟨(List.mem_cons_of_mem _ (List.mem_append_left _ (List.mem_append_right _ (List.mem_append_right _ (List.mem_append_left _ lm1))))), List.forall_mem_cons.mpr ⟨(List.mem_cons_of_mem _ (List.mem_append_left _ (List.mem_append_right _ (List.mem_append_right _ (List.mem_append_left _ lm2))))), List.forall_mem_cons.mpr ⟨(List.mem_cons_of_mem _ (List.mem_append_left _ (List.mem_append_left _ lm6))), List.forall_mem_cons.mpr ⟨(List.mem_cons_of_mem _ (List.mem_append_left _ (List.mem_append_right _ (List.mem_append_right _ (List.mem_append_left _ lm3))))), List.forall_mem_cons.mpr ⟨(List.mem_cons_of_mem _ (List.mem_append_left _ (List.mem_append_right _ (List.mem_append_right _ (List.mem_append_left _ lm4))))), List.forall_mem_cons.mpr ⟨(List.mem_cons_of_mem _ (List.mem_append_left _ (List.mem_append_right _ (List.mem_append_right _ (List.mem_append_left _ lm5))))), List.forall_mem_cons.mpr ⟨(List.mem_cons_of_mem _ (List.mem_append_left _ (List.mem_append_right _ (List.mem_append_right _ (List.mem_append_left _ lm6))))), List.forall_mem_cons.mpr ⟨(List.mem_cons_of_mem _ (List.mem_append_left _ (List.mem_append_right _ (List.mem_append_right _ (List.mem_append_left _ lm7))))), List.forall_mem_cons.mpr ⟨(List.mem_cons_of_mem _ (List.mem_append_left _ (List.mem_append_right _ (List.mem_append_right _ (List.mem_append_left _ lm8))))), List.forall_mem_cons.mpr ⟨(List.mem_cons_of_mem _ (List.mem_append_left _ (List.mem_append_right _ (List.mem_append_right _ (List.mem_append_left _ lm9))))), List.forall_mem_cons.mpr ⟨(List.mem_cons_of_mem _ (List.mem_append_left _ (List.mem_append_right _ (List.mem_append_right _ (List.mem_append_left _ lm10))))), List.forall_mem_cons.mpr ⟨(List.mem_cons_of_mem _ (List.mem_append_left _ (List.mem_append_right _ (List.mem_append_right _ (List.mem_append_left _ lm11))))), List.forall_mem_cons.mpr ⟨(List.mem_cons_of_mem _ (List.mem_append_left _ (List.mem_append_right _ (List.mem_append_right _ (List.mem_append_left _ lm12))))), List.forall_mem_cons.mpr ⟨(List.mem_cons_of_mem _ (List.mem_append_left _ (List.mem_append_right _ (List.mem_append_left _ lm12)))), List.forall_mem_cons.mpr ⟨(List.mem_cons_of_mem _ (List.mem_append_left _ (List.mem_append_right _ (List.mem_append_left _ lm13)))), (fun _ h => absurd h List.not_mem_nil)⟩⟩⟩⟩⟩⟩⟩⟩⟩⟩⟩⟩⟩⟩⟩⟩⟩⟩⟩⟩⟩⟩⟩⟩, List.forall_mem_cons.mpr ⟨(List.mem_cons_of_mem _ (List.mem_append_left _ (List.mem_append_right _ (List.mem_append_left _ lm14)))), List.forall_mem_cons.mpr ⟨(List.mem_cons_of_mem _ (List.mem_append_left _ (List.mem_append_right _ (List.mem_append_right _ (List.mem_append_left _ lm13))))), List.forall_mem_cons.mpr ⟨(List.mem_cons_of_mem _ (List.mem_append_left _ (List.mem_append_right _ (List.mem_append_right _ (List.mem_append_left _ lm14))))), List.forall_mem_cons.mpr ⟨(List.mem_cons_of_mem _ (List.mem_append_left _ (List.mem_append_right _ (List.mem_append_right _ (List.mem_append_left _ lm15))))), (fun _ h => absurd h List.not_mem_nil)⟩⟩⟩⟩⟩, (fun _ h => (List.mem_cons_of_mem _ (List.mem_append_right _ h)))⟩⟩) gw_X12_row)
theorem gw_X12_tags : wsX12_tags.all goodWord = true := by decide +kernel
theorem gX12_lineError_X12_tags : GoodIn wsX12_lineError (wsV RX12 152 RX12 yX12_tags wsX12_tags) := goodIn_app (goodIn_sub (List.forall_mem_cons.mpr ⟨(List.mem_cons_of_mem _ (List.mem_append_left _ (List.mem_append_right _ (List.mem_append_left _ lm7)))), List.forall_mem_cons.mpr ⟨(List.mem_cons_of_mem _ (List.mem_append_left _ (List.mem_append_right _ (List.mem_append_left _ lm8)))), List.forall_mem_cons.mpr ⟨(List.mem_cons_of_mem _ (List.mem_append_left _ (List.mem_append_right _ (List.mem_append_left _ lm9)))), List.forall_mem_cons.mpr ⟨(List.mem_cons_of_mem _ (List.mem_append_left _ (List.mem_append_left _ lm6))), (fun _ h => absurd h List.not_mem_nil)⟩⟩⟩⟩) (by decide +kernel)) (goodIn_sub (by unfold wsX12_tags; exact List.forall_mem_cons.mpr ⟨(List.mem_cons_of_mem _ (List.mem_append_left _ (List.mem_append_right _ (List.mem_append_left _ lm10)))), List.forall_mem_append.mpr ⟨List.forall_mem_cons.mpr ⟨(List.mem_cons_of_mem _ (List.mem_append_left _ (List.mem_append_left _ lm8))), List.forall_mem_cons.mpr ⟨(List.mem_cons_of_mem _ (List.mem_append_left _ (List.mem_append_left _ lm9))), List.forall_mem_cons.mpr ⟨(List.mem_cons_of_mem _ (List.mem_append_left _ (List.mem_append_right _ (List.mem_append_left _ lm11)))), List.forall_mem_cons.mpr ⟨(List.mem_cons_of_mem _ (List.mem_append_left _ (List.mem_append_right _ (List.mem_append_left _ lm1)))), List.forall_mem_cons.mpr ⟨(List.mem_cons_of_mem _ (List.mem_append_left _ (List.mem_append_left _ lm11))), List.forall_mem_cons.mpr ⟨(List.mem_cons_of_mem _ (List.mem_append_left _ (List.mem_append_left _ lm12))), List.forall_mem_cons.mpr ⟨(List.mem_cons_of_mem _ (List.mem_append_left _ (List.mem_append_left _ lm13))), List.forall_mem_cons.mpr ⟨(List.mem_cons_of_mem _ (List.mem_append_left _ (List.mem_append_left _ lm6))), List.forall_mem_cons.mpr ⟨(List.mem_cons_of_mem _ (List.mem_append_left _ (List.mem_append_left _ lm14))), List.forall_mem_cons.mpr ⟨(List.mem_cons_of_mem _ (List.mem_append_left _ (List.mem_append_right _ (List.mem_append_left _ lm12)))), List.forall_mem_cons.mpr ⟨(List.mem_cons_of_mem _ (List.mem_append_left _ (List.mem_append_right _ (List.mem_append_left _ lm13)))), List.forall_mem_cons.mpr ⟨(List.mem_cons_of_mem _ (List.mem_append_left _ (List.mem_append_right _ (List.mem_append_left _ lm14)))), (fun _ h => absurd h List.not_mem_nil)⟩⟩⟩⟩⟩⟩⟩⟩⟩⟩⟩⟩, (fun _ h => (List.mem_cons_of_mem _ (List.mem_append_right _ h)))⟩⟩) gw_X12_tags)
set_option maxHeartbeats 2000000 in
set_option maxRecDepth 100000 in
theorem m_lineError (l : Launch) (D : va_G) (g : Nat → Nat) (ka : Nat → ClassId) (ad : Nat → Nat) (i : Nat → Nat → Int32) (r : Nat → Nat → Nat) (L : Nat → Nat → Int64) (d : Nat → Nat → UInt64) (x : Int32) (c1 : Nat → Nat → Int32) (o1 : Nat) (t1 : Nat) (c2 : Nat → Nat → Int32) (o2 : Nat) (t2 : Nat) (hO : OkI i) (hR : RS r) (sz : Nat) (hOc : OkI c1) (hOc2 : OkI c2) (hQ : QI c1 o1 t1) (hM : MRQ i c1 t1) (hdl : (i 36 7).toInt = (c1 3 1).toInt) (hL : liQ c1 o1 t1 c2 o2 t2 x.toInt (lnL (i 380) 0 (i 36 4).toInt)) : Met l yX12_lineError wsX12_lineError ({ frames := 3, cells := 0, slots := 0, locals := 75 }) (va_Pc [.ref (g 36), .int x] (sj_B D (hwc g ka i r L d) (hT ka) sz (gx ad (va_A (hwc g ka i r L d) sz)))) (sj_Qi (S := (Nat → Nat → Int32)) D (fun v u => OkI u ∧ (∀ a b, ¬ ((a = 36 ∧ (b = 8 ∨ b = 9 ∨ b = 10 ∨ b = 11 ∨ b = 13 ∨ b = 17 ∨ b = 18 ∨ b = 23 ∨ b = 26 ∨ b = 27)) ∨ a = 382 ∨ a = 383 ∨ a = 384 ∨ a = 385 ∨ a = 386 ∨ a = 387 ∨ a = 388 ∨ a = 389 ∨ a = 390 ∨ a = 391 ∨ a = 392 ∨ a = 393 ∨ a = 394 ∨ a = 395 ∨ a = 396) → u a b = i a b) ∧ ((0 : Int) ≤ v.toInt ∧ v.toInt ≤ 5) ∧ (leM u c1 c2 t1 t2 x.toInt v.toInt)) (fun u => hwc g ka u r L d) (fun _ => []) (va_A (hwc g ka i r L d) sz)) 0 0 (va_A (hwc g ka i r L d) sz) := by
  refine x_met (Ex := gx ad) (cc := cX12_lineError) (maxL := 3) (ret := (some .int)) (by decide) rfl (Nat.le_of_ble_eq_true rfl) ?_
  intro p e s m below meth c A ls hx hb hr hml hts hown hlocks hA hS hH hK hE hl
  have hown : s.vm.findClass RX12 = some m.cls := hown
  have in12 : ∀ w ∈ wsX120, w ∈ wsX12_lineError := (fun _ h => (List.mem_cons_of_mem _ (List.mem_append_right _ h)))
  have wd0 := hts (.fieldLink RX12 117 "StoryDeskModel" "groups" "I") (List.mem_cons_of_mem _ (List.mem_append_left _ (List.mem_append_left _ lm0)))
  have wd1 := hts (.fieldLink RX12 105 "StoryDeskModel" "owner" "I") (List.mem_cons_of_mem _ (List.mem_append_left _ (List.mem_append_left _ lm1)))
  have wd2 := hts (.fieldLink RX12 50 "StoryDeskModel" "state" "I") (List.mem_cons_of_mem _ (List.mem_append_left _ (List.mem_append_left _ lm2)))
  have hl : lv_has ls 3 [(0, .ref (g 36)), (1, .int x)] := hl
  have hK : va_K D vwCl (hT ka) s := hK
  have hg_1 := s_rng x
  have hw4 : (0 : Int) ≤ (i 36 4).toInt ∧ (i 36 4).toInt ≤ 480 := hO 36 4
  have hd7 : (0 : Int) ≤ (i 36 7).toInt ∧ (i 36 7).toInt ≤ 1 := hO 36 7
  have hb11 : (0 : Int) ≤ (i 36 11).toInt ∧ (i 36 11).toInt ≤ 5 := hO 36 11
  refine lv_aload_n hx hb dX12_lineError_0 rfl (lv_at hl 0 rfl) ?_
  refine x_calli (va_runV (As := []) (rest := []) ⟨hx, hb, hml, hown, hts⟩ (m_kind l D g ka ad i r L d  hO hR s.heap.size ) (cwV 0 hts gX12_lineError_X12_kind rfl rfl rfl (by decide +kernel) ⟨(Nat.le_of_ble_eq_true rfl), (Nat.le_of_ble_eq_true rfl)⟩) (x_preV (q := (RX12, TX12, 86)) hH hK (q_obj (by decide) (rfl : kd 36 = 12) (by decide)) rfl gxb (gxw hE hS (x_F hH hS hA))) rfl rfl hl.1 rfl (lv_room (Nat.le_of_ble_eq_true rfl)) dX12_lineError_1 ⟨(Nat.le_of_ble_eq_true rfl), (Nat.le_of_ble_eq_true rfl)⟩) hH hS hA rfl rfl (fun r_2 _ H locs hw_3 hH hS => ?_)
  obtain ⟨hr_5, he_6⟩ := hw_3
  have hr_5 : (0 : Int) ≤ r_2.toInt ∧ r_2.toInt ≤ 9 := hr_5
  rw [hdl] at he_6
  have hk := he_6.symm
  refine lv_istore_n (lv' := [(2, .int r_2), (0, .ref (g 36)), (1, .int x)]) hx hb dX12_lineError_4 rfl hl (by decide) rfl (fun ls hl => ?_)
  refine lv_iload_n hx hb dX12_lineError_5 rfl (lv_at hl 0 rfl) ?_
  refine lv_if_ne (tgt := 11) hx hb dX12_lineError_6 (by decide) (fun c_7 => ?_) (fun c_7 => ?_)
  · skip
    have h_8 := s_ne (rfl : r_2.toInt = _) (show (0 : Int32).toInt = 0 from rfl) c_7
    refine lv_aload_n hx hb dX12_lineError_11 rfl (lv_at hl 1 rfl) ?_
    refine lv_iload_n hx hb dX12_lineError_12 rfl (lv_at hl 0 rfl) ?_
    refine x_calli (va_runV (As := [.int r_2]) (rest := []) ⟨hx, hb, hml, hown, hts⟩ (m_comes l D g ka ad i r L d r_2 hO hR H.size (by first | omega | decide) (by first | omega | decide)) (cwV 1 hts gX12_lineError_X12_comes rfl rfl rfl (by decide +kernel) ⟨(Nat.le_of_ble_eq_true rfl), (Nat.le_of_ble_eq_true rfl)⟩) (x_preV (q := (RX12, TX12, 86)) hH hK (q_obj (by decide) (rfl : kd 36 = 12) (by decide)) rfl gxb (gxw hE hS (x_F hH hS hA))) rfl rfl hl.1 rfl (lv_room (Nat.le_of_ble_eq_true rfl)) dX12_lineError_13 ⟨(Nat.le_of_ble_eq_true rfl), (Nat.le_of_ble_eq_true rfl)⟩) hH hS hA rfl rfl (fun r_9 _ H locs hw_10 hH hS => ?_)
    obtain ⟨hr_12, he_13⟩ := hw_10
    have hr_12 : (0 : Int) ≤ r_9.toInt ∧ r_9.toInt ≤ 1 := hr_12
    refine lv_if_ne (tgt := 21) hx hb dX12_lineError_16 (by decide) (fun c_14 => ?_) (fun c_14 => ?_)
    · skip
      have h_15 := s_ne (rfl : r_9.toInt = _) (show (0 : Int32).toInt = 0 from rfl) c_14
      refine lv_iload_n hx hb dX12_lineError_21 rfl (lv_at hl 0 rfl) ?_
      refine lv_iconst (v := 1) hx hb dX12_lineError_22 (by decide) ?_
      refine lv_icmp_ne (tgt := 31) hx hb dX12_lineError_23 (by decide) (fun c_16 => ?_) (fun c_16 => ?_)
      · skip
        have h_17 := s_ne (rfl : r_2.toInt = _) (show (1 : Int32).toInt = 1 from rfl) c_16
        refine lv_iload_n hx hb dX12_lineError_31 rfl (lv_at hl 0 rfl) ?_
        refine lv_iconst (v := 2) hx hb dX12_lineError_32 (by decide) ?_
        refine lv_icmp_ne (tgt := 42) hx hb dX12_lineError_33 (by decide) (fun c_18 => ?_) (fun c_18 => ?_)
        · skip
          have h_19 := s_ne (rfl : r_2.toInt = _) (show (2 : Int32).toInt = 2 from rfl) c_18
          refine lv_iload_n hx hb dX12_lineError_42 rfl (lv_at hl 0 rfl) ?_
          refine lv_bipush (v := 8) hx hb dX12_lineError_43 (by decide) ?_
          refine lv_icmp_ne (tgt := 54) hx hb dX12_lineError_45 (by decide) (fun c_20 => ?_) (fun c_20 => ?_)
          · skip
            have h_21 := s_ne (rfl : r_2.toInt = _) (show (8 : Int32).toInt = 8 from rfl) c_20
            refine lv_iload_n hx hb dX12_lineError_54 rfl (lv_at hl 0 rfl) ?_
            refine lv_bipush (v := 9) hx hb dX12_lineError_55 (by decide) ?_
            refine lv_icmp_ne (tgt := 62) hx hb dX12_lineError_57 (by decide) (fun c_22 => ?_) (fun c_22 => ?_)
            · skip
              have h_23 := s_ne (rfl : r_2.toInt = _) (show (9 : Int32).toInt = 9 from rfl) c_22
              refine lv_iload_n hx hb dX12_lineError_62 rfl (lv_at hl 0 rfl) ?_
              refine lv_iconst (v := 5) hx hb dX12_lineError_63 (by decide) ?_
              refine lv_icmp_eq (tgt := 74) hx hb dX12_lineError_64 (by decide) (fun c_24 => ?_) (fun c_24 => ?_)
              · skip
                have h_25 := s_eq (rfl : r_2.toInt = _) (show (5 : Int32).toInt = 5 from rfl) c_24
                refine lv_aload_n hx hb dX12_lineError_74 rfl (lv_at hl 1 rfl) ?_
                refine lv_bipush (v := 20) hx hb dX12_lineError_75 (by decide) ?_
                refine lv_aload_n hx hb dX12_lineError_77 rfl (lv_at hl 1 rfl) ?_
                have bx_26 : (0 : Int) ≤ (i 36 11).toInt ∧ (i 36 11).toInt ≤ 5 := hO 36 11
                refine h_geti (ci := 12) (C := RX12) (F := TX12) (N := 86) hx hb hts in12 hown hK hH (by decide) (rfl : kd 36 = 12) (by decide) rfl 11 (by decide) wd0 (fun _ h9 => h9) (by decide) rfl dX12_lineError_78 ?_
                refine lv_iadd hx hb dX12_lineError_81 ?_
                obtain ⟨z_27, ez_27, hz_27⟩ := s_add (show (20 : Int32).toInt = 20 from rfl) (rfl : (i 36 11).toInt = _) (by omega) (by omega)
                refine sj_i ez_27 ?_
                refine lv_iconst (v := 1) hx hb dX12_lineError_82 (by decide) ?_
                refine lv_isub hx hb dX12_lineError_83 ?_
                obtain ⟨z_28, ez_28, hz_28⟩ := s_sub (rfl : z_27.toInt = _) (show (1 : Int32).toInt = 1 from rfl) (by omega) (by omega)
                refine sj_i ez_28 ?_
                have hO_29 := okp hO (n := 36) (k := 18) (v := z_28) (show (0 : Int) ≤ (z_28 : Int32).toInt ∧ (z_28 : Int32).toInt ≤ 24 from ⟨by omega, by omega⟩)
                refine h_puti (ty := .int) (ci := 12) (C := RX12) (F := TX12) (N := 86) hx hb hts in12 tyX12 tyX12_ok nmX12 hown hK hH hS (by decide) (rfl : kd 36 = 12) (by decide) rfl 18 (by decide) wd1 (fun _ h9 => h9) rfl (by decide +kernel) rfl rfl (by decide) rfl dX12_lineError_84 (fun H locs hH hS => ?_)
                refine lv_aload_n hx hb dX12_lineError_87 rfl (lv_at hl 1 rfl) ?_
                refine lv_iconst (v := 2) hx hb dX12_lineError_88 (by decide) ?_
                have hO_30 := okp hO_29 (n := 36) (k := 8) (v := 2) (show (0 : Int) ≤ (2 : Int32).toInt ∧ (2 : Int32).toInt ≤ 8 from ⟨by decide, by decide⟩)
                refine h_puti (ty := .int) (ci := 12) (C := RX12) (F := TX12) (N := 86) hx hb hts in12 tyX12 tyX12_ok nmX12 hown hK hH hS (by decide) (rfl : kd 36 = 12) (by decide) rfl 8 (by decide) wd2 (fun _ h9 => h9) rfl (by decide +kernel) rfl rfl (by decide) rfl dX12_lineError_89 (fun H locs hH hS => ?_)
                refine lv_iconst (v := 0) hx hb dX12_lineError_92 (by decide) ?_
                have hp_31 : ((up2 (up2 i 36 18 z_28) 36 8 2) 36 18).toInt = (z_28 : Int32).toInt := congrArg Int32.toInt (((up2_k _ _ (by decide)).trans (up2_at _ _ _ _)))
                have hp_32 : ((up2 (up2 i 36 18 z_28) 36 8 2) 36 8).toInt = (2 : Int32).toInt := congrArg Int32.toInt ((up2_at _ _ _ _))
                have hl_33 : (2 : Int32).toInt = 2 := rfl
                have hcm := (he_13.resolve_right (fun q => by have := q.1; omega)).2
                have hk1 : r_2.toInt = 5 := by omega
                rw [hk1] at hk hcm
                have hV_34 : leM (up2 (up2 i 36 18 z_28) 36 8 2) c1 c2 t1 t2 x.toInt (0 : Int32).toInt := (le_head (v := 0) (rd_bx hOc).1 hQ hOc hM hL hk ⟨by decide, by decide⟩ hcm (Or.inr ⟨rfl, by omega, Or.inr (Or.inl ⟨rfl, by omega, by omega, (fun b hb => by
                      have hb9 : b ≠ 18 ∧ b ≠ 8 := ⟨fun e9 => hb (by rw [e9]; decide), fun e9 => hb (by rw [e9]; decide)⟩
                      exact ((up2_o _ _ (by omega)).trans (up2_o _ _ (by omega)))), (fun a h1 h2 => funext fun b => ((up2_o _ _ (by omega)).trans (up2_o _ _ (by omega))))⟩)⟩))
                exact sj_zret hx hb hr hlocks rfl hS (up2 (up2 i 36 18 z_28) 36 8 2) ⟨hO_30, (fun a b ha => ((up2_o _ _ (by omega)).trans (up2_o _ _ (by omega)))), ⟨by decide, by decide⟩, hV_34⟩ hH (sj_Knil hK) (Nat.le_of_ble_eq_true rfl) (Nat.le_of_ble_eq_true rfl) dX12_lineError_93
              · skip
                have h_35 := s_ne (rfl : r_2.toInt = _) (show (5 : Int32).toInt = 5 from rfl) c_24
                refine lv_aload_n hx hb dX12_lineError_67 rfl (lv_at hl 1 rfl) ?_
                refine lv_iload_n hx hb dX12_lineError_68 rfl (lv_at hl 0 rfl) ?_
                refine lv_iload_n hx hb dX12_lineError_69 rfl (lv_at hl 2 rfl) ?_
                have hcm := (he_13.resolve_right (fun q => by have := q.1; omega)).2
                have hwp : 0 < (i 36 4).toInt := by
                  rcases Int.lt_or_le 0 (i 36 4).toInt with h9 | h9
                  · exact h9
                  · exfalso; rw [lkd_0 h9] at hk; omega
                have hgr := gr_mq (rd_bx hOc).1 hQ hM hcm ⟨by omega, by omega⟩
                have hgr1 := hgr.1
                have hgr2 := hgr.2.1
                refine x_calli (va_runV (As := [.int r_2, .int x]) (rest := []) ⟨hx, hb, hml, hown, hts⟩ (m_title l D g ka ad i r L d r_2 x hO hR H.size (by first | omega | decide) (by first | omega | decide) (by first | omega | decide) (by first | omega | decide) (by first | omega | decide)) (cwV 2 hts gX12_lineError_X12_title rfl rfl rfl (by decide +kernel) ⟨(Nat.le_of_ble_eq_true rfl), (Nat.le_of_ble_eq_true rfl)⟩) (x_preV (q := (RX12, TX12, 86)) hH hK (q_obj (by decide) (rfl : kd 36 = 12) (by decide)) rfl gxb (gxw hE hS (x_F hH hS hA))) rfl rfl hl.1 rfl (lv_room (Nat.le_of_ble_eq_true rfl)) dX12_lineError_70 ⟨(Nat.le_of_ble_eq_true rfl), (Nat.le_of_ble_eq_true rfl)⟩) hH hS hA rfl rfl (fun r_36 im_38 H locs hw_37 hH hS => ?_)
                have hH : sj_H D A (hwc g ka im_38 r L d) H := hH
                obtain ⟨hO_40, hfr_39, hr_41, hx2_42⟩ := hw_37
                have hr_41 : (0 : Int) ≤ r_36.toInt ∧ r_36.toInt ≤ 5 := hr_41
                have hV_43 : leM im_38 c1 c2 t1 t2 x.toInt (r_36 : Int32).toInt := (le_head (rd_bx hOc).1 hQ hOc hM hL hk ⟨by omega, by omega⟩ hcm hx2_42)
                exact sj_zret hx hb hr hlocks rfl hS im_38 ⟨hO_40, (fun a b ha => (hfr_39 a b (by omega))), ⟨by omega, by omega⟩, hV_43⟩ hH (sj_Knil hK) (Nat.le_of_ble_eq_true rfl) (Nat.le_of_ble_eq_true rfl) dX12_lineError_73
            · skip
              have h_44 := s_eq (rfl : r_2.toInt = _) (show (9 : Int32).toInt = 9 from rfl) c_22
              refine lv_iconst (v := 0) hx hb dX12_lineError_60 (by decide) ?_
              have hcm := (he_13.resolve_right (fun q => by have := q.1; omega)).2
              have hk1 : r_2.toInt = 9 := by omega
              rw [hk1] at hk hcm
              have hV_45 : leM i c1 c2 t1 t2 x.toInt (0 : Int32).toInt := (le_9 hM hL hk hcm)
              exact sj_zret hx hb hr hlocks rfl hS i ⟨hO, (fun a b ha => rfl), ⟨by decide, by decide⟩, hV_45⟩ hH (sj_Knil hK) (Nat.le_of_ble_eq_true rfl) (Nat.le_of_ble_eq_true rfl) dX12_lineError_61
          · skip
            have h_46 := s_eq (rfl : r_2.toInt = _) (show (8 : Int32).toInt = 8 from rfl) c_20
            refine lv_aload_n hx hb dX12_lineError_48 rfl (lv_at hl 1 rfl) ?_
            refine lv_iload_n hx hb dX12_lineError_49 rfl (lv_at hl 2 rfl) ?_
            have hcm := (he_13.resolve_right (fun q => by have := q.1; omega)).2
            have hwp : 0 < (i 36 4).toInt := by
              rcases Int.lt_or_le 0 (i 36 4).toInt with h9 | h9
              · exact h9
              · exfalso; rw [lkd_0 h9] at hk; omega
            have hk1 : r_2.toInt = 8 := by omega
            rw [hk1] at hk hcm
            refine x_calli (va_runV (As := [.int x]) (rest := []) ⟨hx, hb, hml, hown, hts⟩ (m_step l D g ka ad i r L d x hO hR H.size (by first | omega | decide)) (cwV 1 hts gX12_lineError_X12_step rfl rfl rfl (by decide +kernel) ⟨(Nat.le_of_ble_eq_true rfl), (Nat.le_of_ble_eq_true rfl)⟩) (x_preV (q := (RX12, TX12, 86)) hH hK (q_obj (by decide) (rfl : kd 36 = 12) (by decide)) rfl gxb (gxw hE hS (x_F hH hS hA))) rfl rfl hl.1 rfl (lv_room (Nat.le_of_ble_eq_true rfl)) dX12_lineError_50 ⟨(Nat.le_of_ble_eq_true rfl), (Nat.le_of_ble_eq_true rfl)⟩) hH hS hA rfl rfl (fun r_47 im_49 H locs hw_48 hH hS => ?_)
            have hH : sj_H D A (hwc g ka im_49 r L d) H := hH
            obtain ⟨hO_51, hfr_50, hr_52, hx2_53⟩ := hw_48
            have hr_52 : (0 : Int) ≤ r_47.toInt ∧ r_47.toInt ≤ 5 := hr_52
            have hV_54 : leM im_49 c1 c2 t1 t2 x.toInt (r_47 : Int32).toInt := (le_step hQ hOc hM hL hk hcm hx2_53)
            exact sj_zret hx hb hr hlocks rfl hS im_49 ⟨hO_51, (fun a b ha => (hfr_50 a b (by omega))), ⟨by omega, by omega⟩, hV_54⟩ hH (sj_Knil hK) (Nat.le_of_ble_eq_true rfl) (Nat.le_of_ble_eq_true rfl) dX12_lineError_53
        · skip
          have h_55 := s_eq (rfl : r_2.toInt = _) (show (2 : Int32).toInt = 2 from rfl) c_18
          refine lv_aload_n hx hb dX12_lineError_36 rfl (lv_at hl 1 rfl) ?_
          refine lv_iload_n hx hb dX12_lineError_37 rfl (lv_at hl 2 rfl) ?_
          have hcm := (he_13.resolve_right (fun q => by have := q.1; omega)).2
          have hwp : 0 < (i 36 4).toInt := by
            rcases Int.lt_or_le 0 (i 36 4).toInt with h9 | h9
            · exact h9
            · exfalso; rw [lkd_0 h9] at hk; omega
          have hk1 : r_2.toInt = 2 := by omega
          rw [hk1] at hk hcm
          have hch := lkd_2 (Int.le_refl 0) hk
          refine x_calli (va_runV (As := [.int x]) (rest := []) ⟨hx, hb, hml, hown, hts⟩ (m_row l D g ka ad i r L d x hO hR H.size (by first | omega | decide) hch.2) (cwV 1 hts gX12_lineError_X12_row rfl rfl rfl (by decide +kernel) ⟨(Nat.le_of_ble_eq_true rfl), (Nat.le_of_ble_eq_true rfl)⟩) (x_preV (q := (RX12, TX12, 86)) hH hK (q_obj (by decide) (rfl : kd 36 = 12) (by decide)) rfl gxb (gxw hE hS (x_F hH hS hA))) rfl rfl hl.1 rfl (lv_room (Nat.le_of_ble_eq_true rfl)) dX12_lineError_38 ⟨(Nat.le_of_ble_eq_true rfl), (Nat.le_of_ble_eq_true rfl)⟩) hH hS hA rfl rfl (fun r_56 im_58 H locs hw_57 hH hS => ?_)
          have hH : sj_H D A (hwc g ka im_58 r L d) H := hH
          obtain ⟨hO_60, hfr_59, hr_61, hx2_62⟩ := hw_57
          have hr_61 : (0 : Int) ≤ r_56.toInt ∧ r_56.toInt ≤ 5 := hr_61
          have hV_63 : leM im_58 c1 c2 t1 t2 x.toInt (r_56 : Int32).toInt := (le_row hQ hOc hM hL hk hcm hx2_62)
          exact sj_zret hx hb hr hlocks rfl hS im_58 ⟨hO_60, (fun a b ha => (hfr_59 a b (by omega))), ⟨by omega, by omega⟩, hV_63⟩ hH (sj_Knil hK) (Nat.le_of_ble_eq_true rfl) (Nat.le_of_ble_eq_true rfl) dX12_lineError_41
      · skip
        have h_64 := s_eq (rfl : r_2.toInt = _) (show (1 : Int32).toInt = 1 from rfl) c_16
        refine lv_aload_n hx hb dX12_lineError_26 rfl (lv_at hl 1 rfl) ?_
        have hcm := (he_13.resolve_right (fun q => by have := q.1; omega)).2
        have hwp : 0 < (i 36 4).toInt := by
          rcases Int.lt_or_le 0 (i 36 4).toInt with h9 | h9
          · exact h9
          · exfalso; rw [lkd_0 h9] at hk; omega
        have hk1 : r_2.toInt = 1 := by omega
        rw [hk1] at hk hcm
        have hch := lkd_1 (Int.le_refl 0) hk
        refine x_calli (va_runV (As := []) (rest := []) ⟨hx, hb, hml, hown, hts⟩ (m_tags l D g ka ad i r L d  hO hR H.size (by first | omega | decide) hch.2) (cwV 0 hts gX12_lineError_X12_tags rfl rfl rfl (by decide +kernel) ⟨(Nat.le_of_ble_eq_true rfl), (Nat.le_of_ble_eq_true rfl)⟩) (x_preV (q := (RX12, TX12, 86)) hH hK (q_obj (by decide) (rfl : kd 36 = 12) (by decide)) rfl gxb (gxw hE hS (x_F hH hS hA))) rfl rfl hl.1 rfl (lv_room (Nat.le_of_ble_eq_true rfl)) dX12_lineError_27 ⟨(Nat.le_of_ble_eq_true rfl), (Nat.le_of_ble_eq_true rfl)⟩) hH hS hA rfl rfl (fun r_65 im_67 H locs hw_66 hH hS => ?_)
        have hH : sj_H D A (hwc g ka im_67 r L d) H := hH
        obtain ⟨hO_69, hfr_68, hr_70, hx2_71⟩ := hw_66
        have hr_70 : (0 : Int) ≤ r_65.toInt ∧ r_65.toInt ≤ 2 := hr_70
        have hV_72 : leM im_67 c1 c2 t1 t2 x.toInt (r_65 : Int32).toInt := (le_tags hQ hOc2 hM hL hk hcm hx2_71 (fun h1 h2 => by rw [h2]; have := OR_pos (x := c1 3 16) (y := tagW (lnL (i 380) 0 (i 36 4).toInt) 0) (rd_bx hOc).2.2.2.2.2.2.1 ⟨h1, (tagW_r (lnL (i 380) 0 (i 36 4).toInt) 0 ⟨by decide, by decide⟩).2⟩; omega))
        exact sj_zret hx hb hr hlocks rfl hS im_67 ⟨hO_69, (fun a b ha => (hfr_68 a b (by omega))), ⟨by omega, by omega⟩, hV_72⟩ hH (sj_Knil hK) (Nat.le_of_ble_eq_true rfl) (Nat.le_of_ble_eq_true rfl) dX12_lineError_30
    · skip
      have h_73 := s_eq (rfl : r_9.toInt = _) (show (0 : Int32).toInt = 0 from rfl) c_14
      refine lv_iconst (v := 1) hx hb dX12_lineError_19 (by decide) ?_
      have hV_74 : leM i c1 c2 t1 t2 x.toInt (1 : Int32).toInt := (le_1 hM hL hk (by omega) (he_13.resolve_left (fun q => by have := q.1; omega)).2)
      exact sj_zret hx hb hr hlocks rfl hS i ⟨hO, (fun a b ha => rfl), ⟨by decide, by decide⟩, hV_74⟩ hH (sj_Knil hK) (Nat.le_of_ble_eq_true rfl) (Nat.le_of_ble_eq_true rfl) dX12_lineError_20
  · skip
    have h_75 := s_eq (rfl : r_2.toInt = _) (show (0 : Int32).toInt = 0 from rfl) c_7
    refine lv_iconst (v := 0) hx hb dX12_lineError_9 (by decide) ?_
    have hV_76 : leM i c1 c2 t1 t2 x.toInt (0 : Int32).toInt := (le_no hM hL (hk.trans (by omega)))
    exact sj_zret hx hb hr hlocks rfl hS i ⟨hO, (fun a b ha => rfl), ⟨by decide, by decide⟩, hV_76⟩ hH (sj_Knil hK) (Nat.le_of_ble_eq_true rfl) (Nat.le_of_ble_eq_true rfl) dX12_lineError_10
