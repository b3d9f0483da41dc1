theorem upf_k (d : Nat → Nat → UInt64) (n : Nat) {k j : Nat} (v : UInt64) (h : j ≠ k) : upf d n k v n j = d n j := by
  unfold upf
  rw [va_up_self]
  exact if_neg h
/-- a world stays a number while its steps are well -/
def wfP (d : Nat → Nat → UInt64) (w : Int) (P : Prop) : Prop := P → dfin (d 425 w.toNat)
/-- of the worlds only one is another -/
def w1P (d u : Nat → Nat → UInt64) (w : Int) : Prop := ∀ k : Nat, k ≠ w.toNat → u 425 k = d 425 k
/-- a hook leaves the world as it was -/
def d0P (d u : Nat → Nat → UInt64) (w z : Int) : Prop := z < 0 → u 425 w.toNat = d 425 w.toNat
theorem w1P_0 (d : Nat → Nat → UInt64) (w : Int) : w1P d d w := fun _ _ => rfl
theorem w1P_t {d u v : Nat → Nat → UInt64} {w : Int} (h : w1P d u w) (g : w1P u v w) : w1P d v w := fun k hk => (g k hk).trans (h k hk)
theorem dX12_becomes_0 : decode cX12_becomes 0 = .ok (.aload_n 0, 1) := by decide +kernel
theorem dX12_becomes_1 : decode cX12_becomes 1 = .ok (.getfield 442, 3) := by decide +kernel
theorem dX12_becomes_4 : decode cX12_becomes 4 = .ok (.iload_n 1, 1) := by decide +kernel
theorem dX12_becomes_5 : decode cX12_becomes 5 = .ok (.dload_n 2, 1) := by decide +kernel
theorem dX12_becomes_6 : decode cX12_becomes 6 = .ok (.dastore, 1) := by decide +kernel
theorem dX12_becomes_7 : decode cX12_becomes 7 = .ok (.dload_n 2, 1) := by decide +kernel
theorem dX12_becomes_8 : decode cX12_becomes 8 = .ok (.ldc2_w 446, 3) := by decide +kernel
theorem dX12_becomes_11 : decode cX12_becomes 11 = .ok (.dcmp .l, 1) := by decide +kernel
theorem dX12_becomes_12 : decode cX12_becomes 12 = .ok (.ifCond .lt 15, 3) := by decide +kernel
theorem dX12_becomes_27 : decode cX12_becomes 27 = .ok (.iconst 0, 1) := by decide +kernel
theorem dX12_becomes_28 : decode cX12_becomes 28 = .ok (.ireturn, 1) := by decide +kernel
theorem dX12_becomes_15 : decode cX12_becomes 15 = .ok (.dload_n 2, 1) := by decide +kernel
theorem dX12_becomes_16 : decode cX12_becomes 16 = .ok (.ldc2_w 448, 3) := by decide +kernel
theorem dX12_becomes_19 : decode cX12_becomes 19 = .ok (.dcmp .g, 1) := by decide +kernel
theorem dX12_becomes_20 : decode cX12_becomes 20 = .ok (.ifCond .gt 7, 3) := by decide +kernel
theorem dX12_becomes_23 : decode cX12_becomes 23 = .ok (.iconst 1, 1) := by decide +kernel
theorem dX12_becomes_24 : decode cX12_becomes 24 = .ok (.goto 4, 3) := by decide +kernel
theorem dX12_waits_0 : decode cX12_waits 0 = .ok (.iload_n 1, 1) := by decide +kernel
theorem dX12_waits_1 : decode cX12_waits 1 = .ok (.ifCond .gt 5, 3) := by decide +kernel
theorem dX12_waits_6 : decode cX12_waits 6 = .ok (.iload_n 1, 1) := by decide +kernel
theorem dX12_waits_7 : decode cX12_waits 7 = .ok (.bipush 50, 2) := by decide +kernel
theorem dX12_waits_9 : decode cX12_waits 9 = .ok (.aload_n 0, 1) := by decide +kernel
theorem dX12_waits_10 : decode cX12_waits 10 = .ok (.getfield 457, 3) := by decide +kernel
theorem dX12_waits_13 : decode cX12_waits 13 = .ok (.isub, 1) := by decide +kernel
theorem dX12_waits_14 : decode cX12_waits 14 = .ok (.if_icmp .ge 7, 3) := by decide +kernel
theorem dX12_waits_21 : decode cX12_waits 21 = .ok (.bipush 50, 2) := by decide +kernel
theorem dX12_waits_23 : decode cX12_waits 23 = .ok (.aload_n 0, 1) := by decide +kernel
theorem dX12_waits_24 : decode cX12_waits 24 = .ok (.getfield 457, 3) := by decide +kernel
theorem dX12_waits_27 : decode cX12_waits 27 = .ok (.isub, 1) := by decide +kernel
theorem dX12_waits_28 : decode cX12_waits 28 = .ok (.istore_n 2, 1) := by decide +kernel
theorem dX12_waits_29 : decode cX12_waits 29 = .ok (.aload_n 0, 1) := by decide +kernel
theorem dX12_waits_30 : decode cX12_waits 30 = .ok (.dup, 1) := by decide +kernel
theorem dX12_waits_31 : decode cX12_waits 31 = .ok (.getfield 457, 3) := by decide +kernel
theorem dX12_waits_34 : decode cX12_waits 34 = .ok (.iload_n 2, 1) := by decide +kernel
theorem dX12_waits_35 : decode cX12_waits 35 = .ok (.iadd, 1) := by decide +kernel
theorem dX12_waits_36 : decode cX12_waits 36 = .ok (.putfield 457, 3) := by decide +kernel
theorem dX12_waits_39 : decode cX12_waits 39 = .ok (.aload_n 0, 1) := by decide +kernel
theorem dX12_waits_40 : decode cX12_waits 40 = .ok (.dup, 1) := by decide +kernel
theorem dX12_waits_41 : decode cX12_waits 41 = .ok (.getfield 460, 3) := by decide +kernel
theorem dX12_waits_44 : decode cX12_waits 44 = .ok (.iload_n 2, 1) := by decide +kernel
theorem dX12_waits_45 : decode cX12_waits 45 = .ok (.iadd, 1) := by decide +kernel
theorem dX12_waits_46 : decode cX12_waits 46 = .ok (.putfield 460, 3) := by decide +kernel
theorem dX12_waits_49 : decode cX12_waits 49 = .ok (.iload_n 2, 1) := by decide +kernel
theorem dX12_waits_50 : decode cX12_waits 50 = .ok (.iload_n 1, 1) := by decide +kernel
theorem dX12_waits_51 : decode cX12_waits 51 = .ok (.if_icmp .ne 7, 3) := by decide +kernel
theorem dX12_waits_58 : decode cX12_waits 58 = .ok (.iconst 0, 1) := by decide +kernel
theorem dX12_waits_59 : decode cX12_waits 59 = .ok (.ireturn, 1) := by decide +kernel
theorem dX12_waits_54 : decode cX12_waits 54 = .ok (.iconst 1, 1) := by decide +kernel
theorem dX12_waits_55 : decode cX12_waits 55 = .ok (.goto 4, 3) := by decide +kernel
theorem dX12_waits_17 : decode cX12_waits 17 = .ok (.iload_n 1, 1) := by decide +kernel
theorem dX12_waits_18 : decode cX12_waits 18 = .ok (.goto 10, 3) := by decide +kernel
theorem dX12_waits_4 : decode cX12_waits 4 = .ok (.iconst 1, 1) := by decide +kernel
theorem dX12_waits_5 : decode cX12_waits 5 = .ok (.ireturn, 1) := by decide +kernel
theorem dX12_sum_0 : decode cX12_sum 0 = .ok (.iconst 1, 1) := by decide +kernel
theorem dX12_sum_1 : decode cX12_sum 1 = .ok (.istore 4, 2) := by decide +kernel
theorem dX12_sum_3 : decode cX12_sum 3 = .ok (.iconst 0, 1) := by decide +kernel
theorem dX12_sum_4 : decode cX12_sum 4 = .ok (.istore 5, 2) := by decide +kernel
theorem dX12_sum_6 : decode cX12_sum 6 = .ok (.iload 5, 2) := by decide +kernel
theorem dX12_sum_8 : decode cX12_sum 8 = .ok (.aload_n 0, 1) := by decide +kernel
theorem dX12_sum_9 : decode cX12_sum 9 = .ok (.getfield 70, 3) := by decide +kernel
theorem dX12_sum_12 : decode cX12_sum 12 = .ok (.if_icmp .ge 116, 3) := by decide +kernel
theorem dX12_sum_128 : decode cX12_sum 128 = .ok (.iload 4, 2) := by decide +kernel
theorem dX12_sum_130 : decode cX12_sum 130 = .ok (.ireturn, 1) := by decide +kernel
theorem dX12_sum_15 : decode cX12_sum 15 = .ok (.iload_n 3, 1) := by decide +kernel
theorem dX12_sum_16 : decode cX12_sum 16 = .ok (.ifCond .lt 112, 3) := by decide +kernel
theorem dX12_sum_19 : decode cX12_sum 19 = .ok (.iconst 0, 1) := by decide +kernel
theorem dX12_sum_20 : decode cX12_sum 20 = .ok (.istore 6, 2) := by decide +kernel
theorem dX12_sum_22 : decode cX12_sum 22 = .ok (.aload_n 0, 1) := by decide +kernel
theorem dX12_sum_23 : decode cX12_sum 23 = .ok (.getfield 67, 3) := by decide +kernel
theorem dX12_sum_26 : decode cX12_sum 26 = .ok (.iload 5, 2) := by decide +kernel
theorem dX12_sum_28 : decode cX12_sum 28 = .ok (.iaload, 1) := by decide +kernel
theorem dX12_sum_29 : decode cX12_sum 29 = .ok (.iload_n 3, 1) := by decide +kernel
theorem dX12_sum_30 : decode cX12_sum 30 = .ok (.if_icmp .ne 92, 3) := by decide +kernel
theorem dX12_sum_122 : decode cX12_sum 122 = .ok (.iinc 5 1, 3) := by decide +kernel
theorem dX12_sum_125 : decode cX12_sum 125 = .ok (.goto (-119), 3) := by decide +kernel
theorem dX12_sum_33 : decode cX12_sum 33 = .ok (.iload 6, 2) := by decide +kernel
theorem dX12_sum_35 : decode cX12_sum 35 = .ok (.aload_n 0, 1) := by decide +kernel
theorem dX12_sum_36 : decode cX12_sum 36 = .ok (.getfield 83, 3) := by decide +kernel
theorem dX12_sum_39 : decode cX12_sum 39 = .ok (.iload 5, 2) := by decide +kernel
theorem dX12_sum_41 : decode cX12_sum 41 = .ok (.iaload, 1) := by decide +kernel
theorem dX12_sum_42 : decode cX12_sum 42 = .ok (.if_icmp .ge 80, 3) := by decide +kernel
theorem dX12_sum_45 : decode cX12_sum 45 = .ok (.iload 4, 2) := by decide +kernel
theorem dX12_sum_47 : decode cX12_sum 47 = .ok (.ifCond .eq 75, 3) := by decide +kernel
theorem dX12_sum_50 : decode cX12_sum 50 = .ok (.aload_n 0, 1) := by decide +kernel
theorem dX12_sum_51 : decode cX12_sum 51 = .ok (.iload_n 2, 1) := by decide +kernel
theorem dX12_sum_52 : decode cX12_sum 52 = .ok (.iload_n 3, 1) := by decide +kernel
theorem dX12_sum_53 : decode cX12_sum 53 = .ok (.iload 5, 2) := by decide +kernel
theorem dX12_sum_55 : decode cX12_sum 55 = .ok (.iload 6, 2) := by decide +kernel
theorem dX12_sum_57 : decode cX12_sum 57 = .ok (.invokevirtual 450, 3) := by decide +kernel
theorem dX12_sum_60 : decode cX12_sum 60 = .ok (.aload_n 0, 1) := by decide +kernel
theorem dX12_sum_61 : decode cX12_sum 61 = .ok (.getfield 224, 3) := by decide +kernel
theorem dX12_sum_64 : decode cX12_sum 64 = .ok (.ifCond .ne 7, 3) := by decide +kernel
theorem dX12_sum_71 : decode cX12_sum 71 = .ok (.aload_n 0, 1) := by decide +kernel
theorem dX12_sum_72 : decode cX12_sum 72 = .ok (.bipush 105, 2) := by decide +kernel
theorem dX12_sum_74 : decode cX12_sum 74 = .ok (.iconst 0, 1) := by decide +kernel
theorem dX12_sum_75 : decode cX12_sum 75 = .ok (.invokevirtual 330, 3) := by decide +kernel
theorem dX12_sum_78 : decode cX12_sum 78 = .ok (.istore 7, 2) := by decide +kernel
theorem dX12_sum_80 : decode cX12_sum 80 = .ok (.iload 7, 2) := by decide +kernel
theorem dX12_sum_82 : decode cX12_sum 82 = .ok (.ifCond .le 34, 3) := by decide +kernel
theorem dX12_sum_116 : decode cX12_sum 116 = .ok (.iinc 6 1, 3) := by decide +kernel
theorem dX12_sum_119 : decode cX12_sum 119 = .ok (.goto (-97), 3) := by decide +kernel
theorem dX12_sum_85 : decode cX12_sum 85 = .ok (.iload 7, 2) := by decide +kernel
theorem dX12_sum_87 : decode cX12_sum 87 = .ok (.aload_n 0, 1) := by decide +kernel
theorem dX12_sum_88 : decode cX12_sum 88 = .ok (.getfield 224, 3) := by decide +kernel
theorem dX12_sum_91 : decode cX12_sum 91 = .ok (.if_icmp .ne 25, 3) := by decide +kernel
theorem dX12_sum_94 : decode cX12_sum 94 = .ok (.aload_n 0, 1) := by decide +kernel
theorem dX12_sum_95 : decode cX12_sum 95 = .ok (.iload_n 1, 1) := by decide +kernel
theorem dX12_sum_96 : decode cX12_sum 96 = .ok (.aload_n 0, 1) := by decide +kernel
theorem dX12_sum_97 : decode cX12_sum 97 = .ok (.getfield 442, 3) := by decide +kernel
theorem dX12_sum_100 : decode cX12_sum 100 = .ok (.iload_n 1, 1) := by decide +kernel
theorem dX12_sum_101 : decode cX12_sum 101 = .ok (.daload, 1) := by decide +kernel
theorem dX12_sum_102 : decode cX12_sum 102 = .ok (.aload_n 0, 1) := by decide +kernel
theorem dX12_sum_103 : decode cX12_sum 103 = .ok (.iconst 0, 1) := by decide +kernel
theorem dX12_sum_104 : decode cX12_sum 104 = .ok (.iload 7, 2) := by decide +kernel
theorem dX12_sum_106 : decode cX12_sum 106 = .ok (.invokevirtual 433, 3) := by decide +kernel
theorem dX12_sum_109 : decode cX12_sum 109 = .ok (.i2d, 1) := by decide +kernel
theorem dX12_sum_110 : decode cX12_sum 110 = .ok (.dadd, 1) := by decide +kernel
theorem dX12_sum_111 : decode cX12_sum 111 = .ok (.invokevirtual 453, 3) := by decide +kernel
theorem dX12_sum_114 : decode cX12_sum 114 = .ok (.istore 4, 2) := by decide +kernel
theorem dX12_sum_67 : decode cX12_sum 67 = .ok (.iconst 0, 1) := by decide +kernel
theorem dX12_sum_68 : decode cX12_sum 68 = .ok (.goto 10, 3) := by decide +kernel
theorem gw_X12_loadCell : wsX12_loadCell.all goodWord = true := by decide +kernel
theorem gX12_sum_X12_loadCell : GoodIn wsX12_sum (wsV RX12 450 RX12 yX12_loadCell wsX12_loadCell) := goodIn_app (goodIn_sub (List.forall_mem_cons.mpr ⟨(List.mem_cons_of_mem _ (List.mem_append_left _ (List.mem_append_left _ lm5))), List.forall_mem_cons.mpr ⟨(List.mem_cons_of_mem _ (List.mem_append_left _ (List.mem_append_left _ lm6))), List.forall_mem_cons.mpr ⟨(List.mem_cons_of_mem _ (List.mem_append_left _ (List.mem_append_left _ lm7))), List.forall_mem_cons.mpr ⟨(List.mem_cons_of_mem _ (List.mem_append_left _ (List.mem_append_left _ lm8))), (fun _ h => absurd h List.not_mem_nil)⟩⟩⟩⟩) (by decide +kernel)) (goodIn_sub (by unfold wsX12_loadCell; exact List.forall_mem_cons.mpr ⟨(List.mem_cons_of_mem _ (List.mem_append_left _ (List.mem_append_left _ lm9))), List.forall_mem_append.mpr ⟨List.forall_mem_cons.mpr ⟨(List.mem_cons_of_mem _ (List.mem_append_left _ (List.mem_append_left _ lm10))), List.forall_mem_cons.mpr ⟨(List.mem_cons_of_mem _ (List.mem_append_left _ (List.mem_append_left _ lm11))), List.forall_mem_cons.mpr ⟨(List.mem_cons_of_mem _ (List.mem_append_left _ (List.mem_append_left _ lm12))), List.forall_mem_cons.mpr ⟨(List.mem_cons_of_mem _ (List.mem_append_left _ (List.mem_append_left _ lm13))), List.forall_mem_cons.mpr ⟨(List.mem_cons_of_mem _ (List.mem_append_left _ (List.mem_append_left _ lm14))), List.forall_mem_cons.mpr ⟨(List.mem_cons_of_mem _ (List.mem_append_left _ (List.mem_append_left _ lm15))), List.forall_mem_cons.mpr ⟨(List.mem_cons_of_mem _ (List.mem_append_left _ (List.mem_append_left _ lm16))), List.forall_mem_cons.mpr ⟨(List.mem_cons_of_mem _ (List.mem_append_left _ (List.mem_append_left _ lm17))), List.forall_mem_cons.mpr ⟨(List.mem_cons_of_mem _ (List.mem_append_left _ (List.mem_append_left _ lm18))), List.forall_mem_cons.mpr ⟨(List.mem_cons_of_mem _ (List.mem_append_left _ (List.mem_append_left _ lm8))), List.forall_mem_cons.mpr ⟨(List.mem_cons_of_mem _ (List.mem_append_left _ (List.mem_append_left _ lm19))), List.forall_mem_cons.mpr ⟨(List.mem_cons_of_mem _ (List.mem_append_left _ (List.mem_append_left _ lm3))), List.forall_mem_cons.mpr ⟨(List.mem_cons_of_mem _ (List.mem_append_left _ (List.mem_append_left _ lm20))), List.forall_mem_cons.mpr ⟨(List.mem_cons_of_mem _ (List.mem_append_left _ (List.mem_append_left _ lm21))), List.forall_mem_cons.mpr ⟨(List.mem_cons_of_mem _ (List.mem_append_left _ (List.mem_append_left _ lm22))), List.forall_mem_cons.mpr ⟨(List.mem_cons_of_mem _ (List.mem_append_left _ (List.mem_append_left _ lm23))), List.forall_mem_cons.mpr ⟨(List.mem_cons_of_mem _ (List.mem_append_left _ (List.mem_append_left _ lm2))), List.forall_mem_cons.mpr ⟨(List.mem_cons_of_mem _ (List.mem_append_left _ (List.mem_append_right _ (List.mem_append_left _ lm0)))), List.forall_mem_cons.mpr ⟨(List.mem_cons_of_mem _ (List.mem_append_left _ (List.mem_append_right _ (List.mem_append_left _ lm1)))), List.forall_mem_cons.mpr ⟨(List.mem_cons_of_mem _ (List.mem_append_left _ (List.mem_append_right _ (List.mem_append_left _ lm2)))), List.forall_mem_cons.mpr ⟨(List.mem_cons_of_mem _ (List.mem_append_left _ (List.mem_append_right _ (List.mem_append_left _ lm3)))), List.forall_mem_cons.mpr ⟨(List.mem_cons_of_mem _ (List.mem_append_left _ (List.mem_append_right _ (List.mem_append_left _ lm4)))), (fun _ h => absurd h List.not_mem_nil)⟩⟩⟩⟩⟩⟩⟩⟩⟩⟩⟩⟩⟩⟩⟩⟩⟩⟩⟩⟩⟩⟩, (fun _ h => (List.mem_cons_of_mem _ (List.mem_append_right _ h)))⟩⟩) gw_X12_loadCell)
theorem gX12_sum_X12_most : GoodIn wsX12_sum (wsV RX12 330 RX12 yX12_most wsX12_most) := goodIn_app (goodIn_sub (List.forall_mem_cons.mpr ⟨(List.mem_cons_of_mem _ (List.mem_append_left _ (List.mem_append_right _ (List.mem_append_left _ lm5)))), List.forall_mem_cons.mpr ⟨(List.mem_cons_of_mem _ (List.mem_append_left _ (List.mem_append_right _ (List.mem_append_left _ lm6)))), List.forall_mem_cons.mpr ⟨(List.mem_cons_of_mem _ (List.mem_append_left _ (List.mem_append_right _ (List.mem_append_left _ lm7)))), List.forall_mem_cons.mpr ⟨(List.mem_cons_of_mem _ (List.mem_append_left _ (List.mem_append_left _ lm8))), (fun _ h => absurd h List.not_mem_nil)⟩⟩⟩⟩) (by decide +kernel)) (goodIn_sub (by unfold wsX12_most; exact List.forall_mem_cons.mpr ⟨(List.mem_cons_of_mem _ (List.mem_append_left _ (List.mem_append_right _ (List.mem_append_left _ lm8)))), List.forall_mem_append.mpr ⟨List.forall_mem_cons.mpr ⟨(List.mem_cons_of_mem _ (List.mem_append_left _ (List.mem_append_left _ lm3))), List.forall_mem_cons.mpr ⟨(List.mem_cons_of_mem _ (List.mem_append_left _ (List.mem_append_right _ (List.mem_append_left _ lm4)))), List.forall_mem_cons.mpr ⟨(List.mem_cons_of_mem _ (List.mem_append_left _ (List.mem_append_right _ (List.mem_append_left _ lm9)))), List.forall_mem_cons.mpr ⟨(List.mem_cons_of_mem _ (List.mem_append_left _ (List.mem_append_right _ (List.mem_append_left _ lm10)))), List.forall_mem_cons.mpr ⟨(List.mem_cons_of_mem _ (List.mem_append_left _ (List.mem_append_right _ (List.mem_append_left _ lm11)))), List.forall_mem_cons.mpr ⟨(List.mem_cons_of_mem _ (List.mem_append_left _ (List.mem_append_left _ lm8))), List.forall_mem_cons.mpr ⟨(List.mem_cons_of_mem _ (List.mem_append_left _ (List.mem_append_right _ (List.mem_append_left _ lm12)))), List.forall_mem_cons.mpr ⟨(List.mem_cons_of_mem _ (List.mem_append_left _ (List.mem_append_right _ (List.mem_append_left _ lm13)))), List.forall_mem_cons.mpr ⟨(List.mem_cons_of_mem _ (List.mem_append_left _ (List.mem_append_right _ (List.mem_append_left _ lm14)))), List.forall_mem_cons.mpr ⟨(List.mem_cons_of_mem _ (List.mem_append_left _ (List.mem_append_right _ (List.mem_append_left _ lm15)))), List.forall_mem_cons.mpr ⟨(List.mem_cons_of_mem _ (List.mem_append_left _ (List.mem_append_right _ (List.mem_append_left _ lm16)))), (fun _ h => absurd h List.not_mem_nil)⟩⟩⟩⟩⟩⟩⟩⟩⟩⟩⟩, (fun _ h => (List.mem_cons_of_mem _ (List.mem_append_right _ h)))⟩⟩) gw_X12_most)
theorem gX12_sum_X12_whole : GoodIn wsX12_sum (wsV RX12 433 RX12 yX12_whole wsX12_whole) := goodIn_app (goodIn_sub (List.forall_mem_cons.mpr ⟨(List.mem_cons_of_mem _ (List.mem_append_left _ (List.mem_append_right _ (List.mem_append_left _ lm17)))), List.forall_mem_cons.mpr ⟨(List.mem_cons_of_mem _ (List.mem_append_left _ (List.mem_append_right _ (List.mem_append_left _ lm18)))), List.forall_mem_cons.mpr ⟨(List.mem_cons_of_mem _ (List.mem_append_left _ (List.mem_append_right _ (List.mem_append_left _ lm19)))), List.forall_mem_cons.mpr ⟨(List.mem_cons_of_mem _ (List.mem_append_left _ (List.mem_append_left _ lm8))), (fun _ h => absurd h List.not_mem_nil)⟩⟩⟩⟩) (by decide +kernel)) (goodIn_sub (by unfold wsX12_whole; exact List.forall_mem_cons.mpr ⟨(List.mem_cons_of_mem _ (List.mem_append_left _ (List.mem_append_right _ (List.mem_append_left _ lm20)))), List.forall_mem_append.mpr ⟨List.forall_mem_cons.mpr ⟨(List.mem_cons_of_mem _ (List.mem_append_left _ (List.mem_append_right _ (List.mem_append_left _ lm4)))), (fun _ h => absurd h List.not_mem_nil)⟩, (fun _ h => (List.mem_cons_of_mem _ (List.mem_append_right _ h)))⟩⟩) gw_X12_whole)
theorem gw_X12_becomes : wsX12_becomes.all goodWord = true := by decide +kernel
theorem gX12_sum_X12_becomes : GoodIn wsX12_sum (wsV RX12 453 RX12 yX12_becomes wsX12_becomes) := goodIn_app (goodIn_sub (List.forall_mem_cons.mpr ⟨(List.mem_cons_of_mem _ (List.mem_append_left _ (List.mem_append_right _ (List.mem_append_left _ lm21)))), List.forall_mem_cons.mpr ⟨(List.mem_cons_of_mem _ (List.mem_append_left _ (List.mem_append_right _ (List.mem_append_left _ lm22)))), List.forall_mem_cons.mpr ⟨(List.mem_cons_of_mem _ (List.mem_append_left _ (List.mem_append_right _ (List.mem_append_left _ lm23)))), List.forall_mem_cons.mpr ⟨(List.mem_cons_of_mem _ (List.mem_append_left _ (List.mem_append_left _ lm8))), (fun _ h => absurd h List.not_mem_nil)⟩⟩⟩⟩) (by decide +kernel)) (goodIn_sub (by unfold wsX12_becomes; exact List.forall_mem_cons.mpr ⟨(List.mem_cons_of_mem _ (List.mem_append_left _ (List.mem_append_right _ (List.mem_append_right _ lm0)))), List.forall_mem_append.mpr ⟨List.forall_mem_cons.mpr ⟨(List.mem_cons_of_mem _ (List.mem_append_left _ (List.mem_append_left _ lm4))), List.forall_mem_cons.mpr ⟨(List.mem_cons_of_mem _ (List.mem_append_left _ (List.mem_append_right _ (List.mem_append_right _ lm1)))), List.forall_mem_cons.mpr ⟨(List.mem_cons_of_mem _ (List.mem_append_left _ (List.mem_append_right _ (List.mem_append_right _ lm2)))), (fun _ h => absurd h List.not_mem_nil)⟩⟩⟩, (fun _ h => (List.mem_cons_of_mem _ (List.mem_append_right _ h)))⟩⟩) gw_X12_becomes)
set_option maxHeartbeats 2000000 in
set_option maxRecDepth 100000 in
theorem m_becomes (l : Launch) (D : va_G) (g : Nat → Nat) (ka : Nat → ClassId) (ad : Nat → Nat) (i : Nat → Nat → Int32) (r : Nat → Nat → Nat) (L : Nat → Nat → Int64) (d : Nat → Nat → UInt64) (x : Int32) (b : UInt64) (hO : OkI i) (hR : RS r) (sz : Nat) (hx0 : 0 ≤ x.toInt) (hx1 : x.toInt ≤ 2) : Met l yX12_becomes wsX12_becomes ({ frames := 0, cells := 0, slots := 0, locals := 0 }) (va_Pc [.ref (g 36), .int x, .double b] (sj_B D (hwc g ka i r L d) (hT ka) sz (gx ad (va_A (hwc g ka i r L d) sz)))) (sj_Qi (S := (Nat → Nat → UInt64)) D (fun v u => (∀ a, ¬ (a = 425) → u a = d a) ∧ ((0 : Int) ≤ v.toInt ∧ v.toInt ≤ 1) ∧ (wfP u x.toInt (v.toInt = 1)) ∧ (w1P d u x.toInt)) (fun u => hwc g ka i r L u) (fun _ => []) (va_A (hwc g ka i r L d) sz)) 0 0 (va_A (hwc g ka i r L d) sz) := by
  refine x_met (Ex := gx ad) (cc := cX12_becomes) (maxL := 4) (ret := (some .boolean)) (by decide) rfl (Nat.le_of_ble_eq_true rfl) ?_
  intro p e s m below meth c A ls hx hb hr hml hts hown hlocks hA hS hH hK hE hl
  have hown : s.vm.findClass RX12 = some m.cls := hown
  have in12 : ∀ w ∈ wsX120, w ∈ wsX12_becomes := (fun _ h => (List.mem_cons_of_mem _ (List.mem_append_right _ h)))
  have wd0 := hts (.fieldLink RX12 442 "StoryDeskModel" "world" "[D") (List.mem_cons_of_mem _ (List.mem_append_left _ lm0))
  have wd1 := hts (.constantDouble RX12 446 (13965043853221167104)) (List.mem_cons_of_mem _ (List.mem_append_left _ lm1))
  have wd2 := hts (.constantDouble RX12 448 (4741671816366391296)) (List.mem_cons_of_mem _ (List.mem_append_left _ lm2))
  have hl : lv_has ls 4 [(0, .ref (g 36)), (1, .int x), (2, .double b)] := hl
  have hK : va_K D vwCl (hT ka) s := hK
  refine lv_aload_n hx hb dX12_becomes_0 rfl (lv_at hl 0 rfl) ?_
  refine h_getr (ci := 12) (C := RX12) (F := TX12) (N := 86) hx hb hts in12 hown hK hH (by decide) (rfl : kd 36 = 12) (by decide) rfl 73 (by decide) wd0 (fun _ h9 => h9) (by decide) rfl (t := 425) (hR 36 73 rfl) (by decide) dX12_becomes_1 ?_
  refine lv_iload_n hx hb dX12_becomes_4 rfl (lv_at hl 1 rfl) ?_
  refine lv_dload_n hx hb dX12_becomes_5 rfl (lv_at hl 2 rfl) ?_
  refine h_dast hx hb hK hH hS (by decide) (rfl : kd 425 = 17) (s_vin (N := 3) (rfl : x.toInt = _) (rfl : ln 425 = 3) (by omega) (by omega)) dX12_becomes_6 (fun H locs hH hS => ?_)
  refine lv_dload_n hx hb dX12_becomes_7 rfl (lv_at hl 2 rfl) ?_
  refine lv_ldc2d hx hb hown wd1 dX12_becomes_8 ?_
  refine lv_dcmp hx hb dX12_becomes_11 ?_
  refine lv_topi (fun z_1 ez_1 => ?_)
  refine lv_if_lt (tgt := 27) hx hb dX12_becomes_12 (by decide) (fun c_2 => ?_) (fun c_2 => ?_)
  · skip
    have h_3 := s_lt (rfl : z_1.toInt = _) (show (0 : Int32).toInt = 0 from rfl) c_2
    refine lv_iconst (v := 0) hx hb dX12_becomes_27 (by decide) ?_
    exact sj_zret hx hb hr hlocks (by decide +kernel) hS (upf d 425 x.toNatClampNeg b) ⟨(fun a ha => (upf_n _ _ (by omega))), ⟨by decide, by decide⟩, (fun h9 => absurd h9 (by decide)), (fun k hk => upf_k _ _ _ (by rw [show x.toNatClampNeg = x.toInt.toNat from s_cl rfl]; exact hk))⟩ hH (sj_Knil hK) (Nat.le_of_ble_eq_true rfl) (Nat.le_of_ble_eq_true rfl) dX12_becomes_28
  · skip
    have h_4 := s_nlt (rfl : z_1.toInt = _) (show (0 : Int32).toInt = 0 from rfl) c_2
    refine lv_dload_n hx hb dX12_becomes_15 rfl (lv_at hl 2 rfl) ?_
    refine lv_ldc2d hx hb hown wd2 dX12_becomes_16 ?_
    refine lv_dcmp hx hb dX12_becomes_19 ?_
    refine lv_topi (fun z_5 ez_5 => ?_)
    refine lv_if_gt (tgt := 27) hx hb dX12_becomes_20 (by decide) (fun c_6 => ?_) (fun c_6 => ?_)
    · skip
      have h_7 := s_lt (show (0 : Int32).toInt = 0 from rfl) (rfl : z_5.toInt = _) c_6
      refine lv_iconst (v := 0) hx hb dX12_becomes_27 (by decide) ?_
      exact sj_zret hx hb hr hlocks (by decide +kernel) hS (upf d 425 x.toNatClampNeg b) ⟨(fun a ha => (upf_n _ _ (by omega))), ⟨by decide, by decide⟩, (fun h9 => absurd h9 (by decide)), (fun k hk => upf_k _ _ _ (by rw [show x.toNatClampNeg = x.toInt.toNat from s_cl rfl]; exact hk))⟩ hH (sj_Knil hK) (Nat.le_of_ble_eq_true rfl) (Nat.le_of_ble_eq_true rfl) dX12_becomes_28
    · skip
      have h_8 := s_nlt (show (0 : Int32).toInt = 0 from rfl) (rfl : z_5.toInt = _) c_6
      refine lv_iconst (v := 1) hx hb dX12_becomes_23 (by decide) ?_
      refine lv_goto (tgt := 28) hx hb dX12_becomes_24 (by decide) ?_
      exact sj_zret hx hb hr hlocks (by decide +kernel) hS (upf d 425 x.toNatClampNeg b) ⟨(fun a ha => (upf_n _ _ (by omega))), ⟨by decide, by decide⟩, (fun _ => by rw [show x.toInt.toNat = x.toNatClampNeg from (s_cl rfl).symm, upf_at]; exact in_fin ez_1 (by omega) ez_5 (by omega)), (fun k hk => upf_k _ _ _ (by rw [show x.toNatClampNeg = x.toInt.toNat from s_cl rfl]; exact hk))⟩ hH (sj_Knil hK) (Nat.le_of_ble_eq_true rfl) (Nat.le_of_ble_eq_true rfl) dX12_becomes_28
set_option maxHeartbeats 2000000 in
set_option maxRecDepth 100000 in
theorem m_waits (l : Launch) (D : va_G) (g : Nat → Nat) (ka : Nat → ClassId) (ad : Nat → Nat) (i : Nat → Nat → Int32) (r : Nat → Nat → Nat) (L : Nat → Nat → Int64) (d : Nat → Nat → UInt64) (x : Int32) (hO : OkI i) (hR : RS r) (sz : Nat)  : Met l yX12_waits wsX12_waits ({ frames := 0, cells := 0, slots := 0, locals := 0 }) (va_Pc [.ref (g 36), .int x] (sj_B D (hwc g ka i r L d) (hT ka) sz (gx ad (va_A (hwc g ka i r L d) sz)))) (sj_Qi (S := (Nat → Nat → Int32)) D (fun v u => OkI u ∧ (∀ a b, ¬ ((a = 36 ∧ (b = 74 ∨ b = 75))) → u a b = i a b) ∧ ((0 : Int) ≤ v.toInt ∧ v.toInt ≤ 1)) (fun u => hwc g ka u r L d) (fun _ => []) (va_A (hwc g ka i r L d) sz)) 0 0 (va_A (hwc g ka i r L d) sz) := by
  refine x_met (Ex := gx ad) (cc := cX12_waits) (maxL := 3) (ret := (some .boolean)) (by decide) rfl (Nat.le_of_ble_eq_true rfl) ?_
  intro p e s m below meth c A ls hx hb hr hml hts hown hlocks hA hS hH hK hE hl
  have hown : s.vm.findClass RX12 = some m.cls := hown
  have in12 : ∀ w ∈ wsX120, w ∈ wsX12_waits := (fun _ h => (List.mem_cons_of_mem _ (List.mem_append_right _ h)))
  have wd0 := hts (.fieldLink RX12 457 "StoryDeskModel" "waited" "I") (List.mem_cons_of_mem _ (List.mem_append_left _ lm0))
  have wd1 := hts (.fieldLink RX12 460 "StoryDeskModel" "units" "I") (List.mem_cons_of_mem _ (List.mem_append_left _ lm1))
  have hl : lv_has ls 3 [(0, .ref (g 36)), (1, .int x)] := hl
  have hK : va_K D vwCl (hT ka) s := hK
  have hg_1 := s_rng x
  refine lv_iload_n hx hb dX12_waits_0 rfl (lv_at hl 1 rfl) ?_
  refine lv_if_gt (tgt := 6) hx hb dX12_waits_1 (by decide) (fun c_2 => ?_) (fun c_2 => ?_)
  · skip
    have h_3 := s_lt (show (0 : Int32).toInt = 0 from rfl) (rfl : x.toInt = _) c_2
    refine lv_iload_n hx hb dX12_waits_6 rfl (lv_at hl 1 rfl) ?_
    refine lv_bipush (v := 50) hx hb dX12_waits_7 (by decide) ?_
    refine lv_aload_n hx hb dX12_waits_9 rfl (lv_at hl 0 rfl) ?_
    refine h_geti (ci := 12) (C := RX12) (F := TX12) (N := 86) hx hb hts in12 hown hK hH (by decide) (rfl : kd 36 = 12) (by decide) rfl 74 (by decide) wd0 (fun _ h9 => h9) (by decide) rfl dX12_waits_10 ?_
    refine lv_isub hx hb dX12_waits_13 ?_
    obtain ⟨z_4, ez_4⟩ : ∃ z, 50 - (i 36 74) = z := ⟨_, rfl⟩
    refine sj_i ez_4 ?_
    refine lv_icmp_ge (tgt := 21) hx hb dX12_waits_14 (by decide) (fun c_5 => ?_) (fun c_5 => ?_)
    · skip
      have h_6 := s_le (rfl : z_4.toInt = _) (rfl : x.toInt = _) c_5
      refine lv_bipush (v := 50) hx hb dX12_waits_21 (by decide) ?_
      refine lv_aload_n hx hb dX12_waits_23 rfl (lv_at hl 0 rfl) ?_
      refine h_geti (ci := 12) (C := RX12) (F := TX12) (N := 86) hx hb hts in12 hown hK hH (by decide) (rfl : kd 36 = 12) (by decide) rfl 74 (by decide) wd0 (fun _ h9 => h9) (by decide) rfl dX12_waits_24 ?_
      refine lv_isub hx hb dX12_waits_27 ?_
      obtain ⟨z_7, ez_7⟩ : ∃ z, 50 - (i 36 74) = z := ⟨_, rfl⟩
      refine sj_i ez_7 ?_
      refine lv_istore_n (lv' := [(2, .int z_7), (0, .ref (g 36)), (1, .int x)]) hx hb dX12_waits_28 rfl hl (by decide) rfl (fun ls hl => ?_)
      refine lv_aload_n hx hb dX12_waits_29 rfl (lv_at hl 1 rfl) ?_
      refine lv_dup hx hb dX12_waits_30 rfl ?_
      refine h_geti (ci := 12) (C := RX12) (F := TX12) (N := 86) hx hb hts in12 hown hK hH (by decide) (rfl : kd 36 = 12) (by decide) rfl 74 (by decide) wd0 (fun _ h9 => h9) (by decide) rfl dX12_waits_31 ?_
      refine lv_iload_n hx hb dX12_waits_34 rfl (lv_at hl 0 rfl) ?_
      refine lv_iadd hx hb dX12_waits_35 ?_
      obtain ⟨z_8, ez_8⟩ : ∃ z, (i 36 74) + z_7 = z := ⟨_, rfl⟩
      refine sj_i ez_8 ?_
      have hO_9 := okp hO (n := 36) (k := 74) (v := z_8) (show (-2147483648 : Int) ≤ (z_8 : Int32).toInt ∧ (z_8 : Int32).toInt ≤ 2147483647 from s_rng z_8)
      refine h_puti (ty := .int) (ci := 12) (C := RX12) (F := TX12) (N := 86) hx hb hts in12 tyX12 tyX12_ok nmX12 hown hK hH hS (by decide) (rfl : kd 36 = 12) (by decide) rfl 74 (by decide) wd0 (fun _ h9 => h9) rfl (by decide +kernel) rfl rfl (by decide) rfl dX12_waits_36 (fun H locs hH hS => ?_)
      refine lv_aload_n hx hb dX12_waits_39 rfl (lv_at hl 1 rfl) ?_
      refine lv_dup hx hb dX12_waits_40 rfl ?_
      refine h_geti (ci := 12) (C := RX12) (F := TX12) (N := 86) hx hb hts in12 hown hK hH (by decide) (rfl : kd 36 = 12) (by decide) rfl 75 (by decide) wd1 (fun _ h9 => h9) (by decide) rfl dX12_waits_41 ?_
      refine sj_i (y := (i 36 75)) (up2_k _ _ (by decide)) ?_
      refine lv_iload_n hx hb dX12_waits_44 rfl (lv_at hl 0 rfl) ?_
      refine lv_iadd hx hb dX12_waits_45 ?_
      obtain ⟨z_10, ez_10⟩ : ∃ z, (i 36 75) + z_7 = z := ⟨_, rfl⟩
      refine sj_i ez_10 ?_
      have hO_11 := okp hO_9 (n := 36) (k := 75) (v := z_10) (show (-2147483648 : Int) ≤ (z_10 : Int32).toInt ∧ (z_10 : Int32).toInt ≤ 2147483647 from s_rng z_10)
      refine h_puti (ty := .int) (ci := 12) (C := RX12) (F := TX12) (N := 86) hx hb hts in12 tyX12 tyX12_ok nmX12 hown hK hH hS (by decide) (rfl : kd 36 = 12) (by decide) rfl 75 (by decide) wd1 (fun _ h9 => h9) rfl (by decide +kernel) rfl rfl (by decide) rfl dX12_waits_46 (fun H locs hH hS => ?_)
      refine lv_iload_n hx hb dX12_waits_49 rfl (lv_at hl 0 rfl) ?_
      refine lv_iload_n hx hb dX12_waits_50 rfl (lv_at hl 2 rfl) ?_
      refine lv_icmp_ne (tgt := 58) hx hb dX12_waits_51 (by decide) (fun c_12 => ?_) (fun c_12 => ?_)
      · skip
        have h_13 := s_ne (rfl : z_7.toInt = _) (rfl : x.toInt = _) c_12
        refine lv_iconst (v := 0) hx hb dX12_waits_58 (by decide) ?_
        exact sj_zret hx hb hr hlocks (by decide +kernel) hS (up2 (up2 i 36 74 z_8) 36 75 z_10) ⟨hO_11, (fun a b ha => ((up2_o _ _ (by omega)).trans (up2_o _ _ (by omega)))), ⟨by decide, by decide⟩⟩ hH (sj_Knil hK) (Nat.le_of_ble_eq_true rfl) (Nat.le_of_ble_eq_true rfl) dX12_waits_59
      · skip
        have h_14 := s_eq (rfl : z_7.toInt = _) (rfl : x.toInt = _) c_12
        refine lv_iconst (v := 1) hx hb dX12_waits_54 (by decide) ?_
        refine lv_goto (tgt := 59) hx hb dX12_waits_55 (by decide) ?_
        exact sj_zret hx hb hr hlocks (by decide +kernel) hS (up2 (up2 i 36 74 z_8) 36 75 z_10) ⟨hO_11, (fun a b ha => ((up2_o _ _ (by omega)).trans (up2_o _ _ (by omega)))), ⟨by decide, by decide⟩⟩ hH (sj_Knil hK) (Nat.le_of_ble_eq_true rfl) (Nat.le_of_ble_eq_true rfl) dX12_waits_59
    · skip
      have h_15 := s_nle (rfl : z_4.toInt = _) (rfl : x.toInt = _) c_5
      refine lv_iload_n hx hb dX12_waits_17 rfl (lv_at hl 1 rfl) ?_
      refine lv_goto (tgt := 28) hx hb dX12_waits_18 (by decide) ?_
      refine lv_istore_n (lv' := [(2, .int x), (0, .ref (g 36)), (1, .int x)]) hx hb dX12_waits_28 rfl hl (by decide) rfl (fun ls hl => ?_)
      refine lv_aload_n hx hb dX12_waits_29 rfl (lv_at hl 1 rfl) ?_
      refine lv_dup hx hb dX12_waits_30 rfl ?_
      refine h_geti (ci := 12) (C := RX12) (F := TX12) (N := 86) hx hb hts in12 hown hK hH (by decide) (rfl : kd 36 = 12) (by decide) rfl 74 (by decide) wd0 (fun _ h9 => h9) (by decide) rfl dX12_waits_31 ?_
      refine lv_iload_n hx hb dX12_waits_34 rfl (lv_at hl 0 rfl) ?_
      refine lv_iadd hx hb dX12_waits_35 ?_
      obtain ⟨z_16, ez_16⟩ : ∃ z, (i 36 74) + x = z := ⟨_, rfl⟩
      refine sj_i ez_16 ?_
      have hO_17 := okp hO (n := 36) (k := 74) (v := z_16) (show (-2147483648 : Int) ≤ (z_16 : Int32).toInt ∧ (z_16 : Int32).toInt ≤ 2147483647 from s_rng z_16)
      refine h_puti (ty := .int) (ci := 12) (C := RX12) (F := TX12) (N := 86) hx hb hts in12 tyX12 tyX12_ok nmX12 hown hK hH hS (by decide) (rfl : kd 36 = 12) (by decide) rfl 74 (by decide) wd0 (fun _ h9 => h9) rfl (by decide +kernel) rfl rfl (by decide) rfl dX12_waits_36 (fun H locs hH hS => ?_)
      refine lv_aload_n hx hb dX12_waits_39 rfl (lv_at hl 1 rfl) ?_
      refine lv_dup hx hb dX12_waits_40 rfl ?_
      refine h_geti (ci := 12) (C := RX12) (F := TX12) (N := 86) hx hb hts in12 hown hK hH (by decide) (rfl : kd 36 = 12) (by decide) rfl 75 (by decide) wd1 (fun _ h9 => h9) (by decide) rfl dX12_waits_41 ?_
      refine sj_i (y := (i 36 75)) (up2_k _ _ (by decide)) ?_
      refine lv_iload_n hx hb dX12_waits_44 rfl (lv_at hl 0 rfl) ?_
      refine lv_iadd hx hb dX12_waits_45 ?_
      obtain ⟨z_18, ez_18⟩ : ∃ z, (i 36 75) + x = z := ⟨_, rfl⟩
      refine sj_i ez_18 ?_
      have hO_19 := okp hO_17 (n := 36) (k := 75) (v := z_18) (show (-2147483648 : Int) ≤ (z_18 : Int32).toInt ∧ (z_18 : Int32).toInt ≤ 2147483647 from s_rng z_18)
      refine h_puti (ty := .int) (ci := 12) (C := RX12) (F := TX12) (N := 86) hx hb hts in12 tyX12 tyX12_ok nmX12 hown hK hH hS (by decide) (rfl : kd 36 = 12) (by decide) rfl 75 (by decide) wd1 (fun _ h9 => h9) rfl (by decide +kernel) rfl rfl (by decide) rfl dX12_waits_46 (fun H locs hH hS => ?_)
      refine lv_iload_n hx hb dX12_waits_49 rfl (lv_at hl 0 rfl) ?_
      refine lv_iload_n hx hb dX12_waits_50 rfl (lv_at hl 2 rfl) ?_
      refine lv_icmp_ne (tgt := 58) hx hb dX12_waits_51 (by decide) (fun c_20 => ?_) (fun c_20 => ?_)
      · skip
        have h_21 := s_ne (rfl : x.toInt = _) (rfl : x.toInt = _) c_20
        refine lv_iconst (v := 0) hx hb dX12_waits_58 (by decide) ?_
        exact sj_zret hx hb hr hlocks (by decide +kernel) hS (up2 (up2 i 36 74 z_16) 36 75 z_18) ⟨hO_19, (fun a b ha => ((up2_o _ _ (by omega)).trans (up2_o _ _ (by omega)))), ⟨by decide, by decide⟩⟩ hH (sj_Knil hK) (Nat.le_of_ble_eq_true rfl) (Nat.le_of_ble_eq_true rfl) dX12_waits_59
      · skip
        have h_22 := s_eq (rfl : x.toInt = _) (rfl : x.toInt = _) c_20
        refine lv_iconst (v := 1) hx hb dX12_waits_54 (by decide) ?_
        refine lv_goto (tgt := 59) hx hb dX12_waits_55 (by decide) ?_
        exact sj_zret hx hb hr hlocks (by decide +kernel) hS (up2 (up2 i 36 74 z_16) 36 75 z_18) ⟨hO_19, (fun a b ha => ((up2_o _ _ (by omega)).trans (up2_o _ _ (by omega)))), ⟨by decide, by decide⟩⟩ hH (sj_Knil hK) (Nat.le_of_ble_eq_true rfl) (Nat.le_of_ble_eq_true rfl) dX12_waits_59
  · skip
    have h_23 := s_nlt (show (0 : Int32).toInt = 0 from rfl) (rfl : x.toInt = _) c_2
    refine lv_iconst (v := 1) hx hb dX12_waits_4 (by decide) ?_
    exact sj_zret hx hb hr hlocks (by decide +kernel) hS i ⟨hO, (fun a b ha => rfl), ⟨by decide, by decide⟩⟩ hH (sj_Knil hK) (Nat.le_of_ble_eq_true rfl) (Nat.le_of_ble_eq_true rfl) dX12_waits_5
set_option maxHeartbeats 2000000 in
set_option maxRecDepth 100000 in
theorem m_sum (l : Launch) (D : va_G) (g : Nat → Nat) (ka : Nat → ClassId) (ad : Nat → Nat) (i : Nat → Nat → Int32) (r : Nat → Nat → Nat) (L : Nat → Nat → Int64) (d : Nat → Nat → UInt64) (x : Int32) (y : Int32) (z : Int32) (hO : OkI i) (hR : RS r) (sz : Nat) (hx0 : 0 ≤ x.toInt) (hx1 : x.toInt ≤ 2) (hy0 : 0 ≤ y.toInt) (hy1 : y.toInt ≤ 23) (hz0 : -1 ≤ z.toInt) (hz1 : z.toInt ≤ 29) (hnr : NR i) (hfw : wfP d x.toInt (0 ≤ z.toInt)) : Met l yX12_sum wsX12_sum ({ frames := 3, cells := 0, slots := 0, locals := 85 }) (va_Pc [.ref (g 36), .int x, .int y, .int z] (sj_B D (hwc g ka i r L d) (hT ka) sz (gx ad (va_A (hwc g ka i r L d) sz)))) (sj_Qi (S := (Nat → Nat → Int32) × (Nat → Nat → UInt64)) D (fun v u => OkI u.1 ∧ (∀ a b, ¬ ((a = 36 ∧ (b = 40)) ∨ a = 402) → u.1 a b = i a b) ∧ (∀ a, ¬ (a = 425) → u.2 a = d a) ∧ ((0 : Int) ≤ v.toInt ∧ v.toInt ≤ 1) ∧ (wfP u.2 x.toInt (v.toInt = 1 ∧ 0 ≤ z.toInt)) ∧ (w1P d u.2 x.toInt) ∧ (d0P d u.2 x.toInt z.toInt)) (fun u => hwc g ka u.1 r L u.2) (fun _ => []) (va_A (hwc g ka i r L d) sz)) 0 0 (va_A (hwc g ka i r L d) sz) := by
  refine x_met (Ex := gx ad) (cc := cX12_sum) (maxL := 8) (ret := (some .boolean)) (by decide) rfl (Nat.le_of_ble_eq_true rfl) ?_
  intro p e s m below meth c A ls hx hb hr hml hts hown hlocks hA hS hH hK hE hl
  have hown : s.vm.findClass RX12 = some m.cls := hown
  have in12 : ∀ w ∈ wsX120, w ∈ wsX12_sum := (fun _ h => (List.mem_cons_of_mem _ (List.mem_append_right _ h)))
  have wd0 := hts (.fieldLink RX12 70 "StoryDeskModel" "rows" "I") (List.mem_cons_of_mem _ (List.mem_append_left _ (List.mem_append_left _ lm0)))
  have wd1 := hts (.fieldLink RX12 67 "StoryDeskModel" "rowOwner" "[I") (List.mem_cons_of_mem _ (List.mem_append_left _ (List.mem_append_left _ lm1)))
  have wd2 := hts (.fieldLink RX12 83 "StoryDeskModel" "rowCells" "[I") (List.mem_cons_of_mem _ (List.mem_append_left _ (List.mem_append_left _ lm2)))
  have wd3 := hts (.fieldLink RX12 224 "StoryDeskModel" "filled" "I") (List.mem_cons_of_mem _ (List.mem_append_left _ (List.mem_append_left _ lm3)))
  have wd4 := hts (.fieldLink RX12 442 "StoryDeskModel" "world" "[D") (List.mem_cons_of_mem _ (List.mem_append_left _ (List.mem_append_left _ lm4)))
  have hl : lv_has ls 8 [(0, .ref (g 36)), (1, .int x), (2, .int y), (3, .int z)] := hl
  have hK : va_K D vwCl (hT ka) s := hK
  refine lv_iconst (v := 1) hx hb dX12_sum_0 (by decide) ?_
  refine lv_istore (lv' := [(4, .int 1), (0, .ref (g 36)), (1, .int x), (2, .int y), (3, .int z)]) hx hb dX12_sum_1 hl (by decide) rfl (fun ls hl => ?_)
  refine lv_iconst (v := 0) hx hb dX12_sum_3 (by decide) ?_
  refine lv_istore (lv' := [(5, .int 0), (4, .int 1), (0, .ref (g 36)), (1, .int x), (2, .int y), (3, .int z)]) hx hb dX12_sum_4 hl (by decide) rfl (fun ls hl => ?_)
  -- loop at 6
  have lp_1 : ∀ (fuel_lp_1 : Nat) (t : Int32) (f : Int32) (j1 : Nat → Nat → Int32) (d1 : Nat → Nat → UInt64) (H : Heap) (locs : List Loc) (ls : Array Slot), (41 - f.toInt).toNat < fuel_lp_1 → (0 : Int) ≤ t.toInt ∧ t.toInt ≤ 1 → (0 : Int) ≤ f.toInt ∧ f.toInt ≤ 41 → wfP d1 x.toInt (t.toInt = 1 ∧ 0 ≤ z.toInt) → w1P d d1 x.toInt → d0P d d1 x.toInt z.toInt → (∀ a, ¬ (a = 425) → d1 a = d a) → OkI j1 → (∀ a b, ¬ ((a = 36 ∧ (b = 40)) ∨ a = 402) → j1 a b = i a b) → lv_has ls 8 [(5, .int f), (4, .int t), (0, .ref (g 36)), (1, .int x), (2, .int y), (3, .int z)] → sj_H D A (hwc g ka j1 r L d1) H → va_S A s.heap H locs → W p l e (headSpec wsX12_sum ({ frames := 3, cells := 0, slots := 0, locals := 85 })).room s m ([.ref (g 36), .int x, .int y, .int z] : List Value).toArray below meth c H locs 0 0 (MQ below (sj_Qi (S := (Nat → Nat → Int32) × (Nat → Nat → UInt64)) D (fun v u => OkI u.1 ∧ (∀ a b, ¬ ((a = 36 ∧ (b = 40)) ∨ a = 402) → u.1 a b = i a b) ∧ (∀ a, ¬ (a = 425) → u.2 a = d a) ∧ ((0 : Int) ≤ v.toInt ∧ v.toInt ≤ 1) ∧ (wfP u.2 x.toInt (v.toInt = 1 ∧ 0 ≤ z.toInt)) ∧ (w1P d u.2 x.toInt) ∧ (d0P d u.2 x.toInt z.toInt)) (fun u => hwc g ka u.1 r L u.2) (fun _ => []) A) ([.ref (g 36), .int x, .int y, .int z] : List Value).toArray s 0 0 A) (F0 m 6 ls []) := by
    intro fuel_lp_1
    induction fuel_lp_1 with
    | zero => intros; omega
    | succ fuel_lp_1 ih_lp_1 =>
      intro t f j1 d1 H locs ls hm hr_t hr_f hi_lp_1_0 hi_lp_1_1 hi_lp_1_2 hfd_d1 hO_j1 hfr_j1 hl hH hS
      refine lv_iload hx hb dX12_sum_6 (lv_at hl 0 rfl) ?_
      refine lv_aload_n hx hb dX12_sum_8 rfl (lv_at hl 2 rfl) ?_
      have bx_2 : (0 : Int) ≤ (i 36 26).toInt ∧ (i 36 26).toInt ≤ 40 := hO 36 26
      refine h_geti (ci := 12) (C := RX12) (F := TX12) (N := 86) hx hb hts in12 hown hK hH (by decide) (rfl : kd 36 = 12) (by decide) rfl 26 (by decide) wd0 (fun _ h9 => h9) (by decide) rfl dX12_sum_9 ?_
      refine sj_i (y := (i 36 26)) (hfr_j1 36 26 (by omega)) ?_
      refine lv_icmp_ge (tgt := 128) hx hb dX12_sum_12 (by decide) (fun c_3 => ?_) (fun c_3 => ?_)
      · skip
        have h_4 := s_le (rfl : (i 36 26).toInt = _) (rfl : f.toInt = _) c_3
        refine lv_iload hx hb dX12_sum_128 (lv_at hl 1 rfl) ?_
        exact sj_zret hx hb hr hlocks (s_nz ⟨by omega, by omega⟩) hS (j1, d1) ⟨hO_j1, (fun a b ha => (hfr_j1 a b (by omega))), (fun a ha => (hfd_d1 a (by omega))), ⟨by omega, by omega⟩, hi_lp_1_0, hi_lp_1_1, hi_lp_1_2⟩ hH (sj_Knil hK) (Nat.le_of_ble_eq_true rfl) (Nat.le_of_ble_eq_true rfl) dX12_sum_130
      · skip
        have h_5 := s_nle (rfl : (i 36 26).toInt = _) (rfl : f.toInt = _) c_3
        refine lv_iload_n hx hb dX12_sum_15 rfl (lv_at hl 5 rfl) ?_
        refine lv_if_lt (tgt := 128) hx hb dX12_sum_16 (by decide) (fun c_6 => ?_) (fun c_6 => ?_)
        · skip
          have h_7 := s_lt (rfl : z.toInt = _) (show (0 : Int32).toInt = 0 from rfl) c_6
          refine lv_iload hx hb dX12_sum_128 (lv_at hl 1 rfl) ?_
          exact sj_zret hx hb hr hlocks (s_nz ⟨by omega, by omega⟩) hS (j1, d1) ⟨hO_j1, (fun a b ha => (hfr_j1 a b (by omega))), (fun a ha => (hfd_d1 a (by omega))), ⟨by omega, by omega⟩, hi_lp_1_0, hi_lp_1_1, hi_lp_1_2⟩ hH (sj_Knil hK) (Nat.le_of_ble_eq_true rfl) (Nat.le_of_ble_eq_true rfl) dX12_sum_130
        · skip
          have h_8 := s_nlt (rfl : z.toInt = _) (show (0 : Int32).toInt = 0 from rfl) c_6
          refine lv_iconst (v := 0) hx hb dX12_sum_19 (by decide) ?_
          refine lv_istore (lv' := [(6, .int 0), (5, .int f), (4, .int t), (0, .ref (g 36)), (1, .int x), (2, .int y), (3, .int z)]) hx hb dX12_sum_20 hl (by decide) rfl (fun ls hl => ?_)
          -- loop at 22
          have lp_9 : ∀ (fuel_lp_9 : Nat) (t2 : Int32) (g9 : Int32) (j2 : Nat → Nat → Int32) (d2 : Nat → Nat → UInt64) (H : Heap) (locs : List Loc) (ls : Array Slot), (5 - g9.toInt).toNat < fuel_lp_9 → (0 : Int) ≤ t2.toInt ∧ t2.toInt ≤ 1 → (0 : Int) ≤ g9.toInt ∧ g9.toInt ≤ 5 → wfP d2 x.toInt (t2.toInt = 1 ∧ 0 ≤ z.toInt) → w1P d d2 x.toInt → d0P d d2 x.toInt z.toInt → (∀ a, ¬ (a = 425) → d2 a = d1 a) → OkI j2 → (∀ a b, ¬ ((a = 36 ∧ (b = 40)) ∨ a = 402) → j2 a b = j1 a b) → lv_has ls 8 [(6, .int g9), (5, .int f), (4, .int t2), (0, .ref (g 36)), (1, .int x), (2, .int y), (3, .int z)] → sj_H D A (hwc g ka j2 r L d2) H → va_S A s.heap H locs → W p l e (headSpec wsX12_sum ({ frames := 3, cells := 0, slots := 0, locals := 85 })).room s m ([.ref (g 36), .int x, .int y, .int z] : List Value).toArray below meth c H locs 0 0 (MQ below (sj_Qi (S := (Nat → Nat → Int32) × (Nat → Nat → UInt64)) D (fun v u => OkI u.1 ∧ (∀ a b, ¬ ((a = 36 ∧ (b = 40)) ∨ a = 402) → u.1 a b = i a b) ∧ (∀ a, ¬ (a = 425) → u.2 a = d a) ∧ ((0 : Int) ≤ v.toInt ∧ v.toInt ≤ 1) ∧ (wfP u.2 x.toInt (v.toInt = 1 ∧ 0 ≤ z.toInt)) ∧ (w1P d u.2 x.toInt) ∧ (d0P d u.2 x.toInt z.toInt)) (fun u => hwc g ka u.1 r L u.2) (fun _ => []) A) ([.ref (g 36), .int x, .int y, .int z] : List Value).toArray s 0 0 A) (F0 m 22 ls []) := by
            intro fuel_lp_9
            induction fuel_lp_9 with
            | zero => intros; omega
            | succ fuel_lp_9 ih_lp_9 =>
              intro t2 g9 j2 d2 H locs ls hm hr_t2 hr_g9 hi_lp_9_0 hi_lp_9_1 hi_lp_9_2 hfd_d2 hO_j2 hfr_j2 hl hH hS
              refine lv_aload_n hx hb dX12_sum_22 rfl (lv_at hl 3 rfl) ?_
              refine h_getr (ci := 12) (C := RX12) (F := TX12) (N := 86) hx hb hts in12 hown hK hH (by decide) (rfl : kd 36 = 12) (by decide) rfl 28 (by decide) wd1 (fun _ h9 => h9) (by decide) rfl (t := 392) (hR 36 28 rfl) (by decide) dX12_sum_23 ?_
              refine lv_iload hx hb dX12_sum_26 (lv_at hl 1 rfl) ?_
              refine h_iald hx hb hK hH (by decide) (rfl : kd 392 = 13) (s_vin (N := 40) (rfl : f.toInt = _) (rfl : ln 392 = 40) (by omega) (by omega)) dX12_sum_28 ?_
              have ek_10 : f.toNatClampNeg = (f.toInt).toNat := (s_cl (show f.toInt = f.toInt by omega))
              refine sj_i (y := (i 392 (f.toInt).toNat)) (by rw [ek_10]; exact ((hfr_j2 392 (f.toInt).toNat (by omega)).trans (hfr_j1 392 (f.toInt).toNat (by omega)))) ?_
              refine lv_iload_n hx hb dX12_sum_29 rfl (lv_at hl 6 rfl) ?_
              refine lv_icmp_ne (tgt := 122) hx hb dX12_sum_30 (by decide) (fun c_11 => ?_) (fun c_11 => ?_)
              · skip
                have h_12 := s_ne (rfl : (i 392 (f.toInt).toNat).toInt = _) (rfl : z.toInt = _) c_11
                obtain ⟨z_13, ez_13, hz_13⟩ := s_add (rfl : f.toInt = _) (show (1 : Int32).toInt = 1 from rfl) (by omega) (by omega)
                refine lv_iinc (v := z_13) (lv' := [(5, .int z_13), (6, .int g9), (4, .int t2), (0, .ref (g 36)), (1, .int x), (2, .int y), (3, .int z)]) hx hb dX12_sum_122 hl (k := 1) rfl ez_13 (by decide) rfl (fun ls hl => ?_)
                refine lv_goto (tgt := 6) hx hb dX12_sum_125 (by decide) ?_
                exact ih_lp_1 t2 z_13 _ _ _ _ ls (by omega) (by omega) (by omega) hi_lp_9_0 hi_lp_9_1 (fun q => by exfalso; omega) (fun a ha => ((hfd_d2 a (by omega)).trans (hfd_d1 a (by omega)))) hO_j2 (fun a b ha => ((hfr_j2 a b (by omega)).trans (hfr_j1 a b (by omega)))) (lv_sub hl [0, 2, 3, 4, 5, 6] rfl) hH hS
              · skip
                have h_14 := s_eq (rfl : (i 392 (f.toInt).toNat).toInt = _) (rfl : z.toInt = _) c_11
                refine lv_iload hx hb dX12_sum_33 (lv_at hl 0 rfl) ?_
                refine lv_aload_n hx hb dX12_sum_35 rfl (lv_at hl 3 rfl) ?_
                refine h_getr (ci := 12) (C := RX12) (F := TX12) (N := 86) hx hb hts in12 hown hK hH (by decide) (rfl : kd 36 = 12) (by decide) rfl 30 (by decide) wd2 (fun _ h9 => h9) (by decide) rfl (t := 394) (hR 36 30 rfl) (by decide) dX12_sum_36 ?_
                refine lv_iload hx hb dX12_sum_39 (lv_at hl 1 rfl) ?_
                have bx_15 : (0 : Int) ≤ (i 394 (f.toInt).toNat).toInt ∧ (i 394 (f.toInt).toNat).toInt ≤ 4 := hO 394 (f.toInt).toNat
                refine h_iald hx hb hK hH (by decide) (rfl : kd 394 = 13) (s_vin (N := 40) (rfl : f.toInt = _) (rfl : ln 394 = 40) (by omega) (by omega)) dX12_sum_41 ?_
                have ek_16 : f.toNatClampNeg = (f.toInt).toNat := (s_cl (show f.toInt = f.toInt by omega))
                refine sj_i (y := (i 394 (f.toInt).toNat)) (by rw [ek_16]; exact ((hfr_j2 394 (f.toInt).toNat (by omega)).trans (hfr_j1 394 (f.toInt).toNat (by omega)))) ?_
                refine lv_icmp_ge (tgt := 122) hx hb dX12_sum_42 (by decide) (fun c_17 => ?_) (fun c_17 => ?_)
                · skip
                  have h_18 := s_le (rfl : (i 394 (f.toInt).toNat).toInt = _) (rfl : g9.toInt = _) c_17
                  obtain ⟨z_19, ez_19, hz_19⟩ := s_add (rfl : f.toInt = _) (show (1 : Int32).toInt = 1 from rfl) (by omega) (by omega)
                  refine lv_iinc (v := z_19) (lv' := [(5, .int z_19), (6, .int g9), (4, .int t2), (0, .ref (g 36)), (1, .int x), (2, .int y), (3, .int z)]) hx hb dX12_sum_122 hl (k := 1) rfl ez_19 (by decide) rfl (fun ls hl => ?_)
                  refine lv_goto (tgt := 6) hx hb dX12_sum_125 (by decide) ?_
                  exact ih_lp_1 t2 z_19 _ _ _ _ ls (by omega) (by omega) (by omega) hi_lp_9_0 hi_lp_9_1 (fun q => by exfalso; omega) (fun a ha => ((hfd_d2 a (by omega)).trans (hfd_d1 a (by omega)))) hO_j2 (fun a b ha => ((hfr_j2 a b (by omega)).trans (hfr_j1 a b (by omega)))) (lv_sub hl [0, 2, 3, 4, 5, 6] rfl) hH hS
                · skip
                  have h_20 := s_nle (rfl : (i 394 (f.toInt).toNat).toInt = _) (rfl : g9.toInt = _) c_17
                  refine lv_iload hx hb dX12_sum_45 (lv_at hl 2 rfl) ?_
                  refine lv_if_eq (tgt := 122) hx hb dX12_sum_47 (by decide) (fun c_21 => ?_) (fun c_21 => ?_)
                  · skip
                    have h_22 := s_eq (rfl : t2.toInt = _) (show (0 : Int32).toInt = 0 from rfl) c_21
                    obtain ⟨z_23, ez_23, hz_23⟩ := s_add (rfl : f.toInt = _) (show (1 : Int32).toInt = 1 from rfl) (by omega) (by omega)
                    refine lv_iinc (v := z_23) (lv' := [(5, .int z_23), (6, .int g9), (4, .int t2), (0, .ref (g 36)), (1, .int x), (2, .int y), (3, .int z)]) hx hb dX12_sum_122 hl (k := 1) rfl ez_23 (by decide) rfl (fun ls hl => ?_)
                    refine lv_goto (tgt := 6) hx hb dX12_sum_125 (by decide) ?_
                    exact ih_lp_1 t2 z_23 _ _ _ _ ls (by omega) (by omega) (by omega) hi_lp_9_0 hi_lp_9_1 (fun q => by exfalso; omega) (fun a ha => ((hfd_d2 a (by omega)).trans (hfd_d1 a (by omega)))) hO_j2 (fun a b ha => ((hfr_j2 a b (by omega)).trans (hfr_j1 a b (by omega)))) (lv_sub hl [0, 2, 3, 4, 5, 6] rfl) hH hS
                  · skip
                    have h_24 := s_ne (rfl : t2.toInt = _) (show (0 : Int32).toInt = 0 from rfl) c_21
                    refine lv_aload_n hx hb dX12_sum_50 rfl (lv_at hl 3 rfl) ?_
                    refine lv_iload_n hx hb dX12_sum_51 rfl (lv_at hl 5 rfl) ?_
                    refine lv_iload_n hx hb dX12_sum_52 rfl (lv_at hl 6 rfl) ?_
                    refine lv_iload hx hb dX12_sum_53 (lv_at hl 1 rfl) ?_
                    refine lv_iload hx hb dX12_sum_55 (lv_at hl 0 rfl) ?_
                    refine x_callv (va_runV (As := [.int y, .int z, .int f, .int g9]) (rest := []) ⟨hx, hb, hml, hown, hts⟩ (m_loadCell l D g ka ad j2 r L d2 y z f g9 hO_j2 hR H.size (by first | omega | decide) (by first | omega | decide) (by first | omega | decide) (by first | omega | decide) (by first | omega | decide) (by first | omega | decide) (by first | omega | decide) (by first | omega | decide) (NR_fr hnr (funext fun b9 => ((hfr_j2 399 b9 (by omega)).trans (hfr_j1 399 b9 (by omega)))) (funext fun b9 => ((hfr_j2 398 b9 (by omega)).trans (hfr_j1 398 b9 (by omega)))))) (cwV 4 hts gX12_sum_X12_loadCell rfl rfl rfl (by decide +kernel) ⟨(Nat.le_of_ble_eq_true rfl), (Nat.le_of_ble_eq_true rfl)⟩) (x_preV (q := (RX12, TX12, 86)) hH hK (q_obj (by decide) (rfl : kd 36 = 12) (by decide)) rfl gxb (gxw hE hS (x_F hH hS hA))) rfl rfl hl.1 rfl (lv_room (Nat.le_of_ble_eq_true rfl)) dX12_sum_57 ⟨(Nat.le_of_ble_eq_true rfl), (Nat.le_of_ble_eq_true rfl)⟩) hH hS hA rfl rfl (fun im_27 H locs hw_26 hH hS => ?_)
                    have hH : sj_H D A (hwc g ka im_27 r L d2) H := hH
                    obtain ⟨hO_29, hfr_28⟩ := hw_26
                    refine lv_aload_n hx hb dX12_sum_60 rfl (lv_at hl 3 rfl) ?_
                    have bx_30 : (0 : Int) ≤ (im_27 36 40).toInt ∧ (im_27 36 40).toInt ≤ 60 := hO_29 36 40
                    refine h_geti (ci := 12) (C := RX12) (F := TX12) (N := 86) hx hb hts in12 hown hK hH (by decide) (rfl : kd 36 = 12) (by decide) rfl 40 (by decide) wd3 (fun _ h9 => h9) (by decide) rfl dX12_sum_61 ?_
                    refine lv_if_ne (tgt := 71) hx hb dX12_sum_64 (by decide) (fun c_31 => ?_) (fun c_31 => ?_)
                    · skip
                      have h_32 := s_ne (rfl : (im_27 36 40).toInt = _) (show (0 : Int32).toInt = 0 from rfl) c_31
                      refine lv_aload_n hx hb dX12_sum_71 rfl (lv_at hl 3 rfl) ?_
                      refine lv_bipush (v := 105) hx hb dX12_sum_72 (by decide) ?_
                      refine lv_iconst (v := 0) hx hb dX12_sum_74 (by decide) ?_
                      have hl_33 : (105 : Int32).toInt = 105 := rfl
                      have hl_34 : (0 : Int32).toInt = 0 := rfl
                      refine x_calli (va_runV (As := [.int 105, .int 0]) (rest := []) ⟨hx, hb, hml, hown, hts⟩ (m_most l D g ka ad im_27 r L d2 105 0 hO_29 hR H.size (by first | omega | decide) (by first | omega | decide) (by first | omega | decide) (by first | omega | decide)) (cwV 2 hts gX12_sum_X12_most rfl rfl rfl (by decide +kernel) ⟨(Nat.le_of_ble_eq_true rfl), (Nat.le_of_ble_eq_true rfl)⟩) (x_preV (q := (RX12, TX12, 86)) hH hK (q_obj (by decide) (rfl : kd 36 = 12) (by decide)) rfl gxb (gxw hE hS (x_F hH hS hA))) rfl rfl hl.1 rfl (lv_room (Nat.le_of_ble_eq_true rfl)) dX12_sum_75 ⟨(Nat.le_of_ble_eq_true rfl), (Nat.le_of_ble_eq_true rfl)⟩) hH hS hA rfl rfl (fun r_35 _ H locs hw_36 hH hS => ?_)
                      obtain ⟨hr_38, hx2_39⟩ := hw_36
                      have hr_38 : (0 : Int) ≤ r_35.toInt ∧ r_35.toInt ≤ 130 := hr_38
                      refine lv_istore (lv' := [(7, .int r_35), (6, .int g9), (5, .int f), (4, .int t2), (0, .ref (g 36)), (1, .int x), (2, .int y), (3, .int z)]) hx hb dX12_sum_78 hl (by decide) rfl (fun ls hl => ?_)
                      refine lv_iload hx hb dX12_sum_80 (lv_at hl 0 rfl) ?_
                      refine lv_if_le (tgt := 116) hx hb dX12_sum_82 (by decide) (fun c_40 => ?_) (fun c_40 => ?_)
                      · skip
                        have h_41 := s_le (rfl : r_35.toInt = _) (show (0 : Int32).toInt = 0 from rfl) c_40
                        obtain ⟨z_42, ez_42, hz_42⟩ := s_add (rfl : g9.toInt = _) (show (1 : Int32).toInt = 1 from rfl) (by omega) (by omega)
                        refine lv_iinc (v := z_42) (lv' := [(6, .int z_42), (7, .int r_35), (5, .int f), (4, .int t2), (0, .ref (g 36)), (1, .int x), (2, .int y), (3, .int z)]) hx hb dX12_sum_116 hl (k := 1) rfl ez_42 (by decide) rfl (fun ls hl => ?_)
                        refine lv_goto (tgt := 22) hx hb dX12_sum_119 (by decide) ?_
                        exact ih_lp_9 t2 z_42 _ _ _ _ ls (by omega) (by omega) (by omega) hi_lp_9_0 hi_lp_9_1 (fun q => by exfalso; omega) (fun a ha => (hfd_d2 a (by omega))) hO_29 (fun a b ha => ((hfr_28 a b (by omega)).trans (hfr_j2 a b (by omega)))) (lv_sub hl [0, 2, 3, 4, 5, 6, 7] rfl) hH hS
                      · skip
                        have h_43 := s_nle (rfl : r_35.toInt = _) (show (0 : Int32).toInt = 0 from rfl) c_40
                        refine lv_iload hx hb dX12_sum_85 (lv_at hl 0 rfl) ?_
                        refine lv_aload_n hx hb dX12_sum_87 rfl (lv_at hl 4 rfl) ?_
                        refine h_geti (ci := 12) (C := RX12) (F := TX12) (N := 86) hx hb hts in12 hown hK hH (by decide) (rfl : kd 36 = 12) (by decide) rfl 40 (by decide) wd3 (fun _ h9 => h9) (by decide) rfl dX12_sum_88 ?_
                        refine lv_icmp_ne (tgt := 116) hx hb dX12_sum_91 (by decide) (fun c_44 => ?_) (fun c_44 => ?_)
                        · skip
                          have h_45 := s_ne (rfl : r_35.toInt = _) (rfl : (im_27 36 40).toInt = _) c_44
                          obtain ⟨z_46, ez_46, hz_46⟩ := s_add (rfl : g9.toInt = _) (show (1 : Int32).toInt = 1 from rfl) (by omega) (by omega)
                          refine lv_iinc (v := z_46) (lv' := [(6, .int z_46), (7, .int r_35), (5, .int f), (4, .int t2), (0, .ref (g 36)), (1, .int x), (2, .int y), (3, .int z)]) hx hb dX12_sum_116 hl (k := 1) rfl ez_46 (by decide) rfl (fun ls hl => ?_)
                          refine lv_goto (tgt := 22) hx hb dX12_sum_119 (by decide) ?_
                          exact ih_lp_9 t2 z_46 _ _ _ _ ls (by omega) (by omega) (by omega) hi_lp_9_0 hi_lp_9_1 (fun q => by exfalso; omega) (fun a ha => (hfd_d2 a (by omega))) hO_29 (fun a b ha => ((hfr_28 a b (by omega)).trans (hfr_j2 a b (by omega)))) (lv_sub hl [0, 2, 3, 4, 5, 6, 7] rfl) hH hS
                        · skip
                          have h_47 := s_eq (rfl : r_35.toInt = _) (rfl : (im_27 36 40).toInt = _) c_44
                          refine lv_aload_n hx hb dX12_sum_94 rfl (lv_at hl 4 rfl) ?_
                          refine lv_iload_n hx hb dX12_sum_95 rfl (lv_at hl 5 rfl) ?_
                          refine lv_aload_n hx hb dX12_sum_96 rfl (lv_at hl 4 rfl) ?_
                          refine h_getr (ci := 12) (C := RX12) (F := TX12) (N := 86) hx hb hts in12 hown hK hH (by decide) (rfl : kd 36 = 12) (by decide) rfl 73 (by decide) wd4 (fun _ h9 => h9) (by decide) rfl (t := 425) (hR 36 73 rfl) (by decide) dX12_sum_97 ?_
                          refine lv_iload_n hx hb dX12_sum_100 rfl (lv_at hl 5 rfl) ?_
                          refine h_dald hx hb hK hH (by decide) (rfl : kd 425 = 17) (s_vin (N := 3) (rfl : x.toInt = _) (rfl : ln 425 = 3) (by omega) (by omega)) dX12_sum_101 ?_
                          refine lv_topd (fun z_48 ez_48 => ?_)
                          refine lv_aload_n hx hb dX12_sum_102 rfl (lv_at hl 4 rfl) ?_
                          refine lv_iconst (v := 0) hx hb dX12_sum_103 (by decide) ?_
                          refine lv_iload hx hb dX12_sum_104 (lv_at hl 0 rfl) ?_
                          have hl_49 : (0 : Int32).toInt = 0 := rfl
                          refine x_calli (va_runV (As := [.int 0, .int r_35]) (rest := [.double z_48, .int x, .ref (g 36)]) ⟨hx, hb, hml, hown, hts⟩ (m_whole l D g ka ad im_27 r L d2 0 r_35 hO_29 hR H.size (by first | omega | decide) (by first | omega | decide) (by first | omega | decide)) (cwV 2 hts gX12_sum_X12_whole rfl rfl rfl (by decide +kernel) ⟨(Nat.le_of_ble_eq_true rfl), (Nat.le_of_ble_eq_true rfl)⟩) (x_preV (q := (RX12, TX12, 86)) hH hK (q_obj (by decide) (rfl : kd 36 = 12) (by decide)) rfl gxb (gxw hE hS (x_F hH hS hA))) rfl rfl hl.1 rfl (lv_room (Nat.le_of_ble_eq_true rfl)) dX12_sum_106 ⟨(Nat.le_of_ble_eq_true rfl), (Nat.le_of_ble_eq_true rfl)⟩) hH hS hA rfl rfl (fun r_50 _ H locs hw_51 hH hS => ?_)
                          refine lv_i2d hx hb dX12_sum_109 ?_
                          refine lv_topd (fun z_53 ez_53 => ?_)
                          refine lv_dadd hx hb dX12_sum_110 (add_n (by rw [ez_48, show x.toNatClampNeg = x.toInt.toNat from s_cl rfl]; exact hi_lp_9_0 ⟨by omega, by omega⟩) (by rw [ez_53]; exact i2d_f _)) ?_
                          refine lv_topd (fun z_54 ez_54 => ?_)
                          refine x_calli (va_runV (As := [.int x, .double z_54]) (rest := []) ⟨hx, hb, hml, hown, hts⟩ (m_becomes l D g ka ad im_27 r L d2 x z_54 hO_29 hR H.size (by first | omega | decide) (by first | omega | decide)) (cwV 2 hts gX12_sum_X12_becomes rfl rfl rfl (by decide +kernel) ⟨(Nat.le_of_ble_eq_true rfl), (Nat.le_of_ble_eq_true rfl)⟩) (x_preV (q := (RX12, TX12, 86)) hH hK (q_obj (by decide) (rfl : kd 36 = 12) (by decide)) rfl gxb (gxw hE hS (x_F hH hS hA))) rfl rfl hl.1 rfl (lv_room (Nat.le_of_ble_eq_true rfl)) dX12_sum_111 ⟨(Nat.le_of_ble_eq_true rfl), (Nat.le_of_ble_eq_true rfl)⟩) hH hS hA rfl rfl (fun r_55 dm_57 H locs hw_56 hH hS => ?_)
                          have hH : sj_H D A (hwc g ka im_27 r L dm_57) H := hH
                          obtain ⟨hfd_58, hr_59, hx2_60, hx2_61⟩ := hw_56
                          have hr_59 : (0 : Int) ≤ r_55.toInt ∧ r_55.toInt ≤ 1 := hr_59
                          refine lv_istore (lv' := [(4, .int r_55), (7, .int r_35), (6, .int g9), (5, .int f), (0, .ref (g 36)), (1, .int x), (2, .int y), (3, .int z)]) hx hb dX12_sum_114 hl (by decide) rfl (fun ls hl => ?_)
                          obtain ⟨z_62, ez_62, hz_62⟩ := s_add (rfl : g9.toInt = _) (show (1 : Int32).toInt = 1 from rfl) (by omega) (by omega)
                          refine lv_iinc (v := z_62) (lv' := [(6, .int z_62), (4, .int r_55), (7, .int r_35), (5, .int f), (0, .ref (g 36)), (1, .int x), (2, .int y), (3, .int z)]) hx hb dX12_sum_116 hl (k := 2) rfl ez_62 (by decide) rfl (fun ls hl => ?_)
                          refine lv_goto (tgt := 22) hx hb dX12_sum_119 (by decide) ?_
                          exact ih_lp_9 r_55 z_62 _ _ _ _ ls (by omega) (by omega) (by omega) (fun q => hx2_60 q.1) (w1P_t hi_lp_9_1 hx2_61) (fun q => by exfalso; omega) (fun a ha => ((hfd_58 a (by omega)).trans (hfd_d2 a (by omega)))) hO_29 (fun a b ha => ((hfr_28 a b (by omega)).trans (hfr_j2 a b (by omega)))) (lv_sub hl [0, 3, 1, 4, 5, 6, 7] rfl) hH hS
                    · skip
                      have h_63 := s_eq (rfl : (im_27 36 40).toInt = _) (show (0 : Int32).toInt = 0 from rfl) c_31
                      refine lv_iconst (v := 0) hx hb dX12_sum_67 (by decide) ?_
                      refine lv_goto (tgt := 78) hx hb dX12_sum_68 (by decide) ?_
                      refine lv_istore (lv' := [(7, .int 0), (6, .int g9), (5, .int f), (4, .int t2), (0, .ref (g 36)), (1, .int x), (2, .int y), (3, .int z)]) hx hb dX12_sum_78 hl (by decide) rfl (fun ls hl => ?_)
                      refine lv_iload hx hb dX12_sum_80 (lv_at hl 0 rfl) ?_
                      refine lv_if_le (tgt := 116) hx hb dX12_sum_82 (by decide) (fun _ => ?_) (fun h => absurd (by decide) h)
                      obtain ⟨z_64, ez_64, hz_64⟩ := s_add (rfl : g9.toInt = _) (show (1 : Int32).toInt = 1 from rfl) (by omega) (by omega)
                      refine lv_iinc (v := z_64) (lv' := [(6, .int z_64), (7, .int 0), (5, .int f), (4, .int t2), (0, .ref (g 36)), (1, .int x), (2, .int y), (3, .int z)]) hx hb dX12_sum_116 hl (k := 1) rfl ez_64 (by decide) rfl (fun ls hl => ?_)
                      refine lv_goto (tgt := 22) hx hb dX12_sum_119 (by decide) ?_
                      exact ih_lp_9 t2 z_64 _ _ _ _ ls (by omega) (by omega) (by omega) hi_lp_9_0 hi_lp_9_1 (fun q => by exfalso; omega) (fun a ha => (hfd_d2 a (by omega))) hO_29 (fun a b ha => ((hfr_28 a b (by omega)).trans (hfr_j2 a b (by omega)))) (lv_sub hl [0, 2, 3, 4, 5, 6, 7] rfl) hH hS
          have hl_65 : (0 : Int32).toInt = 0 := rfl
          exact lp_9 _ t 0 _ _ _ _ ls (Nat.lt_succ_self _) (by omega) (by omega) hi_lp_1_0 hi_lp_1_1 (fun q => by exfalso; omega) (fun a ha => rfl) hO_j1 (fun a b ha => rfl) (lv_sub hl [0, 1, 2, 3, 4, 5, 6] rfl) hH hS
  have hl_66 : (1 : Int32).toInt = 1 := rfl
  have hl_67 : (0 : Int32).toInt = 0 := rfl
  exact lp_1 _ 1 0 _ _ _ _ ls (Nat.lt_succ_self _) (by omega) (by omega) (fun q => hfw q.2) (w1P_0 _ _) (fun _ => rfl) (fun a ha => rfl) hO (fun a b ha => rfl) (lv_sub hl [0, 1, 2, 3, 4, 5] rfl) hH hS
