theorem dX1_backgroundCount_0 : decode cX1_backgroundCount 0 = .ok (.aload_n 0, 1) := by decide +kernel
theorem dX1_backgroundCount_1 : decode cX1_backgroundCount 1 = .ok (.getfield 9, 3) := by decide +kernel
theorem dX1_backgroundCount_4 : decode cX1_backgroundCount 4 = .ok (.getfield 90, 3) := by decide +kernel
theorem dX1_backgroundCount_7 : decode cX1_backgroundCount 7 = .ok (.iconst 0, 1) := by decide +kernel
theorem dX1_backgroundCount_8 : decode cX1_backgroundCount 8 = .ok (.aaload, 1) := by decide +kernel
theorem dX1_backgroundCount_9 : decode cX1_backgroundCount 9 = .ok (.getfield 68, 3) := by decide +kernel
theorem dX1_backgroundCount_12 : decode cX1_backgroundCount 12 = .ok (.istore_n 2, 1) := by decide +kernel
theorem dX1_backgroundCount_13 : decode cX1_backgroundCount 13 = .ok (.aload_n 1, 1) := by decide +kernel
theorem dX1_backgroundCount_14 : decode cX1_backgroundCount 14 = .ok (.getfield 93, 3) := by decide +kernel
theorem dX1_backgroundCount_17 : decode cX1_backgroundCount 17 = .ok (.ifCond .ne 7, 3) := by decide +kernel
theorem dX1_backgroundCount_24 : decode cX1_backgroundCount 24 = .ok (.iload_n 2, 1) := by decide +kernel
theorem dX1_backgroundCount_25 : decode cX1_backgroundCount 25 = .ok (.aload_n 0, 1) := by decide +kernel
theorem dX1_backgroundCount_26 : decode cX1_backgroundCount 26 = .ok (.getfield 9, 3) := by decide +kernel
theorem dX1_backgroundCount_29 : decode cX1_backgroundCount 29 = .ok (.getfield 90, 3) := by decide +kernel
theorem dX1_backgroundCount_32 : decode cX1_backgroundCount 32 = .ok (.aload_n 1, 1) := by decide +kernel
theorem dX1_backgroundCount_33 : decode cX1_backgroundCount 33 = .ok (.getfield 93, 3) := by decide +kernel
theorem dX1_backgroundCount_36 : decode cX1_backgroundCount 36 = .ok (.aaload, 1) := by decide +kernel
theorem dX1_backgroundCount_37 : decode cX1_backgroundCount 37 = .ok (.getfield 68, 3) := by decide +kernel
theorem dX1_backgroundCount_40 : decode cX1_backgroundCount 40 = .ok (.iadd, 1) := by decide +kernel
theorem dX1_backgroundCount_41 : decode cX1_backgroundCount 41 = .ok (.ireturn, 1) := by decide +kernel
theorem dX1_backgroundCount_20 : decode cX1_backgroundCount 20 = .ok (.iload_n 2, 1) := by decide +kernel
theorem dX1_backgroundCount_21 : decode cX1_backgroundCount 21 = .ok (.goto 20, 3) := by decide +kernel
theorem dX1_stepCount_0 : decode cX1_stepCount 0 = .ok (.aload_n 1, 1) := by decide +kernel
theorem dX1_stepCount_1 : decode cX1_stepCount 1 = .ok (.getfield 79, 3) := by decide +kernel
theorem dX1_stepCount_4 : decode cX1_stepCount 4 = .ok (.getfield 68, 3) := by decide +kernel
theorem dX1_stepCount_7 : decode cX1_stepCount 7 = .ok (.ifCond .ne 7, 3) := by decide +kernel
theorem dX1_stepCount_14 : decode cX1_stepCount 14 = .ok (.aload_n 0, 1) := by decide +kernel
theorem dX1_stepCount_15 : decode cX1_stepCount 15 = .ok (.aload_n 1, 1) := by decide +kernel
theorem dX1_stepCount_16 : decode cX1_stepCount 16 = .ok (.getfield 79, 3) := by decide +kernel
theorem dX1_stepCount_19 : decode cX1_stepCount 19 = .ok (.invokevirtual 100, 3) := by decide +kernel
theorem dX1_stepCount_22 : decode cX1_stepCount 22 = .ok (.aload_n 1, 1) := by decide +kernel
theorem dX1_stepCount_23 : decode cX1_stepCount 23 = .ok (.getfield 79, 3) := by decide +kernel
theorem dX1_stepCount_26 : decode cX1_stepCount 26 = .ok (.getfield 68, 3) := by decide +kernel
theorem dX1_stepCount_29 : decode cX1_stepCount 29 = .ok (.iadd, 1) := by decide +kernel
theorem dX1_stepCount_30 : decode cX1_stepCount 30 = .ok (.ireturn, 1) := by decide +kernel
theorem dX1_stepCount_10 : decode cX1_stepCount 10 = .ok (.iconst 0, 1) := by decide +kernel
theorem dX1_stepCount_11 : decode cX1_stepCount 11 = .ok (.goto 19, 3) := by decide +kernel
theorem dX1_hasStep_0 : decode cX1_hasStep 0 = .ok (.iload_n 1, 1) := by decide +kernel
theorem dX1_hasStep_1 : decode cX1_hasStep 1 = .ok (.ifCond .lt 33, 3) := by decide +kernel
theorem dX1_hasStep_34 : decode cX1_hasStep 34 = .ok (.iconst 0, 1) := by decide +kernel
theorem dX1_hasStep_35 : decode cX1_hasStep 35 = .ok (.ireturn, 1) := by decide +kernel
theorem dX1_hasStep_4 : decode cX1_hasStep 4 = .ok (.iload_n 1, 1) := by decide +kernel
theorem dX1_hasStep_5 : decode cX1_hasStep 5 = .ok (.aload_n 0, 1) := by decide +kernel
theorem dX1_hasStep_6 : decode cX1_hasStep 6 = .ok (.getfield 34, 3) := by decide +kernel
theorem dX1_hasStep_9 : decode cX1_hasStep 9 = .ok (.if_icmp .ge 25, 3) := by decide +kernel
theorem dX1_hasStep_12 : decode cX1_hasStep 12 = .ok (.iload_n 2, 1) := by decide +kernel
theorem dX1_hasStep_13 : decode cX1_hasStep 13 = .ok (.ifCond .lt 21, 3) := by decide +kernel
theorem dX1_hasStep_16 : decode cX1_hasStep 16 = .ok (.iload_n 2, 1) := by decide +kernel
theorem dX1_hasStep_17 : decode cX1_hasStep 17 = .ok (.aload_n 0, 1) := by decide +kernel
theorem dX1_hasStep_18 : decode cX1_hasStep 18 = .ok (.aload_n 0, 1) := by decide +kernel
theorem dX1_hasStep_19 : decode cX1_hasStep 19 = .ok (.getfield 29, 3) := by decide +kernel
theorem dX1_hasStep_22 : decode cX1_hasStep 22 = .ok (.iload_n 1, 1) := by decide +kernel
theorem dX1_hasStep_23 : decode cX1_hasStep 23 = .ok (.aaload, 1) := by decide +kernel
theorem dX1_hasStep_24 : decode cX1_hasStep 24 = .ok (.invokevirtual 104, 3) := by decide +kernel
theorem dX1_hasStep_27 : decode cX1_hasStep 27 = .ok (.if_icmp .ge 7, 3) := by decide +kernel
theorem dX1_hasStep_30 : decode cX1_hasStep 30 = .ok (.iconst 1, 1) := by decide +kernel
theorem dX1_hasStep_31 : decode cX1_hasStep 31 = .ok (.goto 4, 3) := by decide +kernel
theorem dX1_stepOf_0 : decode cX1_stepOf 0 = .ok (.aload_n 0, 1) := by decide +kernel
theorem dX1_stepOf_1 : decode cX1_stepOf 1 = .ok (.getfield 9, 3) := by decide +kernel
theorem dX1_stepOf_4 : decode cX1_stepOf 4 = .ok (.getfield 90, 3) := by decide +kernel
theorem dX1_stepOf_7 : decode cX1_stepOf 7 = .ok (.iconst 0, 1) := by decide +kernel
theorem dX1_stepOf_8 : decode cX1_stepOf 8 = .ok (.aaload, 1) := by decide +kernel
theorem dX1_stepOf_9 : decode cX1_stepOf 9 = .ok (.getfield 68, 3) := by decide +kernel
theorem dX1_stepOf_12 : decode cX1_stepOf 12 = .ok (.istore_n 3, 1) := by decide +kernel
theorem dX1_stepOf_13 : decode cX1_stepOf 13 = .ok (.aload_n 0, 1) := by decide +kernel
theorem dX1_stepOf_14 : decode cX1_stepOf 14 = .ok (.aload_n 1, 1) := by decide +kernel
theorem dX1_stepOf_15 : decode cX1_stepOf 15 = .ok (.getfield 79, 3) := by decide +kernel
theorem dX1_stepOf_18 : decode cX1_stepOf 18 = .ok (.invokevirtual 100, 3) := by decide +kernel
theorem dX1_stepOf_21 : decode cX1_stepOf 21 = .ok (.istore 4, 2) := by decide +kernel
theorem dX1_stepOf_23 : decode cX1_stepOf 23 = .ok (.iload_n 2, 1) := by decide +kernel
theorem dX1_stepOf_24 : decode cX1_stepOf 24 = .ok (.iload_n 3, 1) := by decide +kernel
theorem dX1_stepOf_25 : decode cX1_stepOf 25 = .ok (.if_icmp .ge 26, 3) := by decide +kernel
theorem dX1_stepOf_51 : decode cX1_stepOf 51 = .ok (.iload_n 2, 1) := by decide +kernel
theorem dX1_stepOf_52 : decode cX1_stepOf 52 = .ok (.iload 4, 2) := by decide +kernel
theorem dX1_stepOf_54 : decode cX1_stepOf 54 = .ok (.if_icmp .ge 34, 3) := by decide +kernel
theorem dX1_stepOf_88 : decode cX1_stepOf 88 = .ok (.aload_n 0, 1) := by decide +kernel
theorem dX1_stepOf_89 : decode cX1_stepOf 89 = .ok (.getfield 9, 3) := by decide +kernel
theorem dX1_stepOf_92 : decode cX1_stepOf 92 = .ok (.getfield 108, 3) := by decide +kernel
theorem dX1_stepOf_95 : decode cX1_stepOf 95 = .ok (.aload_n 1, 1) := by decide +kernel
theorem dX1_stepOf_96 : decode cX1_stepOf 96 = .ok (.getfield 79, 3) := by decide +kernel
theorem dX1_stepOf_99 : decode cX1_stepOf 99 = .ok (.getfield 76, 3) := by decide +kernel
theorem dX1_stepOf_102 : decode cX1_stepOf 102 = .ok (.iload_n 2, 1) := by decide +kernel
theorem dX1_stepOf_103 : decode cX1_stepOf 103 = .ok (.iadd, 1) := by decide +kernel
theorem dX1_stepOf_104 : decode cX1_stepOf 104 = .ok (.iload 4, 2) := by decide +kernel
theorem dX1_stepOf_106 : decode cX1_stepOf 106 = .ok (.isub, 1) := by decide +kernel
theorem dX1_stepOf_107 : decode cX1_stepOf 107 = .ok (.aaload, 1) := by decide +kernel
theorem dX1_stepOf_108 : decode cX1_stepOf 108 = .ok (.areturn, 1) := by decide +kernel
theorem dX1_stepOf_57 : decode cX1_stepOf 57 = .ok (.aload_n 0, 1) := by decide +kernel
theorem dX1_stepOf_58 : decode cX1_stepOf 58 = .ok (.getfield 9, 3) := by decide +kernel
theorem dX1_stepOf_61 : decode cX1_stepOf 61 = .ok (.getfield 108, 3) := by decide +kernel
theorem dX1_stepOf_64 : decode cX1_stepOf 64 = .ok (.aload_n 0, 1) := by decide +kernel
theorem dX1_stepOf_65 : decode cX1_stepOf 65 = .ok (.getfield 9, 3) := by decide +kernel
theorem dX1_stepOf_68 : decode cX1_stepOf 68 = .ok (.getfield 90, 3) := by decide +kernel
theorem dX1_stepOf_71 : decode cX1_stepOf 71 = .ok (.aload_n 1, 1) := by decide +kernel
theorem dX1_stepOf_72 : decode cX1_stepOf 72 = .ok (.getfield 79, 3) := by decide +kernel
theorem dX1_stepOf_75 : decode cX1_stepOf 75 = .ok (.getfield 93, 3) := by decide +kernel
theorem dX1_stepOf_78 : decode cX1_stepOf 78 = .ok (.aaload, 1) := by decide +kernel
theorem dX1_stepOf_79 : decode cX1_stepOf 79 = .ok (.getfield 76, 3) := by decide +kernel
theorem dX1_stepOf_82 : decode cX1_stepOf 82 = .ok (.iload_n 2, 1) := by decide +kernel
theorem dX1_stepOf_83 : decode cX1_stepOf 83 = .ok (.iadd, 1) := by decide +kernel
theorem dX1_stepOf_84 : decode cX1_stepOf 84 = .ok (.iload_n 3, 1) := by decide +kernel
theorem dX1_stepOf_85 : decode cX1_stepOf 85 = .ok (.isub, 1) := by decide +kernel
theorem dX1_stepOf_86 : decode cX1_stepOf 86 = .ok (.aaload, 1) := by decide +kernel
theorem dX1_stepOf_87 : decode cX1_stepOf 87 = .ok (.areturn, 1) := by decide +kernel
theorem dX1_stepOf_28 : decode cX1_stepOf 28 = .ok (.aload_n 0, 1) := by decide +kernel
theorem dX1_stepOf_29 : decode cX1_stepOf 29 = .ok (.getfield 9, 3) := by decide +kernel
theorem dX1_stepOf_32 : decode cX1_stepOf 32 = .ok (.getfield 108, 3) := by decide +kernel
theorem dX1_stepOf_35 : decode cX1_stepOf 35 = .ok (.aload_n 0, 1) := by decide +kernel
theorem dX1_stepOf_36 : decode cX1_stepOf 36 = .ok (.getfield 9, 3) := by decide +kernel
theorem dX1_stepOf_39 : decode cX1_stepOf 39 = .ok (.getfield 90, 3) := by decide +kernel
theorem dX1_stepOf_42 : decode cX1_stepOf 42 = .ok (.iconst 0, 1) := by decide +kernel
theorem dX1_stepOf_43 : decode cX1_stepOf 43 = .ok (.aaload, 1) := by decide +kernel
theorem dX1_stepOf_44 : decode cX1_stepOf 44 = .ok (.getfield 76, 3) := by decide +kernel
theorem dX1_stepOf_47 : decode cX1_stepOf 47 = .ok (.iload_n 2, 1) := by decide +kernel
theorem dX1_stepOf_48 : decode cX1_stepOf 48 = .ok (.iadd, 1) := by decide +kernel
theorem dX1_stepOf_49 : decode cX1_stepOf 49 = .ok (.aaload, 1) := by decide +kernel
theorem dX1_stepOf_50 : decode cX1_stepOf 50 = .ok (.areturn, 1) := by decide +kernel
theorem gw_X1_backgroundCount : wsX1_backgroundCount.all goodWord = true := by decide +kernel
theorem gX1_stepCount_X1_backgroundCount : GoodIn wsX1_stepCount (wsV RX1 100 RX1 yX1_backgroundCount wsX1_backgroundCount) := goodIn_app (goodIn_sub (List.forall_mem_cons.mpr ⟨(List.mem_cons_of_mem _ (List.mem_append_left _ (List.mem_append_left _ (List.mem_append_left _ (List.mem_append_left _ lm2))))), List.forall_mem_cons.mpr ⟨(List.mem_cons_of_mem _ (List.mem_append_left _ (List.mem_append_left _ (List.mem_append_left _ (List.mem_append_left _ lm3))))), List.forall_mem_cons.mpr ⟨(List.mem_cons_of_mem _ (List.mem_append_left _ (List.mem_append_left _ (List.mem_append_left _ (List.mem_append_left _ lm4))))), List.forall_mem_cons.mpr ⟨(List.mem_cons_of_mem _ (List.mem_append_left _ (List.mem_append_left _ (List.mem_append_left _ (List.mem_append_left _ lm5))))), (fun _ h => absurd h List.not_mem_nil)⟩⟩⟩⟩) (by decide +kernel)) (goodIn_sub (by unfold wsX1_backgroundCount; exact List.forall_mem_cons.mpr ⟨(List.mem_cons_of_mem _ (List.mem_append_left _ (List.mem_append_left _ (List.mem_append_left _ (List.mem_append_left _ lm6))))), List.forall_mem_append.mpr ⟨List.forall_mem_append.mpr ⟨List.forall_mem_append.mpr ⟨List.forall_mem_cons.mpr ⟨(List.mem_cons_of_mem _ (List.mem_append_left _ (List.mem_append_left _ (List.mem_append_left _ (List.mem_append_left _ lm7))))), List.forall_mem_cons.mpr ⟨(List.mem_cons_of_mem _ (List.mem_append_left _ (List.mem_append_left _ (List.mem_append_left _ (List.mem_append_left _ lm8))))), List.forall_mem_cons.mpr ⟨(List.mem_cons_of_mem _ (List.mem_append_left _ (List.mem_append_left _ (List.mem_append_left _ (List.mem_append_left _ lm1))))), List.forall_mem_cons.mpr ⟨(List.mem_cons_of_mem _ (List.mem_append_left _ (List.mem_append_left _ (List.mem_append_left _ (List.mem_append_left _ lm9))))), (fun _ h => absurd h List.not_mem_nil)⟩⟩⟩⟩, (fun _ h => (List.mem_cons_of_mem _ (List.mem_append_left _ (List.mem_append_right _ h))))⟩, (fun _ h => (List.mem_cons_of_mem _ (List.mem_append_right _ h)))⟩, (fun _ h => (List.mem_cons_of_mem _ (List.mem_append_left _ (List.mem_append_left _ (List.mem_append_right _ h)))))⟩⟩) gw_X1_backgroundCount)
theorem gw_X1_stepCount : wsX1_stepCount.all goodWord = true := by decide +kernel
theorem gX1_hasStep_X1_stepCount : GoodIn wsX1_hasStep (wsV RX1 104 RX1 yX1_stepCount wsX1_stepCount) := goodIn_app (goodIn_sub (List.forall_mem_cons.mpr ⟨(List.mem_cons_of_mem _ (List.mem_append_left _ (List.mem_append_left _ (List.mem_append_left _ (List.mem_append_left _ lm2))))), List.forall_mem_cons.mpr ⟨(List.mem_cons_of_mem _ (List.mem_append_left _ (List.mem_append_left _ (List.mem_append_left _ (List.mem_append_left _ lm3))))), List.forall_mem_cons.mpr ⟨(List.mem_cons_of_mem _ (List.mem_append_left _ (List.mem_append_left _ (List.mem_append_left _ (List.mem_append_left _ lm4))))), List.forall_mem_cons.mpr ⟨(List.mem_cons_of_mem _ (List.mem_append_left _ (List.mem_append_left _ (List.mem_append_left _ (List.mem_append_left _ lm5))))), (fun _ h => absurd h List.not_mem_nil)⟩⟩⟩⟩) (by decide +kernel)) (goodIn_sub (by unfold wsX1_stepCount; exact List.forall_mem_cons.mpr ⟨(List.mem_cons_of_mem _ (List.mem_append_left _ (List.mem_append_left _ (List.mem_append_left _ (List.mem_append_left _ lm6))))), List.forall_mem_append.mpr ⟨List.forall_mem_append.mpr ⟨List.forall_mem_append.mpr ⟨List.forall_mem_append.mpr ⟨List.forall_mem_cons.mpr ⟨(List.mem_cons_of_mem _ (List.mem_append_left _ (List.mem_append_left _ (List.mem_append_left _ (List.mem_append_left _ lm7))))), List.forall_mem_cons.mpr ⟨(List.mem_cons_of_mem _ (List.mem_append_left _ (List.mem_append_left _ (List.mem_append_left _ (List.mem_append_left _ lm8))))), List.forall_mem_cons.mpr ⟨(List.mem_cons_of_mem _ (List.mem_append_left _ (List.mem_append_left _ (List.mem_append_left _ (List.mem_append_left _ lm9))))), List.forall_mem_cons.mpr ⟨(List.mem_cons_of_mem _ (List.mem_append_left _ (List.mem_append_left _ (List.mem_append_left _ (List.mem_append_left _ lm10))))), List.forall_mem_cons.mpr ⟨(List.mem_cons_of_mem _ (List.mem_append_left _ (List.mem_append_left _ (List.mem_append_left _ (List.mem_append_left _ lm11))))), List.forall_mem_cons.mpr ⟨(List.mem_cons_of_mem _ (List.mem_append_left _ (List.mem_append_left _ (List.mem_append_left _ (List.mem_append_left _ lm5))))), List.forall_mem_cons.mpr ⟨(List.mem_cons_of_mem _ (List.mem_append_left _ (List.mem_append_left _ (List.mem_append_left _ (List.mem_append_left _ lm12))))), List.forall_mem_cons.mpr ⟨(List.mem_cons_of_mem _ (List.mem_append_left _ (List.mem_append_left _ (List.mem_append_left _ (List.mem_append_left _ lm13))))), List.forall_mem_cons.mpr ⟨(List.mem_cons_of_mem _ (List.mem_append_left _ (List.mem_append_left _ (List.mem_append_left _ (List.mem_append_left _ lm14))))), List.forall_mem_cons.mpr ⟨(List.mem_cons_of_mem _ (List.mem_append_left _ (List.mem_append_left _ (List.mem_append_left _ (List.mem_append_left _ lm15))))), (fun _ h => absurd h List.not_mem_nil)⟩⟩⟩⟩⟩⟩⟩⟩⟩⟩, (fun _ h => (List.mem_cons_of_mem _ (List.mem_append_left _ (List.mem_append_left _ (List.mem_append_right _ h)))))⟩, (fun _ h => (List.mem_cons_of_mem _ (List.mem_append_left _ (List.mem_append_right _ h))))⟩, (fun _ h => (List.mem_cons_of_mem _ (List.mem_append_left _ (List.mem_append_left _ (List.mem_append_left _ (List.mem_append_right _ h))))))⟩, (fun _ h => (List.mem_cons_of_mem _ (List.mem_append_right _ h)))⟩⟩) gw_X1_stepCount)
theorem gX1_stepOf_X1_backgroundCount : GoodIn wsX1_stepOf (wsV RX1 100 RX1 yX1_backgroundCount wsX1_backgroundCount) := goodIn_app (goodIn_sub (List.forall_mem_cons.mpr ⟨(List.mem_cons_of_mem _ (List.mem_append_left _ (List.mem_append_left _ (List.mem_append_left _ (List.mem_append_left _ lm7))))), List.forall_mem_cons.mpr ⟨(List.mem_cons_of_mem _ (List.mem_append_left _ (List.mem_append_left _ (List.mem_append_left _ (List.mem_append_left _ lm8))))), List.forall_mem_cons.mpr ⟨(List.mem_cons_of_mem _ (List.mem_append_left _ (List.mem_append_left _ (List.mem_append_left _ (List.mem_append_left _ lm9))))), List.forall_mem_cons.mpr ⟨(List.mem_cons_of_mem _ (List.mem_append_left _ (List.mem_append_left _ (List.mem_append_left _ (List.mem_append_left _ lm10))))), (fun _ h => absurd h List.not_mem_nil)⟩⟩⟩⟩) (by decide +kernel)) (goodIn_sub (by unfold wsX1_backgroundCount; exact List.forall_mem_cons.mpr ⟨(List.mem_cons_of_mem _ (List.mem_append_left _ (List.mem_append_left _ (List.mem_append_left _ (List.mem_append_left _ lm11))))), List.forall_mem_append.mpr ⟨List.forall_mem_append.mpr ⟨List.forall_mem_append.mpr ⟨List.forall_mem_cons.mpr ⟨(List.mem_cons_of_mem _ (List.mem_append_left _ (List.mem_append_left _ (List.mem_append_left _ (List.mem_append_left _ lm0))))), List.forall_mem_cons.mpr ⟨(List.mem_cons_of_mem _ (List.mem_append_left _ (List.mem_append_left _ (List.mem_append_left _ (List.mem_append_left _ lm1))))), List.forall_mem_cons.mpr ⟨(List.mem_cons_of_mem _ (List.mem_append_left _ (List.mem_append_left _ (List.mem_append_left _ (List.mem_append_left _ lm2))))), List.forall_mem_cons.mpr ⟨(List.mem_cons_of_mem _ (List.mem_append_left _ (List.mem_append_left _ (List.mem_append_left _ (List.mem_append_left _ lm6))))), (fun _ h => absurd h List.not_mem_nil)⟩⟩⟩⟩, (fun _ h => (List.mem_cons_of_mem _ (List.mem_append_left _ (List.mem_append_left _ (List.mem_append_left _ (List.mem_append_right _ h))))))⟩, (fun _ h => (List.mem_cons_of_mem _ (List.mem_append_left _ (List.mem_append_left _ (List.mem_append_right _ h)))))⟩, (fun _ h => (List.mem_cons_of_mem _ (List.mem_append_left _ (List.mem_append_right _ h))))⟩⟩) gw_X1_backgroundCount)
set_option maxHeartbeats 2000000 in
set_option maxRecDepth 100000 in
theorem k_bgc (l : Launch) (D : va_G) (g : Nat → Nat) (ka : Nat → ClassId) (ad : Nat → Nat) (i : Nat → Nat → Int32) (r : Nat → Nat → Nat) (L : Nat → Nat → Int64) (d : Nat → Nat → UInt64) (q : Nat) (hO : OkI i) (hR : RS r) (sz : Nat) (hq1 : 42 ≤ q) (hq2 : q < 54) : Met l yX1_backgroundCount wsX1_backgroundCount ({ frames := 0, cells := 0, slots := 0, locals := 0 }) (va_Pc [.ref (g 13), .ref (g q)] (sj_B D (hwc g ka i r L d) (hT ka) sz (gx ad (va_A (hwc g ka i r L d) sz)))) (sj_Qi (S := Unit) D (fun v u => ((0 : Int) ≤ v.toInt ∧ v.toInt ≤ 80) ∧ (v.toInt = bgc i q)) (fun _ => hwc g ka i r L d) (fun _ => []) (va_A (hwc g ka i r L d) sz)) 0 0 (va_A (hwc g ka i r L d) sz) := by
  refine x_met (Ex := gx ad) (cc := cX1_backgroundCount) (maxL := 3) (ret := (some .int)) (by decide) rfl (Nat.le_of_ble_eq_true rfl) ?_
  intro p e s m below meth c A ls hx hb hr hml hts hown hlocks hA hS hH hK hE hl
  have hown : s.vm.findClass RX1 = some m.cls := hown
  have in1 : ∀ w ∈ wsX10, w ∈ wsX1_backgroundCount := (fun _ h => (List.mem_cons_of_mem _ (List.mem_append_left _ (List.mem_append_left _ (List.mem_append_right _ h)))))
  have in4 : ∀ w ∈ wsX40, w ∈ wsX1_backgroundCount := (fun _ h => (List.mem_cons_of_mem _ (List.mem_append_right _ h)))
  have in5 : ∀ w ∈ wsX50, w ∈ wsX1_backgroundCount := (fun _ h => (List.mem_cons_of_mem _ (List.mem_append_left _ (List.mem_append_right _ h))))
  have wd0 := hts (.fieldLink RX1 9 "StoryDesk$Cases" "reading" "LStoryDesk$Reading;") (List.mem_cons_of_mem _ (List.mem_append_left _ (List.mem_append_left _ (List.mem_append_left _ lm0))))
  have wd1 := hts (.fieldLink RX1 90 "StoryDesk$Reading" "sections" "[LStoryDesk$Part;") (List.mem_cons_of_mem _ (List.mem_append_left _ (List.mem_append_left _ (List.mem_append_left _ lm1))))
  have wd2 := hts (.fieldLink RX1 68 "StoryDesk$Part" "count" "I") (List.mem_cons_of_mem _ (List.mem_append_left _ (List.mem_append_left _ (List.mem_append_left _ lm2))))
  have wd3 := hts (.fieldLink RX1 93 "StoryDesk$Part" "section" "I") (List.mem_cons_of_mem _ (List.mem_append_left _ (List.mem_append_left _ (List.mem_append_left _ lm3))))
  have hl : lv_has ls 3 [(0, .ref (g 13)), (1, .ref (g q))] := hl
  have hK : va_K D vwCl (hT ka) s := hK
  refine lv_aload_n hx hb dX1_backgroundCount_0 rfl (lv_at hl 0 rfl) ?_
  refine h_getr (ci := 1) (C := RX1) (F := TX1) (N := 5) hx hb hts in1 hown hK hH (by decide) (rfl : kd 13 = 1) (by decide) rfl 0 (by decide) wd0 (fun _ h9 => h9) (by decide) rfl (t := 3) (hR 13 0 rfl) (by decide) dX1_backgroundCount_1 ?_
  refine h_getr (ci := 5) (C := RX5) (F := TX5) (N := 19) hx hb hts in5 hown hK hH (by decide) (rfl : kd 3 = 5) (by decide) rfl 5 (by decide) wd1 (fun _ h9 => h9) (by decide) rfl (t := 8) (hR 3 5 rfl) (by decide) dX1_backgroundCount_4 ?_
  refine lv_iconst (v := 0) hx hb dX1_backgroundCount_7 (by decide) ?_
  refine h_qald hx hb hK hH (by decide) (rfl : kd 8 = 22) (by decide) rfl (s_vin (N := 5) (show (0 : Int32).toInt = 0 from rfl) (rfl : ln 8 = 5) (by omega) (by omega)) (t := 37) (hR 8 0 rfl) (by decide) dX1_backgroundCount_8 ?_
  have pb_1 := bxp hO (p := 37) (by omega) (by omega)
  have bx_2 : (0 : Int) ≤ (i 37 3).toInt ∧ (i 37 3).toInt ≤ 40 := hO 37 3
  refine h_geti (ci := 4) (C := RX4) (F := TX4) (N := 9) hx hb hts in4 hown hK hH (by decide) (rfl : kd 37 = 4) (by decide) rfl 3 (by decide) wd2 (fun _ h9 => h9) (by decide) rfl dX1_backgroundCount_9 ?_
  refine lv_istore_n (lv' := [(2, .int (i 37 3)), (0, .ref (g 13)), (1, .ref (g q))]) hx hb dX1_backgroundCount_12 rfl hl (by decide) rfl (fun ls hl => ?_)
  refine lv_aload_n hx hb dX1_backgroundCount_13 rfl (lv_at hl 2 rfl) ?_
  have bx_3 : (0 : Int) ≤ (i q 6).toInt ∧ (i q 6).toInt ≤ 4 := by have h9 := hO q 6; rw [bx_part (by omega) (by omega) 6] at h9; exact h9
  refine h_geti (ci := 4) (C := RX4) (F := TX4) (N := 9) hx hb hts in4 hown hK hH (lt_nK (by omega)) (kd_part (by omega) (by omega)) (by decide) rfl 6 (by decide) wd3 (fun _ h9 => h9) (by decide) rfl dX1_backgroundCount_14 ?_
  refine lv_if_ne (tgt := 24) hx hb dX1_backgroundCount_17 (by decide) (fun c_4 => ?_) (fun c_4 => ?_)
  · skip
    have h_5 := s_ne (rfl : (i q 6).toInt = _) (show (0 : Int32).toInt = 0 from rfl) c_4
    refine lv_iload_n hx hb dX1_backgroundCount_24 rfl (lv_at hl 0 rfl) ?_
    refine lv_aload_n hx hb dX1_backgroundCount_25 rfl (lv_at hl 1 rfl) ?_
    refine h_getr (ci := 1) (C := RX1) (F := TX1) (N := 5) hx hb hts in1 hown hK hH (by decide) (rfl : kd 13 = 1) (by decide) rfl 0 (by decide) wd0 (fun _ h9 => h9) (by decide) rfl (t := 3) (hR 13 0 rfl) (by decide) dX1_backgroundCount_26 ?_
    refine h_getr (ci := 5) (C := RX5) (F := TX5) (N := 19) hx hb hts in5 hown hK hH (by decide) (rfl : kd 3 = 5) (by decide) rfl 5 (by decide) wd1 (fun _ h9 => h9) (by decide) rfl (t := 8) (hR 3 5 rfl) (by decide) dX1_backgroundCount_29 ?_
    refine lv_aload_n hx hb dX1_backgroundCount_32 rfl (lv_at hl 2 rfl) ?_
    refine h_geti (ci := 4) (C := RX4) (F := TX4) (N := 9) hx hb hts in4 hown hK hH (lt_nK (by omega)) (kd_part (by omega) (by omega)) (by decide) rfl 6 (by decide) wd3 (fun _ h9 => h9) (by decide) rfl dX1_backgroundCount_33 ?_
    obtain ⟨j_6, ej_6, hj_6⟩ : ∃ j : Nat, ((i q 6)).toNatClampNeg = j ∧ (j : Int) = (i q 6).toInt := ⟨_, rfl, by rw [s_cl (rfl : (i q 6).toInt = _)]; omega⟩
    have lj_6 : j_6 < 5 := by omega
    refine h_qald hx hb hK hH (by decide) (rfl : kd 8 = 22) (by decide) rfl (s_vin (N := 5) (rfl : (i q 6).toInt = _) (rfl : ln 8 = 5) (by omega) (by omega)) (t := (37 + 1 * j_6)) (by rw [ej_6]; exact (hR 8 j_6 rfl)) (lt_nK (by omega)) dX1_backgroundCount_36 ?_
    have pb_7 := bxp hO (p := (37 + 1 * j_6)) (by omega) (by omega)
    have bx_8 : (0 : Int) ≤ (i (37 + 1 * j_6) 3).toInt ∧ (i (37 + 1 * j_6) 3).toInt ≤ 40 := by have h9 := hO (37 + 1 * j_6) 3; rw [bx_part (by omega) (by omega) 3] at h9; exact h9
    refine h_geti (ci := 4) (C := RX4) (F := TX4) (N := 9) hx hb hts in4 hown hK hH (lt_nK (by omega)) (kd_part (by omega) (by omega)) (by decide) rfl 3 (by decide) wd2 (fun _ h9 => h9) (by decide) rfl dX1_backgroundCount_37 ?_
    refine lv_iadd hx hb dX1_backgroundCount_40 ?_
    obtain ⟨z_9, ez_9, hz_9⟩ := s_add (rfl : (i 37 3).toInt = _) (rfl : (i (37 + 1 * j_6) 3).toInt = _) (by omega) (by omega)
    refine sj_i ez_9 ?_
    have hbg := bgc_or i q
    rw [show (i q 6).toInt.toNat = j_6 by omega] at hbg
    exact sj_zret hx hb hr hlocks rfl hS () ⟨⟨by omega, by omega⟩, (by omega)⟩ hH (sj_Knil hK) (Nat.le_of_ble_eq_true rfl) (Nat.le_of_ble_eq_true rfl) dX1_backgroundCount_41
  · skip
    have h_10 := s_eq (rfl : (i q 6).toInt = _) (show (0 : Int32).toInt = 0 from rfl) c_4
    refine lv_iload_n hx hb dX1_backgroundCount_20 rfl (lv_at hl 0 rfl) ?_
    refine lv_goto (tgt := 41) hx hb dX1_backgroundCount_21 (by decide) ?_
    have hbg := bgc_or i q
    exact sj_zret hx hb hr hlocks rfl hS () ⟨⟨by omega, by omega⟩, (by omega)⟩ hH (sj_Knil hK) (Nat.le_of_ble_eq_true rfl) (Nat.le_of_ble_eq_true rfl) dX1_backgroundCount_41
set_option maxHeartbeats 2000000 in
set_option maxRecDepth 100000 in
theorem k_scn (l : Launch) (D : va_G) (g : Nat → Nat) (ka : Nat → ClassId) (ad : Nat → Nat) (i : Nat → Nat → Int32) (r : Nat → Nat → Nat) (L : Nat → Nat → Int64) (d : Nat → Nat → UInt64) (j : Nat) (hO : OkI i) (hR : RS r) (sz : Nat) (hPC : PC i r) (hj : j < 24) (hjc : (j : Int) < (i 13 4).toInt) : Met l yX1_stepCount wsX1_stepCount ({ frames := 1, cells := 0, slots := 0, locals := 22 }) (va_Pc [.ref (g 13), .ref (g (216 + 1 * j))] (sj_B D (hwc g ka i r L d) (hT ka) sz (gx ad (va_A (hwc g ka i r L d) sz)))) (sj_Qi (S := Unit) D (fun v u => ((0 : Int) ≤ v.toInt ∧ v.toInt ≤ 120) ∧ (v.toInt = scn i (r (216 + 1 * j) 0))) (fun _ => hwc g ka i r L d) (fun _ => []) (va_A (hwc g ka i r L d) sz)) 0 0 (va_A (hwc g ka i r L d) sz) := by
  refine x_met (Ex := gx ad) (cc := cX1_stepCount) (maxL := 2) (ret := (some .int)) (by decide) rfl (Nat.le_of_ble_eq_true rfl) ?_
  intro p e s m below meth c A ls hx hb hr hml hts hown hlocks hA hS hH hK hE hl
  have hown : s.vm.findClass RX1 = some m.cls := hown
  have in0 : ∀ w ∈ wsX00, w ∈ wsX1_stepCount := (fun _ h => (List.mem_cons_of_mem _ (List.mem_append_left _ (List.mem_append_left _ (List.mem_append_left _ (List.mem_append_right _ h))))))
  have in4 : ∀ w ∈ wsX40, w ∈ wsX1_stepCount := (fun _ h => (List.mem_cons_of_mem _ (List.mem_append_left _ (List.mem_append_left _ (List.mem_append_right _ h)))))
  have wd0 := hts (.fieldLink RX1 79 "StoryDesk$Case" "scenario" "LStoryDesk$Part;") (List.mem_cons_of_mem _ (List.mem_append_left _ (List.mem_append_left _ (List.mem_append_left _ (List.mem_append_left _ lm0)))))
  have wd1 := hts (.fieldLink RX1 68 "StoryDesk$Part" "count" "I") (List.mem_cons_of_mem _ (List.mem_append_left _ (List.mem_append_left _ (List.mem_append_left _ (List.mem_append_left _ lm1)))))
  have hl : lv_has ls 2 [(0, .ref (g 13)), (1, .ref (g (216 + 1 * j)))] := hl
  have hK : va_K D vwCl (hT ka) s := hK
  refine lv_aload_n hx hb dX1_stepCount_0 rfl (lv_at hl 1 rfl) ?_
  obtain ⟨q_1, eq_1, hq_1a, hq_1b⟩ : ∃ q, r (216 + 1 * j) 0 = q ∧ 42 ≤ q ∧ q < 54 := ⟨_, rfl, (hPC j (by omega)).1 (by omega)⟩
  have pb_2 := bxp hO (p := q_1) (by omega) (by omega)
  refine h_getr (ci := 0) (C := RX0) (F := TX0) (N := 5) hx hb hts in0 hown hK hH (lt_nK (by omega)) (kd_case (by omega) (by omega)) (by decide) rfl 0 (by decide) wd0 (fun _ h9 => h9) (by decide) rfl (t := q_1) eq_1 (lt_nK (by omega)) dX1_stepCount_1 ?_
  have pb_3 := bxp hO (p := q_1) (by omega) (by omega)
  have bx_4 : (0 : Int) ≤ (i q_1 3).toInt ∧ (i q_1 3).toInt ≤ 40 := by have h9 := hO q_1 3; rw [bx_part (by omega) (by omega) 3] at h9; exact h9
  refine h_geti (ci := 4) (C := RX4) (F := TX4) (N := 9) hx hb hts in4 hown hK hH (lt_nK (by omega)) (kd_part (by omega) (by omega)) (by decide) rfl 3 (by decide) wd1 (fun _ h9 => h9) (by decide) rfl dX1_stepCount_4 ?_
  refine lv_if_ne (tgt := 14) hx hb dX1_stepCount_7 (by decide) (fun c_5 => ?_) (fun c_5 => ?_)
  · skip
    have h_6 := s_ne (rfl : (i q_1 3).toInt = _) (show (0 : Int32).toInt = 0 from rfl) c_5
    refine lv_aload_n hx hb dX1_stepCount_14 rfl (lv_at hl 0 rfl) ?_
    refine lv_aload_n hx hb dX1_stepCount_15 rfl (lv_at hl 1 rfl) ?_
    refine h_getr (ci := 0) (C := RX0) (F := TX0) (N := 5) hx hb hts in0 hown hK hH (lt_nK (by omega)) (kd_case (by omega) (by omega)) (by decide) rfl 0 (by decide) wd0 (fun _ h9 => h9) (by decide) rfl (t := q_1) eq_1 (lt_nK (by omega)) dX1_stepCount_16 ?_
    have pb_7 := bxp hO (p := q_1) (by omega) (by omega)
    refine x_calli (va_runV (As := [.ref (g q_1)]) (rest := []) ⟨hx, hb, hml, hown, hts⟩ (k_bgc l D g ka ad i r L d q_1 hO hR s.heap.size (by first | omega | decide) (by first | omega | decide)) (cwV 1 hts gX1_stepCount_X1_backgroundCount rfl rfl rfl (by decide +kernel) ⟨(Nat.le_of_ble_eq_true rfl), (Nat.le_of_ble_eq_true rfl)⟩) (x_preV (q := (RX1, TX1, 5)) hH hK (q_obj (by decide) (rfl : kd 13 = 1) (by decide)) rfl gxb (gxw hE hS (x_F hH hS hA))) rfl rfl hl.1 rfl (lv_room (Nat.le_of_ble_eq_true rfl)) dX1_stepCount_19 ⟨(Nat.le_of_ble_eq_true rfl), (Nat.le_of_ble_eq_true rfl)⟩) hH hS hA rfl rfl (fun r_8 _ H locs hw_9 hH hS => ?_)
    obtain ⟨hr_11, he_12⟩ := hw_9
    have hr_11 : (0 : Int) ≤ r_8.toInt ∧ r_8.toInt ≤ 80 := hr_11
    refine lv_aload_n hx hb dX1_stepCount_22 rfl (lv_at hl 1 rfl) ?_
    refine h_getr (ci := 0) (C := RX0) (F := TX0) (N := 5) hx hb hts in0 hown hK hH (lt_nK (by omega)) (kd_case (by omega) (by omega)) (by decide) rfl 0 (by decide) wd0 (fun _ h9 => h9) (by decide) rfl (t := q_1) eq_1 (lt_nK (by omega)) dX1_stepCount_23 ?_
    have pb_13 := bxp hO (p := q_1) (by omega) (by omega)
    refine h_geti (ci := 4) (C := RX4) (F := TX4) (N := 9) hx hb hts in4 hown hK hH (lt_nK (by omega)) (kd_part (by omega) (by omega)) (by decide) rfl 3 (by decide) wd1 (fun _ h9 => h9) (by decide) rfl dX1_stepCount_26 ?_
    refine lv_iadd hx hb dX1_stepCount_29 ?_
    obtain ⟨z_14, ez_14, hz_14⟩ := s_add (rfl : r_8.toInt = _) (rfl : (i q_1 3).toInt = _) (by omega) (by omega)
    refine sj_i ez_14 ?_
    have hsc := scn_or i q_1
    exact sj_zret hx hb hr hlocks rfl hS () ⟨⟨by omega, by omega⟩, (by rw [eq_1]; omega)⟩ hH (sj_Knil hK) (Nat.le_of_ble_eq_true rfl) (Nat.le_of_ble_eq_true rfl) dX1_stepCount_30
  · skip
    have h_15 := s_eq (rfl : (i q_1 3).toInt = _) (show (0 : Int32).toInt = 0 from rfl) c_5
    refine lv_iconst (v := 0) hx hb dX1_stepCount_10 (by decide) ?_
    refine lv_goto (tgt := 30) hx hb dX1_stepCount_11 (by decide) ?_
    have hlv_16 : (0 : Int32).toInt = 0 := rfl
    have hsc := scn_or i q_1
    exact sj_zret hx hb hr hlocks rfl hS () ⟨⟨by decide, by decide⟩, (by rw [eq_1]; omega)⟩ hH (sj_Knil hK) (Nat.le_of_ble_eq_true rfl) (Nat.le_of_ble_eq_true rfl) dX1_stepCount_30
set_option maxHeartbeats 2000000 in
set_option maxRecDepth 100000 in
theorem k_hasStep (l : Launch) (D : va_G) (g : Nat → Nat) (ka : Nat → ClassId) (ad : Nat → Nat) (i : Nat → Nat → Int32) (r : Nat → Nat → Nat) (L : Nat → Nat → Int64) (d : Nat → Nat → UInt64) (x : Int32) (y : Int32) (hO : OkI i) (hR : RS r) (sz : Nat) (hPC : PC i r) : Met l yX1_hasStep wsX1_hasStep ({ frames := 2, cells := 0, slots := 0, locals := 43 }) (va_Pc [.ref (g 13), .int x, .int y] (sj_B D (hwc g ka i r L d) (hT ka) sz (gx ad (va_A (hwc g ka i r L d) sz)))) (sj_Qi (S := Unit) D (fun v u => ((0 : Int) ≤ v.toInt ∧ v.toInt ≤ 1) ∧ (v.toInt = 1 → (0 ≤ x.toInt ∧ x.toInt < (i 13 4).toInt ∧ 0 ≤ y.toInt ∧ y.toInt < scn i (r (216 + 1 * x.toInt.toNat) 0)))) (fun _ => hwc g ka i r L d) (fun _ => []) (va_A (hwc g ka i r L d) sz)) 0 0 (va_A (hwc g ka i r L d) sz) := by
  refine x_met (Ex := gx ad) (cc := cX1_hasStep) (maxL := 3) (ret := (some .boolean)) (by decide) rfl (Nat.le_of_ble_eq_true rfl) ?_
  intro p e s m below meth c A ls hx hb hr hml hts hown hlocks hA hS hH hK hE hl
  have hown : s.vm.findClass RX1 = some m.cls := hown
  have in1 : ∀ w ∈ wsX10, w ∈ wsX1_hasStep := (fun _ h => (List.mem_cons_of_mem _ (List.mem_append_left _ (List.mem_append_left _ (List.mem_append_left _ (List.mem_append_right _ h))))))
  have wd0 := hts (.fieldLink RX1 34 "StoryDesk$Cases" "count" "I") (List.mem_cons_of_mem _ (List.mem_append_left _ (List.mem_append_left _ (List.mem_append_left _ (List.mem_append_left _ lm0)))))
  have wd1 := hts (.fieldLink RX1 29 "StoryDesk$Cases" "all" "[LStoryDesk$Case;") (List.mem_cons_of_mem _ (List.mem_append_left _ (List.mem_append_left _ (List.mem_append_left _ (List.mem_append_left _ lm1)))))
  have hl : lv_has ls 3 [(0, .ref (g 13)), (1, .int x), (2, .int y)] := hl
  have hK : va_K D vwCl (hT ka) s := hK
  have hg_1 := s_rng x
  have hg_2 := s_rng y
  refine lv_iload_n hx hb dX1_hasStep_0 rfl (lv_at hl 1 rfl) ?_
  refine lv_if_lt (tgt := 34) hx hb dX1_hasStep_1 (by decide) (fun c_3 => ?_) (fun c_3 => ?_)
  · skip
    have h_4 := s_lt (rfl : x.toInt = _) (show (0 : Int32).toInt = 0 from rfl) c_3
    refine lv_iconst (v := 0) hx hb dX1_hasStep_34 (by decide) ?_
    have hlv_5 : (0 : Int32).toInt = 0 := rfl
    exact sj_zret hx hb hr hlocks (by decide +kernel) hS () ⟨⟨by decide, by decide⟩, (fun h => absurd h (by decide))⟩ hH (sj_Knil hK) (Nat.le_of_ble_eq_true rfl) (Nat.le_of_ble_eq_true rfl) dX1_hasStep_35
  · skip
    have h_6 := s_nlt (rfl : x.toInt = _) (show (0 : Int32).toInt = 0 from rfl) c_3
    refine lv_iload_n hx hb dX1_hasStep_4 rfl (lv_at hl 1 rfl) ?_
    refine lv_aload_n hx hb dX1_hasStep_5 rfl (lv_at hl 0 rfl) ?_
    have bx_7 : (0 : Int) ≤ (i 13 4).toInt ∧ (i 13 4).toInt ≤ 24 := hO 13 4
    refine h_geti (ci := 1) (C := RX1) (F := TX1) (N := 5) hx hb hts in1 hown hK hH (by decide) (rfl : kd 13 = 1) (by decide) rfl 4 (by decide) wd0 (fun _ h9 => h9) (by decide) rfl dX1_hasStep_6 ?_
    refine lv_icmp_ge (tgt := 34) hx hb dX1_hasStep_9 (by decide) (fun c_8 => ?_) (fun c_8 => ?_)
    · skip
      have h_9 := s_le (rfl : (i 13 4).toInt = _) (rfl : x.toInt = _) c_8
      refine lv_iconst (v := 0) hx hb dX1_hasStep_34 (by decide) ?_
      have hlv_10 : (0 : Int32).toInt = 0 := rfl
      exact sj_zret hx hb hr hlocks (by decide +kernel) hS () ⟨⟨by decide, by decide⟩, (fun h => absurd h (by decide))⟩ hH (sj_Knil hK) (Nat.le_of_ble_eq_true rfl) (Nat.le_of_ble_eq_true rfl) dX1_hasStep_35
    · skip
      have h_11 := s_nle (rfl : (i 13 4).toInt = _) (rfl : x.toInt = _) c_8
      refine lv_iload_n hx hb dX1_hasStep_12 rfl (lv_at hl 2 rfl) ?_
      refine lv_if_lt (tgt := 34) hx hb dX1_hasStep_13 (by decide) (fun c_12 => ?_) (fun c_12 => ?_)
      · skip
        have h_13 := s_lt (rfl : y.toInt = _) (show (0 : Int32).toInt = 0 from rfl) c_12
        refine lv_iconst (v := 0) hx hb dX1_hasStep_34 (by decide) ?_
        have hlv_14 : (0 : Int32).toInt = 0 := rfl
        exact sj_zret hx hb hr hlocks (by decide +kernel) hS () ⟨⟨by decide, by decide⟩, (fun h => absurd h (by decide))⟩ hH (sj_Knil hK) (Nat.le_of_ble_eq_true rfl) (Nat.le_of_ble_eq_true rfl) dX1_hasStep_35
      · skip
        have h_15 := s_nlt (rfl : y.toInt = _) (show (0 : Int32).toInt = 0 from rfl) c_12
        refine lv_iload_n hx hb dX1_hasStep_16 rfl (lv_at hl 2 rfl) ?_
        refine lv_aload_n hx hb dX1_hasStep_17 rfl (lv_at hl 0 rfl) ?_
        refine lv_aload_n hx hb dX1_hasStep_18 rfl (lv_at hl 0 rfl) ?_
        refine h_getr (ci := 1) (C := RX1) (F := TX1) (N := 5) hx hb hts in1 hown hK hH (by decide) (rfl : kd 13 = 1) (by decide) rfl 3 (by decide) wd1 (fun _ h9 => h9) (by decide) rfl (t := 18) (hR 13 3 rfl) (by decide) dX1_hasStep_19 ?_
        refine lv_iload_n hx hb dX1_hasStep_22 rfl (lv_at hl 1 rfl) ?_
        obtain ⟨j_16, ej_16, hj_16⟩ : ∃ j : Nat, (x).toNatClampNeg = j ∧ (j : Int) = x.toInt := ⟨_, rfl, by rw [s_cl (rfl : x.toInt = _)]; omega⟩
        have lj_16 : j_16 < 24 := by omega
        refine h_qald hx hb hK hH (by decide) (rfl : kd 18 = 18) (by decide) rfl (s_vin (N := 24) (rfl : x.toInt = _) (rfl : ln 18 = 24) (by omega) (by omega)) (t := (216 + 1 * j_16)) (by rw [ej_16]; exact (hR 18 j_16 rfl)) (lt_nK (by omega)) dX1_hasStep_23 ?_
        refine x_calli (va_runV (As := [.ref (g (216 + 1 * j_16))]) (rest := [.int y]) ⟨hx, hb, hml, hown, hts⟩ (k_scn l D g ka ad i r L d j_16 hO hR s.heap.size hPC (by first | omega | decide) (by first | omega | decide)) (cwV 1 hts gX1_hasStep_X1_stepCount rfl rfl rfl (by decide +kernel) ⟨(Nat.le_of_ble_eq_true rfl), (Nat.le_of_ble_eq_true rfl)⟩) (x_preV (q := (RX1, TX1, 5)) hH hK (q_obj (by decide) (rfl : kd 13 = 1) (by decide)) rfl gxb (gxw hE hS (x_F hH hS hA))) rfl rfl hl.1 rfl (lv_room (Nat.le_of_ble_eq_true rfl)) dX1_hasStep_24 ⟨(Nat.le_of_ble_eq_true rfl), (Nat.le_of_ble_eq_true rfl)⟩) hH hS hA rfl rfl (fun r_17 _ H locs hw_18 hH hS => ?_)
        obtain ⟨hr_20, he_21⟩ := hw_18
        have hr_20 : (0 : Int) ≤ r_17.toInt ∧ r_17.toInt ≤ 120 := hr_20
        refine lv_icmp_ge (tgt := 34) hx hb dX1_hasStep_27 (by decide) (fun c_22 => ?_) (fun c_22 => ?_)
        · skip
          have h_23 := s_le (rfl : r_17.toInt = _) (rfl : y.toInt = _) c_22
          refine lv_iconst (v := 0) hx hb dX1_hasStep_34 (by decide) ?_
          have hlv_24 : (0 : Int32).toInt = 0 := rfl
          exact sj_zret hx hb hr hlocks (by decide +kernel) hS () ⟨⟨by decide, by decide⟩, (fun h => absurd h (by decide))⟩ hH (sj_Knil hK) (Nat.le_of_ble_eq_true rfl) (Nat.le_of_ble_eq_true rfl) dX1_hasStep_35
        · skip
          have h_25 := s_nle (rfl : r_17.toInt = _) (rfl : y.toInt = _) c_22
          refine lv_iconst (v := 1) hx hb dX1_hasStep_30 (by decide) ?_
          refine lv_goto (tgt := 35) hx hb dX1_hasStep_31 (by decide) ?_
          have hlv_26 : (1 : Int32).toInt = 1 := rfl
          exact sj_zret hx hb hr hlocks (by decide +kernel) hS () ⟨⟨by decide, by decide⟩, (fun _ => ⟨by omega, by omega, by omega, by rw [show x.toInt.toNat = j_16 by omega]; omega⟩)⟩ hH (sj_Knil hK) (Nat.le_of_ble_eq_true rfl) (Nat.le_of_ble_eq_true rfl) dX1_hasStep_35
set_option maxHeartbeats 2000000 in
set_option maxRecDepth 100000 in
theorem k_stepOf (l : Launch) (D : va_G) (g : Nat → Nat) (ka : Nat → ClassId) (ad : Nat → Nat) (i : Nat → Nat → Int32) (r : Nat → Nat → Nat) (L : Nat → Nat → Int64) (d : Nat → Nat → UInt64) (j : Nat) (y : Int32) (hO : OkI i) (hR : RS r) (sz : Nat) (hPC : PC i r) (hj : j < 24) (hjc : (j : Int) < (i 13 4).toInt) (hPO : PO i) (hy0 : 0 ≤ y.toInt) (hy1 : y.toInt < scn i (r (216 + 1 * j) 0)) : Met l yX1_stepOf wsX1_stepOf ({ frames := 1, cells := 0, slots := 0, locals := 22 }) (va_Pc [.ref (g 13), .ref (g (216 + 1 * j)), .int y] (sj_B D (hwc g ka i r L d) (hT ka) sz (gx ad (va_A (hwc g ka i r L d) sz)))) (sj_Qq (S := Unit) D (fun v u => (∃ q : Nat, (q : Int) = 54 + stp i (r (216 + 1 * j) 0) y.toInt ∧ 54 ≤ q ∧ q < 84 ∧ v = some (g q))) (fun _ => hwc g ka i r L d) (fun _ => []) (va_A (hwc g ka i r L d) sz)) 0 0 (va_A (hwc g ka i r L d) sz) := by
  refine x_met (Ex := gx ad) (cc := cX1_stepOf) (maxL := 5) (ret := (some (.object "StoryDesk$Part"))) (by decide) rfl (Nat.le_of_ble_eq_true rfl) ?_
  intro p e s m below meth c A ls hx hb hr hml hts hown hlocks hA hS hH hK hE hl
  have hown : s.vm.findClass RX1 = some m.cls := hown
  have in0 : ∀ w ∈ wsX00, w ∈ wsX1_stepOf := (fun _ h => (List.mem_cons_of_mem _ (List.mem_append_right _ h)))
  have in1 : ∀ w ∈ wsX10, w ∈ wsX1_stepOf := (fun _ h => (List.mem_cons_of_mem _ (List.mem_append_left _ (List.mem_append_left _ (List.mem_append_left _ (List.mem_append_right _ h))))))
  have in4 : ∀ w ∈ wsX40, w ∈ wsX1_stepOf := (fun _ h => (List.mem_cons_of_mem _ (List.mem_append_left _ (List.mem_append_right _ h))))
  have in5 : ∀ w ∈ wsX50, w ∈ wsX1_stepOf := (fun _ h => (List.mem_cons_of_mem _ (List.mem_append_left _ (List.mem_append_left _ (List.mem_append_right _ h)))))
  have wd0 := hts (.fieldLink RX1 9 "StoryDesk$Cases" "reading" "LStoryDesk$Reading;") (List.mem_cons_of_mem _ (List.mem_append_left _ (List.mem_append_left _ (List.mem_append_left _ (List.mem_append_left _ lm0)))))
  have wd1 := hts (.fieldLink RX1 90 "StoryDesk$Reading" "sections" "[LStoryDesk$Part;") (List.mem_cons_of_mem _ (List.mem_append_left _ (List.mem_append_left _ (List.mem_append_left _ (List.mem_append_left _ lm1)))))
  have wd2 := hts (.fieldLink RX1 68 "StoryDesk$Part" "count" "I") (List.mem_cons_of_mem _ (List.mem_append_left _ (List.mem_append_left _ (List.mem_append_left _ (List.mem_append_left _ lm2)))))
  have wd3 := hts (.fieldLink RX1 79 "StoryDesk$Case" "scenario" "LStoryDesk$Part;") (List.mem_cons_of_mem _ (List.mem_append_left _ (List.mem_append_left _ (List.mem_append_left _ (List.mem_append_left _ lm3)))))
  have wd4 := hts (.fieldLink RX1 108 "StoryDesk$Reading" "steps" "[LStoryDesk$Part;") (List.mem_cons_of_mem _ (List.mem_append_left _ (List.mem_append_left _ (List.mem_append_left _ (List.mem_append_left _ lm4)))))
  have wd5 := hts (.fieldLink RX1 76 "StoryDesk$Part" "first" "I") (List.mem_cons_of_mem _ (List.mem_append_left _ (List.mem_append_left _ (List.mem_append_left _ (List.mem_append_left _ lm5)))))
  have wd6 := hts (.fieldLink RX1 93 "StoryDesk$Part" "section" "I") (List.mem_cons_of_mem _ (List.mem_append_left _ (List.mem_append_left _ (List.mem_append_left _ (List.mem_append_left _ lm6)))))
  have hl : lv_has ls 5 [(0, .ref (g 13)), (1, .ref (g (216 + 1 * j))), (2, .int y)] := hl
  have hK : va_K D vwCl (hT ka) s := hK
  refine lv_aload_n hx hb dX1_stepOf_0 rfl (lv_at hl 0 rfl) ?_
  refine h_getr (ci := 1) (C := RX1) (F := TX1) (N := 5) hx hb hts in1 hown hK hH (by decide) (rfl : kd 13 = 1) (by decide) rfl 0 (by decide) wd0 (fun _ h9 => h9) (by decide) rfl (t := 3) (hR 13 0 rfl) (by decide) dX1_stepOf_1 ?_
  refine h_getr (ci := 5) (C := RX5) (F := TX5) (N := 19) hx hb hts in5 hown hK hH (by decide) (rfl : kd 3 = 5) (by decide) rfl 5 (by decide) wd1 (fun _ h9 => h9) (by decide) rfl (t := 8) (hR 3 5 rfl) (by decide) dX1_stepOf_4 ?_
  refine lv_iconst (v := 0) hx hb dX1_stepOf_7 (by decide) ?_
  refine h_qald hx hb hK hH (by decide) (rfl : kd 8 = 22) (by decide) rfl (s_vin (N := 5) (show (0 : Int32).toInt = 0 from rfl) (rfl : ln 8 = 5) (by omega) (by omega)) (t := 37) (hR 8 0 rfl) (by decide) dX1_stepOf_8 ?_
  have pb_1 := bxp hO (p := 37) (by omega) (by omega)
  have po_2 := hPO 37 (by omega) (by omega)
  have bx_3 : (0 : Int) ≤ (i 37 3).toInt ∧ (i 37 3).toInt ≤ 40 := hO 37 3
  refine h_geti (ci := 4) (C := RX4) (F := TX4) (N := 9) hx hb hts in4 hown hK hH (by decide) (rfl : kd 37 = 4) (by decide) rfl 3 (by decide) wd2 (fun _ h9 => h9) (by decide) rfl dX1_stepOf_9 ?_
  refine lv_istore_n (lv' := [(3, .int (i 37 3)), (0, .ref (g 13)), (1, .ref (g (216 + 1 * j))), (2, .int y)]) hx hb dX1_stepOf_12 rfl hl (by decide) rfl (fun ls hl => ?_)
  refine lv_aload_n hx hb dX1_stepOf_13 rfl (lv_at hl 1 rfl) ?_
  refine lv_aload_n hx hb dX1_stepOf_14 rfl (lv_at hl 2 rfl) ?_
  obtain ⟨q_4, eq_4, hq_4a, hq_4b⟩ : ∃ q, r (216 + 1 * j) 0 = q ∧ 42 ≤ q ∧ q < 54 := ⟨_, rfl, (hPC j (by omega)).1 (by omega)⟩
  rw [eq_4] at hy1
  have hbg := bgc_or i q_4
  have hsc := scn_or i q_4
  have pb_5 := bxp hO (p := q_4) (by omega) (by omega)
  have po_6 := hPO q_4 (by omega) (by omega)
  refine h_getr (ci := 0) (C := RX0) (F := TX0) (N := 5) hx hb hts in0 hown hK hH (lt_nK (by omega)) (kd_case (by omega) (by omega)) (by decide) rfl 0 (by decide) wd3 (fun _ h9 => h9) (by decide) rfl (t := q_4) eq_4 (lt_nK (by omega)) dX1_stepOf_15 ?_
  have pb_7 := bxp hO (p := q_4) (by omega) (by omega)
  have po_8 := hPO q_4 (by omega) (by omega)
  refine x_calli (va_runV (As := [.ref (g q_4)]) (rest := []) ⟨hx, hb, hml, hown, hts⟩ (k_bgc l D g ka ad i r L d q_4 hO hR s.heap.size (by first | omega | decide) (by first | omega | decide)) (cwV 1 hts gX1_stepOf_X1_backgroundCount rfl rfl rfl (by decide +kernel) ⟨(Nat.le_of_ble_eq_true rfl), (Nat.le_of_ble_eq_true rfl)⟩) (x_preV (q := (RX1, TX1, 5)) hH hK (q_obj (by decide) (rfl : kd 13 = 1) (by decide)) rfl gxb (gxw hE hS (x_F hH hS hA))) rfl rfl hl.1 rfl (lv_room (Nat.le_of_ble_eq_true rfl)) dX1_stepOf_18 ⟨(Nat.le_of_ble_eq_true rfl), (Nat.le_of_ble_eq_true rfl)⟩) hH hS hA rfl rfl (fun r_9 _ H locs hw_10 hH hS => ?_)
  obtain ⟨hr_12, he_13⟩ := hw_10
  have hr_12 : (0 : Int) ≤ r_9.toInt ∧ r_9.toInt ≤ 80 := hr_12
  refine lv_istore (lv' := [(4, .int r_9), (3, .int (i 37 3)), (0, .ref (g 13)), (1, .ref (g (216 + 1 * j))), (2, .int y)]) hx hb dX1_stepOf_21 hl (by decide) rfl (fun ls hl => ?_)
  refine lv_iload_n hx hb dX1_stepOf_23 rfl (lv_at hl 4 rfl) ?_
  refine lv_iload_n hx hb dX1_stepOf_24 rfl (lv_at hl 1 rfl) ?_
  refine lv_icmp_ge (tgt := 51) hx hb dX1_stepOf_25 (by decide) (fun c_14 => ?_) (fun c_14 => ?_)
  · skip
    have h_15 := s_le (rfl : (i 37 3).toInt = _) (rfl : y.toInt = _) c_14
    refine lv_iload_n hx hb dX1_stepOf_51 rfl (lv_at hl 4 rfl) ?_
    refine lv_iload hx hb dX1_stepOf_52 (lv_at hl 0 rfl) ?_
    refine lv_icmp_ge (tgt := 88) hx hb dX1_stepOf_54 (by decide) (fun c_16 => ?_) (fun c_16 => ?_)
    · skip
      have h_17 := s_le (rfl : r_9.toInt = _) (rfl : y.toInt = _) c_16
      refine lv_aload_n hx hb dX1_stepOf_88 rfl (lv_at hl 2 rfl) ?_
      refine h_getr (ci := 1) (C := RX1) (F := TX1) (N := 5) hx hb hts in1 hown hK hH (by decide) (rfl : kd 13 = 1) (by decide) rfl 0 (by decide) wd0 (fun _ h9 => h9) (by decide) rfl (t := 3) (hR 13 0 rfl) (by decide) dX1_stepOf_89 ?_
      refine h_getr (ci := 5) (C := RX5) (F := TX5) (N := 19) hx hb hts in5 hown hK hH (by decide) (rfl : kd 3 = 5) (by decide) rfl 9 (by decide) wd4 (fun _ h9 => h9) (by decide) rfl (t := 10) (hR 3 9 rfl) (by decide) dX1_stepOf_92 ?_
      refine lv_aload_n hx hb dX1_stepOf_95 rfl (lv_at hl 3 rfl) ?_
      refine h_getr (ci := 0) (C := RX0) (F := TX0) (N := 5) hx hb hts in0 hown hK hH (lt_nK (by omega)) (kd_case (by omega) (by omega)) (by decide) rfl 0 (by decide) wd3 (fun _ h9 => h9) (by decide) rfl (t := q_4) eq_4 (lt_nK (by omega)) dX1_stepOf_96 ?_
      have pb_18 := bxp hO (p := q_4) (by omega) (by omega)
      have po_19 := hPO q_4 (by omega) (by omega)
      have bx_20 : (0 : Int) ≤ (i q_4 2).toInt ∧ (i q_4 2).toInt ≤ 40 := by have h9 := hO q_4 2; rw [bx_part (by omega) (by omega) 2] at h9; exact h9
      refine h_geti (ci := 4) (C := RX4) (F := TX4) (N := 9) hx hb hts in4 hown hK hH (lt_nK (by omega)) (kd_part (by omega) (by omega)) (by decide) rfl 2 (by decide) wd5 (fun _ h9 => h9) (by decide) rfl dX1_stepOf_99 ?_
      refine lv_iload_n hx hb dX1_stepOf_102 rfl (lv_at hl 4 rfl) ?_
      refine lv_iadd hx hb dX1_stepOf_103 ?_
      obtain ⟨z_21, ez_21, hz_21⟩ := s_add (rfl : (i q_4 2).toInt = _) (rfl : y.toInt = _) (by omega) (by omega)
      refine sj_i ez_21 ?_
      refine lv_iload hx hb dX1_stepOf_104 (lv_at hl 0 rfl) ?_
      refine lv_isub hx hb dX1_stepOf_106 ?_
      obtain ⟨z_22, ez_22, hz_22⟩ := s_sub (rfl : z_21.toInt = _) (rfl : r_9.toInt = _) (by omega) (by omega)
      refine sj_i ez_22 ?_
      obtain ⟨j_23, ej_23, hj_23⟩ : ∃ j : Nat, (z_22).toNatClampNeg = j ∧ (j : Int) = z_22.toInt := ⟨_, rfl, by rw [s_cl (rfl : z_22.toInt = _)]; omega⟩
      have lj_23 : j_23 < 30 := by omega
      refine h_qald hx hb hK hH (by decide) (rfl : kd 10 = 22) (by decide) rfl (s_vin (N := 30) (rfl : z_22.toInt = _) (rfl : ln 10 = 30) (by omega) (by omega)) (t := (54 + 1 * j_23)) (by rw [ej_23]; exact (hR 10 j_23 rfl)) (lt_nK (by omega)) dX1_stepOf_107 ?_
      have pb_24 := bxp hO (p := (54 + 1 * j_23)) (by omega) (by omega)
      have po_25 := hPO (54 + 1 * j_23) (by omega) (by omega)
      have hst := stp_or i q_4 y.toInt
      exact sj_qret hx hb hr hlocks hS () ⟨(54 + 1 * j_23), by rw [eq_4]; omega, by omega, by omega, rfl⟩ hH (sj_Knil hK) (Nat.le_of_ble_eq_true rfl) (Nat.le_of_ble_eq_true rfl) dX1_stepOf_108
    · skip
      have h_26 := s_nle (rfl : r_9.toInt = _) (rfl : y.toInt = _) c_16
      refine lv_aload_n hx hb dX1_stepOf_57 rfl (lv_at hl 2 rfl) ?_
      refine h_getr (ci := 1) (C := RX1) (F := TX1) (N := 5) hx hb hts in1 hown hK hH (by decide) (rfl : kd 13 = 1) (by decide) rfl 0 (by decide) wd0 (fun _ h9 => h9) (by decide) rfl (t := 3) (hR 13 0 rfl) (by decide) dX1_stepOf_58 ?_
      refine h_getr (ci := 5) (C := RX5) (F := TX5) (N := 19) hx hb hts in5 hown hK hH (by decide) (rfl : kd 3 = 5) (by decide) rfl 9 (by decide) wd4 (fun _ h9 => h9) (by decide) rfl (t := 10) (hR 3 9 rfl) (by decide) dX1_stepOf_61 ?_
      refine lv_aload_n hx hb dX1_stepOf_64 rfl (lv_at hl 2 rfl) ?_
      refine h_getr (ci := 1) (C := RX1) (F := TX1) (N := 5) hx hb hts in1 hown hK hH (by decide) (rfl : kd 13 = 1) (by decide) rfl 0 (by decide) wd0 (fun _ h9 => h9) (by decide) rfl (t := 3) (hR 13 0 rfl) (by decide) dX1_stepOf_65 ?_
      refine h_getr (ci := 5) (C := RX5) (F := TX5) (N := 19) hx hb hts in5 hown hK hH (by decide) (rfl : kd 3 = 5) (by decide) rfl 5 (by decide) wd1 (fun _ h9 => h9) (by decide) rfl (t := 8) (hR 3 5 rfl) (by decide) dX1_stepOf_68 ?_
      refine lv_aload_n hx hb dX1_stepOf_71 rfl (lv_at hl 3 rfl) ?_
      refine h_getr (ci := 0) (C := RX0) (F := TX0) (N := 5) hx hb hts in0 hown hK hH (lt_nK (by omega)) (kd_case (by omega) (by omega)) (by decide) rfl 0 (by decide) wd3 (fun _ h9 => h9) (by decide) rfl (t := q_4) eq_4 (lt_nK (by omega)) dX1_stepOf_72 ?_
      have pb_27 := bxp hO (p := q_4) (by omega) (by omega)
      have po_28 := hPO q_4 (by omega) (by omega)
      have bx_29 : (0 : Int) ≤ (i q_4 6).toInt ∧ (i q_4 6).toInt ≤ 4 := by have h9 := hO q_4 6; rw [bx_part (by omega) (by omega) 6] at h9; exact h9
      refine h_geti (ci := 4) (C := RX4) (F := TX4) (N := 9) hx hb hts in4 hown hK hH (lt_nK (by omega)) (kd_part (by omega) (by omega)) (by decide) rfl 6 (by decide) wd6 (fun _ h9 => h9) (by decide) rfl dX1_stepOf_75 ?_
      obtain ⟨j_30, ej_30, hj_30⟩ : ∃ j : Nat, ((i q_4 6)).toNatClampNeg = j ∧ (j : Int) = (i q_4 6).toInt := ⟨_, rfl, by rw [s_cl (rfl : (i q_4 6).toInt = _)]; omega⟩
      have lj_30 : j_30 < 5 := by omega
      rw [show (i q_4 6).toInt.toNat = j_30 by omega] at hbg
      refine h_qald hx hb hK hH (by decide) (rfl : kd 8 = 22) (by decide) rfl (s_vin (N := 5) (rfl : (i q_4 6).toInt = _) (rfl : ln 8 = 5) (by omega) (by omega)) (t := (37 + 1 * j_30)) (by rw [ej_30]; exact (hR 8 j_30 rfl)) (lt_nK (by omega)) dX1_stepOf_78 ?_
      have pb_31 := bxp hO (p := (37 + 1 * j_30)) (by omega) (by omega)
      have po_32 := hPO (37 + 1 * j_30) (by omega) (by omega)
      have bx_33 : (0 : Int) ≤ (i (37 + 1 * j_30) 2).toInt ∧ (i (37 + 1 * j_30) 2).toInt ≤ 40 := by have h9 := hO (37 + 1 * j_30) 2; rw [bx_part (by omega) (by omega) 2] at h9; exact h9
      refine h_geti (ci := 4) (C := RX4) (F := TX4) (N := 9) hx hb hts in4 hown hK hH (lt_nK (by omega)) (kd_part (by omega) (by omega)) (by decide) rfl 2 (by decide) wd5 (fun _ h9 => h9) (by decide) rfl dX1_stepOf_79 ?_
      refine lv_iload_n hx hb dX1_stepOf_82 rfl (lv_at hl 4 rfl) ?_
      refine lv_iadd hx hb dX1_stepOf_83 ?_
      obtain ⟨z_34, ez_34, hz_34⟩ := s_add (rfl : (i (37 + 1 * j_30) 2).toInt = _) (rfl : y.toInt = _) (by omega) (by omega)
      refine sj_i ez_34 ?_
      refine lv_iload_n hx hb dX1_stepOf_84 rfl (lv_at hl 1 rfl) ?_
      refine lv_isub hx hb dX1_stepOf_85 ?_
      obtain ⟨z_35, ez_35, hz_35⟩ := s_sub (rfl : z_34.toInt = _) (rfl : (i 37 3).toInt = _) (by omega) (by omega)
      refine sj_i ez_35 ?_
      obtain ⟨j_36, ej_36, hj_36⟩ : ∃ j : Nat, (z_35).toNatClampNeg = j ∧ (j : Int) = z_35.toInt := ⟨_, rfl, by rw [s_cl (rfl : z_35.toInt = _)]; omega⟩
      have lj_36 : j_36 < 30 := by omega
      refine h_qald hx hb hK hH (by decide) (rfl : kd 10 = 22) (by decide) rfl (s_vin (N := 30) (rfl : z_35.toInt = _) (rfl : ln 10 = 30) (by omega) (by omega)) (t := (54 + 1 * j_36)) (by rw [ej_36]; exact (hR 10 j_36 rfl)) (lt_nK (by omega)) dX1_stepOf_86 ?_
      have pb_37 := bxp hO (p := (54 + 1 * j_36)) (by omega) (by omega)
      have po_38 := hPO (54 + 1 * j_36) (by omega) (by omega)
      have hst := stp_or i q_4 y.toInt
      rw [show (i q_4 6).toInt.toNat = j_30 by omega] at hst
      exact sj_qret hx hb hr hlocks hS () ⟨(54 + 1 * j_36), by rw [eq_4]; omega, by omega, by omega, rfl⟩ hH (sj_Knil hK) (Nat.le_of_ble_eq_true rfl) (Nat.le_of_ble_eq_true rfl) dX1_stepOf_87
  · skip
    have h_39 := s_nle (rfl : (i 37 3).toInt = _) (rfl : y.toInt = _) c_14
    refine lv_aload_n hx hb dX1_stepOf_28 rfl (lv_at hl 2 rfl) ?_
    refine h_getr (ci := 1) (C := RX1) (F := TX1) (N := 5) hx hb hts in1 hown hK hH (by decide) (rfl : kd 13 = 1) (by decide) rfl 0 (by decide) wd0 (fun _ h9 => h9) (by decide) rfl (t := 3) (hR 13 0 rfl) (by decide) dX1_stepOf_29 ?_
    refine h_getr (ci := 5) (C := RX5) (F := TX5) (N := 19) hx hb hts in5 hown hK hH (by decide) (rfl : kd 3 = 5) (by decide) rfl 9 (by decide) wd4 (fun _ h9 => h9) (by decide) rfl (t := 10) (hR 3 9 rfl) (by decide) dX1_stepOf_32 ?_
    refine lv_aload_n hx hb dX1_stepOf_35 rfl (lv_at hl 2 rfl) ?_
    refine h_getr (ci := 1) (C := RX1) (F := TX1) (N := 5) hx hb hts in1 hown hK hH (by decide) (rfl : kd 13 = 1) (by decide) rfl 0 (by decide) wd0 (fun _ h9 => h9) (by decide) rfl (t := 3) (hR 13 0 rfl) (by decide) dX1_stepOf_36 ?_
    refine h_getr (ci := 5) (C := RX5) (F := TX5) (N := 19) hx hb hts in5 hown hK hH (by decide) (rfl : kd 3 = 5) (by decide) rfl 5 (by decide) wd1 (fun _ h9 => h9) (by decide) rfl (t := 8) (hR 3 5 rfl) (by decide) dX1_stepOf_39 ?_
    refine lv_iconst (v := 0) hx hb dX1_stepOf_42 (by decide) ?_
    refine h_qald hx hb hK hH (by decide) (rfl : kd 8 = 22) (by decide) rfl (s_vin (N := 5) (show (0 : Int32).toInt = 0 from rfl) (rfl : ln 8 = 5) (by omega) (by omega)) (t := 37) (hR 8 0 rfl) (by decide) dX1_stepOf_43 ?_
    have pb_40 := bxp hO (p := 37) (by omega) (by omega)
    have po_41 := hPO 37 (by omega) (by omega)
    have bx_42 : (0 : Int) ≤ (i 37 2).toInt ∧ (i 37 2).toInt ≤ 40 := hO 37 2
    refine h_geti (ci := 4) (C := RX4) (F := TX4) (N := 9) hx hb hts in4 hown hK hH (by decide) (rfl : kd 37 = 4) (by decide) rfl 2 (by decide) wd5 (fun _ h9 => h9) (by decide) rfl dX1_stepOf_44 ?_
    refine lv_iload_n hx hb dX1_stepOf_47 rfl (lv_at hl 4 rfl) ?_
    refine lv_iadd hx hb dX1_stepOf_48 ?_
    obtain ⟨z_43, ez_43, hz_43⟩ := s_add (rfl : (i 37 2).toInt = _) (rfl : y.toInt = _) (by omega) (by omega)
    refine sj_i ez_43 ?_
    obtain ⟨j_44, ej_44, hj_44⟩ : ∃ j : Nat, (z_43).toNatClampNeg = j ∧ (j : Int) = z_43.toInt := ⟨_, rfl, by rw [s_cl (rfl : z_43.toInt = _)]; omega⟩
    have lj_44 : j_44 < 30 := by omega
    refine h_qald hx hb hK hH (by decide) (rfl : kd 10 = 22) (by decide) rfl (s_vin (N := 30) (rfl : z_43.toInt = _) (rfl : ln 10 = 30) (by omega) (by omega)) (t := (54 + 1 * j_44)) (by rw [ej_44]; exact (hR 10 j_44 rfl)) (lt_nK (by omega)) dX1_stepOf_49 ?_
    have pb_45 := bxp hO (p := (54 + 1 * j_44)) (by omega) (by omega)
    have po_46 := hPO (54 + 1 * j_44) (by omega) (by omega)
    have hst := stp_or i q_4 y.toInt
    exact sj_qret hx hb hr hlocks hS () ⟨(54 + 1 * j_44), by rw [eq_4]; omega, by omega, by omega, rfl⟩ hH (sj_Knil hK) (Nat.le_of_ble_eq_true rfl) (Nat.le_of_ble_eq_true rfl) dX1_stepOf_50
