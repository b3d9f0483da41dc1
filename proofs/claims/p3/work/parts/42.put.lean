/-- byte k of eight, as the class reads it -/
def btC (b : Int64) (k : Nat) : Int32 := ((b.toUInt64 >>> ((nI (8 * k)).toInt64.toUInt64 &&& Int64.toUInt64 63)).toInt64).toInt32 &&& 255
theorem bt_eq {b z2 : Int64} {z1 z3 z4 : Int32} {k : Nat} (hk : k < 8) (e1 : z1.toInt = 8 * (k : Int)) (e2 : z2 = (b.toUInt64 >>> (z1.toInt64.toUInt64 &&& Int64.toUInt64 63)).toInt64) (e3 : z3 = z2.toInt32) (e4 : z4 = z3 &&& 255) : z4 = btC b k := by
  have e0 : z1 = nI (8 * k) := p_eq rfl (s_nIt (by omega)) (by rw [e1]; omega)
  unfold btC
  rw [e4, e3, e2, e0]
def okB (c : Int) : Prop := c = 10 ∨ (32 ≤ c ∧ c ≤ 126)
theorem s_i2cE {x z : Int32} (ez : z = (x.toUInt32 % 65536).toInt32) (h0 : 0 ≤ x.toInt) (h1 : x.toInt ≤ 65535) : z = x := by
  have h := s_narc (x := x) rfl h0 h1
  rw [vp_nar_char, UInt32.toUInt32_toUInt16] at h
  rw [ez]; exact h
/-- eight bytes of which n may be laid behind len characters -/
def putOK (f : Nat → Int32) (n len : Int) : Prop := 1 ≤ n ∧ n ≤ 8 ∧ len + n ≤ 480 ∧ ∀ k : Nat, (k : Int) < n → okB (f k).toInt
theorem dX11_put_0 : decode cX11_put 0 = .ok (.iload_n 3, 1) := by decide +kernel
theorem dX11_put_1 : decode cX11_put 1 = .ok (.iconst 1, 1) := by decide +kernel
theorem dX11_put_2 : decode cX11_put 2 = .ok (.if_icmp .lt 24, 3) := by decide +kernel
theorem dX11_put_26 : decode cX11_put 26 = .ok (.iconst 0, 1) := by decide +kernel
theorem dX11_put_27 : decode cX11_put 27 = .ok (.ireturn, 1) := by decide +kernel
theorem dX11_put_5 : decode cX11_put 5 = .ok (.iload_n 3, 1) := by decide +kernel
theorem dX11_put_6 : decode cX11_put 6 = .ok (.bipush 8, 2) := by decide +kernel
theorem dX11_put_8 : decode cX11_put 8 = .ok (.if_icmp .gt 18, 3) := by decide +kernel
theorem dX11_put_11 : decode cX11_put 11 = .ok (.aload_n 0, 1) := by decide +kernel
theorem dX11_put_12 : decode cX11_put 12 = .ok (.getfield 14, 3) := by decide +kernel
theorem dX11_put_15 : decode cX11_put 15 = .ok (.getfield 80, 3) := by decide +kernel
theorem dX11_put_18 : decode cX11_put 18 = .ok (.iload_n 3, 1) := by decide +kernel
theorem dX11_put_19 : decode cX11_put 19 = .ok (.iadd, 1) := by decide +kernel
theorem dX11_put_20 : decode cX11_put 20 = .ok (.sipush 480, 3) := by decide +kernel
theorem dX11_put_23 : decode cX11_put 23 = .ok (.if_icmp .le 5, 3) := by decide +kernel
theorem dX11_put_28 : decode cX11_put 28 = .ok (.iconst 0, 1) := by decide +kernel
theorem dX11_put_29 : decode cX11_put 29 = .ok (.istore 4, 2) := by decide +kernel
theorem dX11_put_31 : decode cX11_put 31 = .ok (.iload 4, 2) := by decide +kernel
theorem dX11_put_33 : decode cX11_put 33 = .ok (.iload_n 3, 1) := by decide +kernel
theorem dX11_put_34 : decode cX11_put 34 = .ok (.if_icmp .ge 46, 3) := by decide +kernel
theorem dX11_put_80 : decode cX11_put 80 = .ok (.iload_n 3, 1) := by decide +kernel
theorem dX11_put_81 : decode cX11_put 81 = .ok (.iconst 1, 1) := by decide +kernel
theorem dX11_put_82 : decode cX11_put 82 = .ok (.isub, 1) := by decide +kernel
theorem dX11_put_83 : decode cX11_put 83 = .ok (.istore 4, 2) := by decide +kernel
theorem dX11_put_85 : decode cX11_put 85 = .ok (.iload 4, 2) := by decide +kernel
theorem dX11_put_87 : decode cX11_put 87 = .ok (.ifCond .lt 29, 3) := by decide +kernel
theorem dX11_put_116 : decode cX11_put 116 = .ok (.iconst 1, 1) := by decide +kernel
theorem dX11_put_117 : decode cX11_put 117 = .ok (.ireturn, 1) := by decide +kernel
theorem dX11_put_90 : decode cX11_put 90 = .ok (.aload_n 0, 1) := by decide +kernel
theorem dX11_put_91 : decode cX11_put 91 = .ok (.getfield 14, 3) := by decide +kernel
theorem dX11_put_94 : decode cX11_put 94 = .ok (.lload_n 1, 1) := by decide +kernel
theorem dX11_put_95 : decode cX11_put 95 = .ok (.bipush 8, 2) := by decide +kernel
theorem dX11_put_97 : decode cX11_put 97 = .ok (.iload 4, 2) := by decide +kernel
theorem dX11_put_99 : decode cX11_put 99 = .ok (.imul, 1) := by decide +kernel
theorem dX11_put_100 : decode cX11_put 100 = .ok (.lushr, 1) := by decide +kernel
theorem dX11_put_101 : decode cX11_put 101 = .ok (.l2i, 1) := by decide +kernel
theorem dX11_put_102 : decode cX11_put 102 = .ok (.sipush 255, 3) := by decide +kernel
theorem dX11_put_105 : decode cX11_put 105 = .ok (.iand, 1) := by decide +kernel
theorem dX11_put_106 : decode cX11_put 106 = .ok (.i2c, 1) := by decide +kernel
theorem dX11_put_107 : decode cX11_put 107 = .ok (.invokevirtual 84, 3) := by decide +kernel
theorem dX11_put_110 : decode cX11_put 110 = .ok (.iinc 4 (-1), 3) := by decide +kernel
theorem dX11_put_113 : decode cX11_put 113 = .ok (.goto (-28), 3) := by decide +kernel
theorem dX11_put_37 : decode cX11_put 37 = .ok (.lload_n 1, 1) := by decide +kernel
theorem dX11_put_38 : decode cX11_put 38 = .ok (.bipush 8, 2) := by decide +kernel
theorem dX11_put_40 : decode cX11_put 40 = .ok (.iload 4, 2) := by decide +kernel
theorem dX11_put_42 : decode cX11_put 42 = .ok (.imul, 1) := by decide +kernel
theorem dX11_put_43 : decode cX11_put 43 = .ok (.lushr, 1) := by decide +kernel
theorem dX11_put_44 : decode cX11_put 44 = .ok (.l2i, 1) := by decide +kernel
theorem dX11_put_45 : decode cX11_put 45 = .ok (.sipush 255, 3) := by decide +kernel
theorem dX11_put_48 : decode cX11_put 48 = .ok (.iand, 1) := by decide +kernel
theorem dX11_put_49 : decode cX11_put 49 = .ok (.istore 5, 2) := by decide +kernel
theorem dX11_put_51 : decode cX11_put 51 = .ok (.iload 5, 2) := by decide +kernel
theorem dX11_put_53 : decode cX11_put 53 = .ok (.bipush 10, 2) := by decide +kernel
theorem dX11_put_55 : decode cX11_put 55 = .ok (.if_icmp .eq 19, 3) := by decide +kernel
theorem dX11_put_74 : decode cX11_put 74 = .ok (.iinc 4 1, 3) := by decide +kernel
theorem dX11_put_77 : decode cX11_put 77 = .ok (.goto (-46), 3) := by decide +kernel
theorem dX11_put_58 : decode cX11_put 58 = .ok (.iload 5, 2) := by decide +kernel
theorem dX11_put_60 : decode cX11_put 60 = .ok (.bipush 32, 2) := by decide +kernel
theorem dX11_put_62 : decode cX11_put 62 = .ok (.if_icmp .lt 10, 3) := by decide +kernel
theorem dX11_put_72 : decode cX11_put 72 = .ok (.iconst 0, 1) := by decide +kernel
theorem dX11_put_73 : decode cX11_put 73 = .ok (.ireturn, 1) := by decide +kernel
theorem dX11_put_65 : decode cX11_put 65 = .ok (.iload 5, 2) := by decide +kernel
theorem dX11_put_67 : decode cX11_put 67 = .ok (.bipush 126, 2) := by decide +kernel
theorem dX11_put_69 : decode cX11_put 69 = .ok (.if_icmp .le 5, 3) := by decide +kernel
theorem dX11_command_0 : decode cX11_command 0 = .ok (.aload_n 0, 1) := by decide +kernel
theorem dX11_command_1 : decode cX11_command 1 = .ok (.getfield 44, 3) := by decide +kernel
theorem dX11_command_4 : decode cX11_command 4 = .ok (.getfield 88, 3) := by decide +kernel
theorem dX11_command_7 : decode cX11_command 7 = .ok (.ifCond .ne 20, 3) := by decide +kernel
theorem dX11_command_27 : decode cX11_command 27 = .ok (.iconst 0, 1) := by decide +kernel
theorem dX11_command_28 : decode cX11_command 28 = .ok (.ireturn, 1) := by decide +kernel
theorem dX11_command_10 : decode cX11_command 10 = .ok (.aload_n 0, 1) := by decide +kernel
theorem dX11_command_11 : decode cX11_command 11 = .ok (.getfield 37, 3) := by decide +kernel
theorem dX11_command_14 : decode cX11_command 14 = .ok (.iload_n 1, 1) := by decide +kernel
theorem dX11_command_15 : decode cX11_command 15 = .ok (.iload_n 2, 1) := by decide +kernel
theorem dX11_command_16 : decode cX11_command 16 = .ok (.iload_n 3, 1) := by decide +kernel
theorem dX11_command_17 : decode cX11_command 17 = .ok (.invokevirtual 149, 3) := by decide +kernel
theorem dX11_command_20 : decode cX11_command 20 = .ok (.ifCond .eq 7, 3) := by decide +kernel
theorem dX11_command_23 : decode cX11_command 23 = .ok (.iconst 1, 1) := by decide +kernel
theorem dX11_command_24 : decode cX11_command 24 = .ok (.goto 4, 3) := by decide +kernel
theorem dX11_event_0 : decode cX11_event 0 = .ok (.aload_n 0, 1) := by decide +kernel
theorem dX11_event_1 : decode cX11_event 1 = .ok (.getfield 44, 3) := by decide +kernel
theorem dX11_event_4 : decode cX11_event 4 = .ok (.iload_n 1, 1) := by decide +kernel
theorem dX11_event_5 : decode cX11_event 5 = .ok (.iload_n 2, 1) := by decide +kernel
theorem dX11_event_6 : decode cX11_event 6 = .ok (.invokevirtual 253, 3) := by decide +kernel
theorem dX11_event_9 : decode cX11_event 9 = .ok (.ireturn, 1) := by decide +kernel
theorem dX11_world_0 : decode cX11_world 0 = .ok (.iload_n 1, 1) := by decide +kernel
theorem dX11_world_1 : decode cX11_world 1 = .ok (.ifCond .lt 23, 3) := by decide +kernel
theorem dX11_world_24 : decode cX11_world 24 = .ok (.dconst 0, 1) := by decide +kernel
theorem dX11_world_25 : decode cX11_world 25 = .ok (.dreturn, 1) := by decide +kernel
theorem dX11_world_4 : decode cX11_world 4 = .ok (.iload_n 1, 1) := by decide +kernel
theorem dX11_world_5 : decode cX11_world 5 = .ok (.iconst 3, 1) := by decide +kernel
theorem dX11_world_6 : decode cX11_world 6 = .ok (.if_icmp .ge 18, 3) := by decide +kernel
theorem dX11_world_9 : decode cX11_world 9 = .ok (.aload_n 0, 1) := by decide +kernel
theorem dX11_world_10 : decode cX11_world 10 = .ok (.getfield 44, 3) := by decide +kernel
theorem dX11_world_13 : decode cX11_world 13 = .ok (.getfield 242, 3) := by decide +kernel
theorem dX11_world_16 : decode cX11_world 16 = .ok (.iload_n 1, 1) := by decide +kernel
theorem dX11_world_17 : decode cX11_world 17 = .ok (.aaload, 1) := by decide +kernel
theorem dX11_world_18 : decode cX11_world 18 = .ok (.getfield 257, 3) := by decide +kernel
theorem dX11_world_21 : decode cX11_world 21 = .ok (.ifCond .ge 5, 3) := by decide +kernel
theorem dX11_world_26 : decode cX11_world 26 = .ok (.aload_n 0, 1) := by decide +kernel
theorem dX11_world_27 : decode cX11_world 27 = .ok (.getfield 44, 3) := by decide +kernel
theorem dX11_world_30 : decode cX11_world 30 = .ok (.getfield 242, 3) := by decide +kernel
theorem dX11_world_33 : decode cX11_world 33 = .ok (.iload_n 1, 1) := by decide +kernel
theorem dX11_world_34 : decode cX11_world 34 = .ok (.aaload, 1) := by decide +kernel
theorem dX11_world_35 : decode cX11_world 35 = .ok (.getfield 262, 3) := by decide +kernel
theorem dX11_world_38 : decode cX11_world 38 = .ok (.dreturn, 1) := by decide +kernel
theorem dX11_look_0 : decode cX11_look 0 = .ok (.iload_n 1, 1) := by decide +kernel
theorem dX11_look_1 : decode cX11_look 1 = .ok (.tableswitch 113 0 7 #[47, 63, 71, 79, 84, 89, 97, 105], 47) := by decide +kernel
theorem dX11_look_114 : decode cX11_look 114 = .ok (.iconst (-1), 1) := by decide +kernel
theorem dX11_look_115 : decode cX11_look 115 = .ok (.ireturn, 1) := by decide +kernel
theorem dX11_look_48 : decode cX11_look 48 = .ok (.aload_n 0, 1) := by decide +kernel
theorem dX11_look_49 : decode cX11_look 49 = .ok (.getfield 44, 3) := by decide +kernel
theorem dX11_look_52 : decode cX11_look 52 = .ok (.getfield 88, 3) := by decide +kernel
theorem dX11_look_55 : decode cX11_look 55 = .ok (.ifCond .eq 7, 3) := by decide +kernel
theorem dX11_look_62 : decode cX11_look 62 = .ok (.iconst 0, 1) := by decide +kernel
theorem dX11_look_63 : decode cX11_look 63 = .ok (.ireturn, 1) := by decide +kernel
theorem dX11_look_58 : decode cX11_look 58 = .ok (.iconst 1, 1) := by decide +kernel
theorem dX11_look_59 : decode cX11_look 59 = .ok (.goto 4, 3) := by decide +kernel
theorem dX11_look_64 : decode cX11_look 64 = .ok (.aload_n 0, 1) := by decide +kernel
theorem dX11_look_65 : decode cX11_look 65 = .ok (.getfield 14, 3) := by decide +kernel
theorem dX11_look_68 : decode cX11_look 68 = .ok (.getfield 80, 3) := by decide +kernel
theorem dX11_look_71 : decode cX11_look 71 = .ok (.ireturn, 1) := by decide +kernel
theorem dX11_look_72 : decode cX11_look 72 = .ok (.aload_n 0, 1) := by decide +kernel
theorem dX11_look_73 : decode cX11_look 73 = .ok (.getfield 30, 3) := by decide +kernel
theorem dX11_look_76 : decode cX11_look 76 = .ok (.getfield 134, 3) := by decide +kernel
theorem dX11_look_79 : decode cX11_look 79 = .ok (.ireturn, 1) := by decide +kernel
theorem dX11_look_80 : decode cX11_look 80 = .ok (.aload_n 0, 1) := by decide +kernel
theorem dX11_look_81 : decode cX11_look 81 = .ok (.getfield 114, 3) := by decide +kernel
theorem dX11_look_84 : decode cX11_look 84 = .ok (.ireturn, 1) := by decide +kernel
theorem dX11_look_85 : decode cX11_look 85 = .ok (.aload_n 0, 1) := by decide +kernel
theorem dX11_look_86 : decode cX11_look 86 = .ok (.getfield 130, 3) := by decide +kernel
theorem dX11_look_89 : decode cX11_look 89 = .ok (.ireturn, 1) := by decide +kernel
theorem dX11_look_90 : decode cX11_look 90 = .ok (.aload_n 0, 1) := by decide +kernel
theorem dX11_look_91 : decode cX11_look 91 = .ok (.getfield 21, 3) := by decide +kernel
theorem dX11_look_94 : decode cX11_look 94 = .ok (.getfield 266, 3) := by decide +kernel
theorem dX11_look_97 : decode cX11_look 97 = .ok (.ireturn, 1) := by decide +kernel
theorem dX11_look_98 : decode cX11_look 98 = .ok (.aload_n 0, 1) := by decide +kernel
theorem dX11_look_99 : decode cX11_look 99 = .ok (.getfield 44, 3) := by decide +kernel
theorem dX11_look_102 : decode cX11_look 102 = .ok (.getfield 269, 3) := by decide +kernel
theorem dX11_look_105 : decode cX11_look 105 = .ok (.ireturn, 1) := by decide +kernel
theorem dX11_look_106 : decode cX11_look 106 = .ok (.aload_n 0, 1) := by decide +kernel
theorem dX11_look_107 : decode cX11_look 107 = .ok (.getfield 21, 3) := by decide +kernel
theorem dX11_look_110 : decode cX11_look 110 = .ok (.getfield 102, 3) := by decide +kernel
theorem dX11_look_113 : decode cX11_look 113 = .ok (.ireturn, 1) := by decide +kernel
theorem gX11_put_X3_add : GoodIn wsX11_put (wsV RX11 84 RX3 yX3_add wsX3_add) := goodIn_app (goodIn_sub (List.forall_mem_cons.mpr ⟨(List.mem_cons_of_mem _ (List.mem_append_left _ (List.mem_append_left _ lm2))), List.forall_mem_cons.mpr ⟨(List.mem_cons_of_mem _ (List.mem_append_left _ (List.mem_append_left _ lm3))), List.forall_mem_cons.mpr ⟨(List.mem_cons_of_mem _ (List.mem_append_left _ (List.mem_append_left _ lm4))), List.forall_mem_cons.mpr ⟨(List.mem_cons_of_mem _ (List.mem_append_left _ (List.mem_append_left _ lm5))), (fun _ h => absurd h List.not_mem_nil)⟩⟩⟩⟩) (by decide +kernel)) (goodIn_sub (by unfold wsX3_add; exact List.forall_mem_cons.mpr ⟨(List.mem_cons_of_mem _ (List.mem_append_left _ (List.mem_append_left _ lm6))), List.forall_mem_append.mpr ⟨List.forall_mem_cons.mpr ⟨(List.mem_cons_of_mem _ (List.mem_append_left _ (List.mem_append_left _ lm7))), List.forall_mem_cons.mpr ⟨(List.mem_cons_of_mem _ (List.mem_append_left _ (List.mem_append_left _ lm8))), (fun _ h => absurd h List.not_mem_nil)⟩⟩, (fun _ h => (List.mem_cons_of_mem _ (List.mem_append_right _ h)))⟩⟩) gw_X3_add)
theorem gw_X8_append : wsX8_append.all goodWord = true := by decide +kernel
theorem gX11_command_X8_append : GoodIn wsX11_command (wsV RX11 149 RX8 yX8_append wsX8_append) := goodIn_app (goodIn_sub (List.forall_mem_cons.mpr ⟨(List.mem_cons_of_mem _ (List.mem_append_left _ (List.mem_append_left _ (List.mem_append_left _ lm3)))), List.forall_mem_cons.mpr ⟨(List.mem_cons_of_mem _ (List.mem_append_left _ (List.mem_append_left _ (List.mem_append_left _ lm4)))), List.forall_mem_cons.mpr ⟨(List.mem_cons_of_mem _ (List.mem_append_left _ (List.mem_append_left _ (List.mem_append_left _ lm5)))), List.forall_mem_cons.mpr ⟨(List.mem_cons_of_mem _ (List.mem_append_left _ (List.mem_append_left _ (List.mem_append_left _ lm6)))), (fun _ h => absurd h List.not_mem_nil)⟩⟩⟩⟩) (by decide +kernel)) (goodIn_sub (by unfold wsX8_append; exact List.forall_mem_cons.mpr ⟨(List.mem_cons_of_mem _ (List.mem_append_left _ (List.mem_append_left _ (List.mem_append_left _ lm7)))), List.forall_mem_append.mpr ⟨List.forall_mem_cons.mpr ⟨(List.mem_cons_of_mem _ (List.mem_append_left _ (List.mem_append_left _ (List.mem_append_left _ lm8)))), List.forall_mem_cons.mpr ⟨(List.mem_cons_of_mem _ (List.mem_append_left _ (List.mem_append_left _ (List.mem_append_left _ lm9)))), List.forall_mem_cons.mpr ⟨(List.mem_cons_of_mem _ (List.mem_append_left _ (List.mem_append_left _ (List.mem_append_left _ lm10)))), List.forall_mem_cons.mpr ⟨(List.mem_cons_of_mem _ (List.mem_append_left _ (List.mem_append_left _ (List.mem_append_left _ lm11)))), List.forall_mem_cons.mpr ⟨(List.mem_cons_of_mem _ (List.mem_append_left _ (List.mem_append_left _ (List.mem_append_left _ lm12)))), List.forall_mem_cons.mpr ⟨(List.mem_cons_of_mem _ (List.mem_append_left _ (List.mem_append_left _ (List.mem_append_left _ lm13)))), List.forall_mem_cons.mpr ⟨(List.mem_cons_of_mem _ (List.mem_append_left _ (List.mem_append_left _ (List.mem_append_left _ lm6)))), List.forall_mem_cons.mpr ⟨(List.mem_cons_of_mem _ (List.mem_append_left _ (List.mem_append_left _ (List.mem_append_left _ lm14)))), (fun _ h => absurd h List.not_mem_nil)⟩⟩⟩⟩⟩⟩⟩⟩, (fun _ h => (List.mem_cons_of_mem _ (List.mem_append_right _ h)))⟩⟩) gw_X8_append)
theorem gw_X7_told : wsX7_told.all goodWord = true := by decide +kernel
theorem gX11_event_X7_told : GoodIn wsX11_event (wsV RX11 253 RX7 yX7_told wsX7_told) := goodIn_app (goodIn_sub (List.forall_mem_cons.mpr ⟨(List.mem_cons_of_mem _ (List.mem_append_left _ (List.mem_append_left _ lm1))), List.forall_mem_cons.mpr ⟨(List.mem_cons_of_mem _ (List.mem_append_left _ (List.mem_append_left _ lm2))), List.forall_mem_cons.mpr ⟨(List.mem_cons_of_mem _ (List.mem_append_left _ (List.mem_append_left _ lm3))), List.forall_mem_cons.mpr ⟨(List.mem_cons_of_mem _ (List.mem_append_left _ (List.mem_append_left _ lm4))), (fun _ h => absurd h List.not_mem_nil)⟩⟩⟩⟩) (by decide +kernel)) (goodIn_sub (by unfold wsX7_told; exact List.forall_mem_cons.mpr ⟨(List.mem_cons_of_mem _ (List.mem_append_left _ (List.mem_append_left _ lm5))), List.forall_mem_append.mpr ⟨List.forall_mem_cons.mpr ⟨(List.mem_cons_of_mem _ (List.mem_append_left _ (List.mem_append_left _ lm6))), List.forall_mem_cons.mpr ⟨(List.mem_cons_of_mem _ (List.mem_append_left _ (List.mem_append_left _ lm7))), (fun _ h => absurd h List.not_mem_nil)⟩⟩, (fun _ h => (List.mem_cons_of_mem _ (List.mem_append_right _ h)))⟩⟩) gw_X7_told)
set_option maxHeartbeats 2000000 in
set_option maxRecDepth 100000 in
theorem k_addT (l : Launch) (D : va_G) (g : Nat → Nat) (ka : Nat → ClassId) (ad : Nat → Nat) (i : Nat → Nat → Int32) (r : Nat → Nat → Nat) (L : Nat → Nat → Int64) (d : Nat → Nat → UInt64) (x : Int32) (hO : OkI i) (hR : RS r) (sz : Nat) (hl : (i 1 1).toInt < 480) (hx0 : 0 ≤ x.toInt) (hx1 : x.toInt ≤ 65535) : Met l yX3_add wsX3_add ({ frames := 0, cells := 0, slots := 0, locals := 0 }) (va_Pc [.ref (g 1), .int x] (sj_B D (hwc g ka i r L d) (hT ka) sz (gx ad (va_A (hwc g ka i r L d) sz)))) (sj_Qv (S := (Nat → Nat → Int32)) D (fun u => OkI u ∧ (∀ a, ¬ (a = 1 ∨ a = 2) → u a = i a) ∧ ((u 1 1).toInt = (i 1 1).toInt + 1) ∧ (∀ k : Nat, k ≠ (i 1 1).toInt.toNat → u 2 k = i 2 k) ∧ ((u 2 (i 1 1).toInt.toNat).toInt = x.toInt)) (fun u => hwc g ka u r L d) (fun _ => []) (va_A (hwc g ka i r L d) sz)) 0 0 (va_A (hwc g ka i r L d) sz) := by
  refine x_met (Ex := gx ad) (cc := cX3_add) (maxL := 2) (ret := none) (by decide) rfl (Nat.le_of_ble_eq_true rfl) ?_
  intro p e s m below meth c A ls hx hb hr hml hts hown hlocks hA hS hH hK hE hl
  have hown : s.vm.findClass RX3 = some m.cls := hown
  have in3 : ∀ w ∈ wsX30, w ∈ wsX3_add := (fun _ h => (List.mem_cons_of_mem _ (List.mem_append_right _ h)))
  have wd0 := hts (.fieldLink RX3 13 "StoryDesk$Letters" "length" "I") (List.mem_cons_of_mem _ (List.mem_append_left _ lm0))
  have wd1 := hts (.fieldLink RX3 7 "StoryDesk$Letters" "chars" "[C") (List.mem_cons_of_mem _ (List.mem_append_left _ lm1))
  have hl : lv_has ls 2 [(0, .ref (g 1)), (1, .int x)] := hl
  have hK : va_K D vwCl (hT ka) s := hK
  refine lv_aload_n hx hb dX3_add_0 rfl (lv_at hl 0 rfl) ?_
  have bx_1 : (0 : Int) ≤ (i 1 1).toInt ∧ (i 1 1).toInt ≤ 480 := hO 1 1
  refine h_geti (ci := 3) (C := RX3) (F := TX3) (N := 2) hx hb hts in3 hown hK hH (by decide) (rfl : kd 1 = 3) (by decide) rfl 1 (by decide) wd0 (fun _ h9 => h9) (by decide) rfl dX3_add_1 ?_
  refine lv_aload_n hx hb dX3_add_4 rfl (lv_at hl 0 rfl) ?_
  refine h_getr (ci := 3) (C := RX3) (F := TX3) (N := 2) hx hb hts in3 hown hK hH (by decide) (rfl : kd 1 = 3) (by decide) rfl 0 (by decide) wd1 (fun _ h9 => h9) (by decide) rfl (t := 2) (hR 1 0 rfl) (by decide) dX3_add_5 ?_
  refine h_alen (v := 480) hx hb hK hH (by decide) (rfl : kd 2 = 14) (by decide) (by rw [(rfl : ln 2 = 480)]; rfl) dX3_add_8 ?_
  refine lv_icmp_ge (tgt := 32) hx hb dX3_add_9 (by decide) (fun h => absurd h (p_nle (show (480 : Int32).toInt = 480 from rfl) (rfl : (i 1 1).toInt = _) (by omega))) (fun _ => ?_)
  refine lv_aload_n hx hb dX3_add_12 rfl (lv_at hl 0 rfl) ?_
  refine h_getr (ci := 3) (C := RX3) (F := TX3) (N := 2) hx hb hts in3 hown hK hH (by decide) (rfl : kd 1 = 3) (by decide) rfl 0 (by decide) wd1 (fun _ h9 => h9) (by decide) rfl (t := 2) (hR 1 0 rfl) (by decide) dX3_add_13 ?_
  refine lv_aload_n hx hb dX3_add_16 rfl (lv_at hl 0 rfl) ?_
  refine h_geti (ci := 3) (C := RX3) (F := TX3) (N := 2) hx hb hts in3 hown hK hH (by decide) (rfl : kd 1 = 3) (by decide) rfl 1 (by decide) wd0 (fun _ h9 => h9) (by decide) rfl dX3_add_17 ?_
  refine lv_iload_n hx hb dX3_add_20 rfl (lv_at hl 1 rfl) ?_
  obtain ⟨z_2, ez_2⟩ : ∃ z, vp_nar .char x = z := ⟨_, rfl⟩
  have hz_2 : z_2.toInt = x.toInt := by rw [← ez_2, s_narc (rfl : x.toInt = _) (by omega) (by omega)] <;> exact (rfl : x.toInt = _)
  have hO_3 := okp hO (n := 2) (k := ((i 1 1).toInt).toNat) (v := z_2) (show (0 : Int) ≤ (z_2 : Int32).toInt ∧ (z_2 : Int32).toInt ≤ 65535 from ⟨by omega, by omega⟩)
  refine h_cast hx hb hK hH hS (by decide) (rfl : kd 2 = 14) (s_vin (N := 480) (rfl : (i 1 1).toInt = _) (rfl : ln 2 = 480) (by omega) (by omega)) dX3_add_21 (fun H locs hH hS => ?_)
  rw [ez_2] at hH
  rw [s_cl (show (i 1 1).toInt = (i 1 1).toInt by omega)] at hH
  refine lv_aload_n hx hb dX3_add_22 rfl (lv_at hl 0 rfl) ?_
  refine lv_dup hx hb dX3_add_23 rfl ?_
  refine h_geti (ci := 3) (C := RX3) (F := TX3) (N := 2) hx hb hts in3 hown hK hH (by decide) (rfl : kd 1 = 3) (by decide) rfl 1 (by decide) wd0 (fun _ h9 => h9) (by decide) rfl dX3_add_24 ?_
  refine sj_i (y := (i 1 1)) (congrFun (up2_n _ _ (by decide)) _) ?_
  refine lv_iconst (v := 1) hx hb dX3_add_27 (by decide) ?_
  refine lv_iadd hx hb dX3_add_28 ?_
  obtain ⟨z_4, ez_4, hz_4⟩ := s_add (rfl : (i 1 1).toInt = _) (show (1 : Int32).toInt = 1 from rfl) (by omega) (by omega)
  refine sj_i ez_4 ?_
  have hO_5 := okp hO_3 (n := 1) (k := 1) (v := z_4) (show (0 : Int) ≤ (z_4 : Int32).toInt ∧ (z_4 : Int32).toInt ≤ 480 from ⟨by omega, by omega⟩)
  refine h_puti (ty := .int) (ci := 3) (C := RX3) (F := TX3) (N := 2) hx hb hts in3 tyX3 tyX3_ok nmX3 hown hK hH hS (by decide) (rfl : kd 1 = 3) (by decide) rfl 1 (by decide) wd0 (fun _ h9 => h9) rfl (by decide +kernel) rfl rfl (by decide) rfl dX3_add_29 (fun H locs hH hS => ?_)
  have hq_6 : (up2 (up2 i 2 ((i 1 1).toInt).toNat z_2) 1 1 z_4) 1 1 = z_4 := (up2_at _ _ _ _)
  have hq_6i := congrArg Int32.toInt hq_6
  exact sj_vret hx hb hr hlocks hS (up2 (up2 i 2 ((i 1 1).toInt).toNat z_2) 1 1 z_4) ⟨hO_5, (fun a ha => ((up2_n _ _ (by omega)).trans (up2_n _ _ (by omega)))), (by omega), (fun k hk => (congrFun (up2_n _ _ (by decide)) _).trans (up2_k _ _ hk)), (by rw [show (up2 (up2 i 2 ((i 1 1).toInt).toNat z_2) 1 1 z_4) 2 (i 1 1).toInt.toNat = z_2 from (congrFun (up2_n _ _ (by decide)) _).trans (up2_at _ _ _ _)]; omega)⟩ hH (sj_Knil hK) (Nat.le_of_ble_eq_true rfl) (Nat.le_of_ble_eq_true rfl) dX3_add_32
set_option maxHeartbeats 2000000 in
set_option maxRecDepth 100000 in
theorem k_put (l : Launch) (D : va_G) (g : Nat → Nat) (ka : Nat → ClassId) (ad : Nat → Nat) (i : Nat → Nat → Int32) (r : Nat → Nat → Nat) (L : Nat → Nat → Int64) (d : Nat → Nat → UInt64) (b : Int64) (x : Int32) (hO : OkI i) (hR : RS r) (sz : Nat)  : Met l yX11_put wsX11_put ({ frames := 1, cells := 0, slots := 0, locals := 21 }) (va_Pc [.ref (g 0), .long b, .int x] (sj_B D (hwc g ka i r L d) (hT ka) sz (gx ad (va_A (hwc g ka i r L d) sz)))) (sj_Qi (S := (Nat → Nat → Int32)) D (fun v u => OkI u ∧ (∀ a, ¬ (a = 1 ∨ a = 2) → u a = i a) ∧ ((0 : Int) ≤ v.toInt ∧ v.toInt ≤ 1) ∧ ((v.toInt = 1 ∧ putOK (btC b) x.toInt (i 1 1).toInt ∧ (u 1 1).toInt = (i 1 1).toInt + x.toInt ∧ (∀ k : Nat, (k : Int) < (i 1 1).toInt → u 2 k = i 2 k) ∧ (∀ k : Nat, (k : Int) < x.toInt → (u 2 ((i 1 1).toInt.toNat + k)).toInt = (btC b (x.toInt.toNat - 1 - k)).toInt)) ∨ (v.toInt = 0 ∧ ¬ putOK (btC b) x.toInt (i 1 1).toInt ∧ (u 1 1).toInt = (i 1 1).toInt ∧ u 2 = i 2))) (fun u => hwc g ka u r L d) (fun _ => []) (va_A (hwc g ka i r L d) sz)) 0 0 (va_A (hwc g ka i r L d) sz) := by
  refine x_met (Ex := gx ad) (cc := cX11_put) (maxL := 6) (ret := (some .boolean)) (by decide) rfl (Nat.le_of_ble_eq_true rfl) ?_
  intro p e s m below meth c A ls hx hb hr hml hts hown hlocks hA hS hH hK hE hl
  have hown : s.vm.findClass RX11 = some m.cls := hown
  have in3 : ∀ w ∈ wsX30, w ∈ wsX11_put := (fun _ h => (List.mem_cons_of_mem _ (List.mem_append_right _ h)))
  have in11 : ∀ w ∈ wsX110, w ∈ wsX11_put := (fun _ h => (List.mem_cons_of_mem _ (List.mem_append_left _ (List.mem_append_right _ h))))
  have wd0 := hts (.fieldLink RX11 14 "StoryDesk" "text" "LStoryDesk$Letters;") (List.mem_cons_of_mem _ (List.mem_append_left _ (List.mem_append_left _ lm0)))
  have wd1 := hts (.fieldLink RX11 80 "StoryDesk$Letters" "length" "I") (List.mem_cons_of_mem _ (List.mem_append_left _ (List.mem_append_left _ lm1)))
  have hl : lv_has ls 6 [(0, .ref (g 0)), (1, .long b), (3, .int x)] := hl
  have hK : va_K D vwCl (hT ka) s := hK
  have hg_1 := s_rng x
  refine lv_iload_n hx hb dX11_put_0 rfl (lv_at hl 2 rfl) ?_
  refine lv_iconst (v := 1) hx hb dX11_put_1 (by decide) ?_
  refine lv_icmp_lt (tgt := 26) hx hb dX11_put_2 (by decide) (fun c_2 => ?_) (fun c_2 => ?_)
  · skip
    have h_3 := s_lt (rfl : x.toInt = _) (show (1 : Int32).toInt = 1 from rfl) c_2
    refine lv_iconst (v := 0) hx hb dX11_put_26 (by decide) ?_
    exact sj_zret hx hb hr hlocks (by decide +kernel) hS i ⟨hO, (fun a ha => rfl), ⟨by decide, by decide⟩, (Or.inr ⟨rfl, fun q => by unfold putOK at q; omega, rfl, rfl⟩)⟩ hH (sj_Knil hK) (Nat.le_of_ble_eq_true rfl) (Nat.le_of_ble_eq_true rfl) dX11_put_27
  · skip
    have h_4 := s_nlt (rfl : x.toInt = _) (show (1 : Int32).toInt = 1 from rfl) c_2
    refine lv_iload_n hx hb dX11_put_5 rfl (lv_at hl 2 rfl) ?_
    refine lv_bipush (v := 8) hx hb dX11_put_6 (by decide) ?_
    refine lv_icmp_gt (tgt := 26) hx hb dX11_put_8 (by decide) (fun c_5 => ?_) (fun c_5 => ?_)
    · skip
      have h_6 := s_lt (show (8 : Int32).toInt = 8 from rfl) (rfl : x.toInt = _) c_5
      refine lv_iconst (v := 0) hx hb dX11_put_26 (by decide) ?_
      exact sj_zret hx hb hr hlocks (by decide +kernel) hS i ⟨hO, (fun a ha => rfl), ⟨by decide, by decide⟩, (Or.inr ⟨rfl, fun q => by unfold putOK at q; omega, rfl, rfl⟩)⟩ hH (sj_Knil hK) (Nat.le_of_ble_eq_true rfl) (Nat.le_of_ble_eq_true rfl) dX11_put_27
    · skip
      have h_7 := s_nlt (show (8 : Int32).toInt = 8 from rfl) (rfl : x.toInt = _) c_5
      refine lv_aload_n hx hb dX11_put_11 rfl (lv_at hl 0 rfl) ?_
      refine h_getr (ci := 11) (C := RX11) (F := TX11) (N := 14) hx hb hts in11 hown hK hH (by decide) (rfl : kd 0 = 11) (by decide) rfl 0 (by decide) wd0 (fun _ h9 => h9) (by decide) rfl (t := 1) (hR 0 0 rfl) (by decide) dX11_put_12 ?_
      have bx_8 : (0 : Int) ≤ (i 1 1).toInt ∧ (i 1 1).toInt ≤ 480 := hO 1 1
      refine h_geti (ci := 3) (C := RX3) (F := TX3) (N := 2) hx hb hts in3 hown hK hH (by decide) (rfl : kd 1 = 3) (by decide) rfl 1 (by decide) wd1 (fun _ h9 => h9) (by decide) rfl dX11_put_15 ?_
      refine lv_iload_n hx hb dX11_put_18 rfl (lv_at hl 2 rfl) ?_
      refine lv_iadd hx hb dX11_put_19 ?_
      obtain ⟨z_9, ez_9, hz_9⟩ := s_add (rfl : (i 1 1).toInt = _) (rfl : x.toInt = _) (by omega) (by omega)
      refine sj_i ez_9 ?_
      refine lv_sipush (v := 480) hx hb dX11_put_20 (by decide) ?_
      refine lv_icmp_le (tgt := 28) hx hb dX11_put_23 (by decide) (fun c_10 => ?_) (fun c_10 => ?_)
      · skip
        have h_11 := s_le (rfl : z_9.toInt = _) (show (480 : Int32).toInt = 480 from rfl) c_10
        refine lv_iconst (v := 0) hx hb dX11_put_28 (by decide) ?_
        refine lv_istore (lv' := [(4, .int 0), (0, .ref (g 0)), (1, .long b), (3, .int x)]) hx hb dX11_put_29 hl (by decide) rfl (fun ls hl => ?_)
        -- loop at 31
        have lp_12 : ∀ (fuel_lp_12 : Nat) (f : Int32) (H : Heap) (locs : List Loc) (ls : Array Slot), (8 - f.toInt).toNat < fuel_lp_12 → (0 : Int) ≤ f.toInt ∧ f.toInt ≤ 8 → f.toInt ≤ x.toInt → (∀ k : Nat, (k : Int) < f.toInt → okB (btC b k).toInt) → lv_has ls 6 [(4, .int f), (0, .ref (g 0)), (1, .long b), (3, .int x)] → sj_H D A (hwc g ka i r L d) H → va_S A s.heap H locs → W p l e (headSpec wsX11_put ({ frames := 1, cells := 0, slots := 0, locals := 21 })).room s m ([.ref (g 0), .long b, .int x] : List Value).toArray below meth c H locs 0 0 (MQ below (sj_Qi (S := (Nat → Nat → Int32)) D (fun v u => OkI u ∧ (∀ a, ¬ (a = 1 ∨ a = 2) → u a = i a) ∧ ((0 : Int) ≤ v.toInt ∧ v.toInt ≤ 1) ∧ ((v.toInt = 1 ∧ putOK (btC b) x.toInt (i 1 1).toInt ∧ (u 1 1).toInt = (i 1 1).toInt + x.toInt ∧ (∀ k : Nat, (k : Int) < (i 1 1).toInt → u 2 k = i 2 k) ∧ (∀ k : Nat, (k : Int) < x.toInt → (u 2 ((i 1 1).toInt.toNat + k)).toInt = (btC b (x.toInt.toNat - 1 - k)).toInt)) ∨ (v.toInt = 0 ∧ ¬ putOK (btC b) x.toInt (i 1 1).toInt ∧ (u 1 1).toInt = (i 1 1).toInt ∧ u 2 = i 2))) (fun u => hwc g ka u r L d) (fun _ => []) A) ([.ref (g 0), .long b, .int x] : List Value).toArray s 0 0 A) (F0 m 31 ls []) := by
          intro fuel_lp_12
          induction fuel_lp_12 with
          | zero => intros; omega
          | succ fuel_lp_12 ih_lp_12 =>
            intro f H locs ls hm hr_f hi_lp_12_0 hi_lp_12_1 hl hH hS
            refine lv_iload hx hb dX11_put_31 (lv_at hl 0 rfl) ?_
            refine lv_iload_n hx hb dX11_put_33 rfl (lv_at hl 3 rfl) ?_
            refine lv_icmp_ge (tgt := 80) hx hb dX11_put_34 (by decide) (fun c_13 => ?_) (fun c_13 => ?_)
            · skip
              have h_14 := s_le (rfl : x.toInt = _) (rfl : f.toInt = _) c_13
              refine lv_iload_n hx hb dX11_put_80 rfl (lv_at hl 3 rfl) ?_
              refine lv_iconst (v := 1) hx hb dX11_put_81 (by decide) ?_
              refine lv_isub hx hb dX11_put_82 ?_
              obtain ⟨z_15, ez_15, hz_15⟩ := s_sub (rfl : x.toInt = _) (show (1 : Int32).toInt = 1 from rfl) (by omega) (by omega)
              refine sj_i ez_15 ?_
              refine lv_istore (lv' := [(4, .int z_15), (0, .ref (g 0)), (1, .long b), (3, .int x)]) hx hb dX11_put_83 hl (by decide) rfl (fun ls hl => ?_)
              -- loop at 85
              have lp_16 : ∀ (fuel_lp_16 : Nat) (f : Int32) (j1 : Nat → Nat → Int32) (H : Heap) (locs : List Loc) (ls : Array Slot), (f.toInt + 1).toNat < fuel_lp_16 → (-1 : Int) ≤ f.toInt ∧ f.toInt ≤ 7 → (j1 1 1).toInt = (i 1 1).toInt + (x.toInt - 1 - f.toInt) ∧ f.toInt < x.toInt → (∀ k : Nat, (k : Int) < (i 1 1).toInt → j1 2 k = i 2 k) → (∀ k : Nat, (k : Int) < x.toInt - 1 - f.toInt → (j1 2 ((i 1 1).toInt.toNat + k)).toInt = (btC b (x.toInt.toNat - 1 - k)).toInt) → OkI j1 → (∀ a, ¬ (a = 1 ∨ a = 2) → j1 a = i a) → lv_has ls 6 [(4, .int f), (0, .ref (g 0)), (1, .long b), (3, .int x)] → sj_H D A (hwc g ka j1 r L d) H → va_S A s.heap H locs → W p l e (headSpec wsX11_put ({ frames := 1, cells := 0, slots := 0, locals := 21 })).room s m ([.ref (g 0), .long b, .int x] : List Value).toArray below meth c H locs 0 0 (MQ below (sj_Qi (S := (Nat → Nat → Int32)) D (fun v u => OkI u ∧ (∀ a, ¬ (a = 1 ∨ a = 2) → u a = i a) ∧ ((0 : Int) ≤ v.toInt ∧ v.toInt ≤ 1) ∧ ((v.toInt = 1 ∧ putOK (btC b) x.toInt (i 1 1).toInt ∧ (u 1 1).toInt = (i 1 1).toInt + x.toInt ∧ (∀ k : Nat, (k : Int) < (i 1 1).toInt → u 2 k = i 2 k) ∧ (∀ k : Nat, (k : Int) < x.toInt → (u 2 ((i 1 1).toInt.toNat + k)).toInt = (btC b (x.toInt.toNat - 1 - k)).toInt)) ∨ (v.toInt = 0 ∧ ¬ putOK (btC b) x.toInt (i 1 1).toInt ∧ (u 1 1).toInt = (i 1 1).toInt ∧ u 2 = i 2))) (fun u => hwc g ka u r L d) (fun _ => []) A) ([.ref (g 0), .long b, .int x] : List Value).toArray s 0 0 A) (F0 m 85 ls []) := by
                intro fuel_lp_16
                induction fuel_lp_16 with
                | zero => intros; omega
                | succ fuel_lp_16 ih_lp_16 =>
                  intro f j1 H locs ls hm hr_f hi_lp_16_0 hi_lp_16_1 hi_lp_16_2 hO_j1 hfr_j1 hl hH hS
                  refine lv_iload hx hb dX11_put_85 (lv_at hl 0 rfl) ?_
                  refine lv_if_lt (tgt := 116) hx hb dX11_put_87 (by decide) (fun c_17 => ?_) (fun c_17 => ?_)
                  · skip
                    have h_18 := s_lt (rfl : f.toInt = _) (show (0 : Int32).toInt = 0 from rfl) c_17
                    refine lv_iconst (v := 1) hx hb dX11_put_116 (by decide) ?_
                    exact sj_zret hx hb hr hlocks (by decide +kernel) hS j1 ⟨hO_j1, (fun a ha => (hfr_j1 a (by omega))), ⟨by decide, by decide⟩, (Or.inl ⟨rfl, ⟨by omega, by omega, by omega, fun k hk => hi_lp_12_1 k (by omega)⟩, by omega, hi_lp_16_1, fun k hk => hi_lp_16_2 k (by omega)⟩)⟩ hH (sj_Knil hK) (Nat.le_of_ble_eq_true rfl) (Nat.le_of_ble_eq_true rfl) dX11_put_117
                  · skip
                    have h_19 := s_nlt (rfl : f.toInt = _) (show (0 : Int32).toInt = 0 from rfl) c_17
                    refine lv_aload_n hx hb dX11_put_90 rfl (lv_at hl 1 rfl) ?_
                    refine h_getr (ci := 11) (C := RX11) (F := TX11) (N := 14) hx hb hts in11 hown hK hH (by decide) (rfl : kd 0 = 11) (by decide) rfl 0 (by decide) wd0 (fun _ h9 => h9) (by decide) rfl (t := 1) (hR 0 0 rfl) (by decide) dX11_put_91 ?_
                    refine lv_lload_n hx hb dX11_put_94 rfl (lv_at hl 2 rfl) ?_
                    refine lv_bipush (v := 8) hx hb dX11_put_95 (by decide) ?_
                    refine lv_iload hx hb dX11_put_97 (lv_at hl 0 rfl) ?_
                    refine lv_imul hx hb dX11_put_99 ?_
                    obtain ⟨z_20, ez_20, hz_20⟩ := s_mul (show (8 : Int32).toInt = 8 from rfl) (rfl : f.toInt = _) (by omega) (by omega)
                    refine sj_i ez_20 ?_
                    refine lv_lushr hx hb dX11_put_100 rfl ?_
                    refine lv_topl (fun z_21 ez_21 => ?_)
                    refine lv_l2i hx hb dX11_put_101 rfl ?_
                    refine lv_topi (fun z_22 ez_22 => ?_)
                    refine lv_sipush (v := 255) hx hb dX11_put_102 (by decide) ?_
                    refine lv_iand hx hb dX11_put_105 ?_
                    refine lv_topi (fun z_23 ez_23 => ?_)
                    have hz_23 := s_and (k := 8) ez_23 (by decide +kernel)
                    refine lv_i2c hx hb dX11_put_106 rfl ?_
                    refine lv_topi (fun z_24 ez_24 => ?_)
                    have hz_24 := congrArg Int32.toInt (s_i2cE ez_24 (by omega) (by omega))
                    have hbt : z_23 = btC b f.toInt.toNat := bt_eq (by omega) (by omega) ez_21 ez_22 ez_23
                    have hbi := congrArg Int32.toInt hbt
                    refine x_callv (va_runV (As := [.int z_24]) (rest := []) ⟨hx, hb, hml, hown, hts⟩ (k_addT l D g ka ad j1 r L d z_24 hO_j1 hR H.size (by first | omega | decide) (by first | omega | decide) (by first | omega | decide)) (cwV 1 hts gX11_put_X3_add rfl rfl rfl (by decide +kernel) ⟨(Nat.le_of_ble_eq_true rfl), (Nat.le_of_ble_eq_true rfl)⟩) (x_preV (q := (RX3, TX3, 2)) hH hK (q_obj (by decide) (rfl : kd 1 = 3) (by decide)) rfl gxb (gxw hE hS (x_F hH hS hA))) rfl rfl hl.1 rfl (lv_room (Nat.le_of_ble_eq_true rfl)) dX11_put_107 ⟨(Nat.le_of_ble_eq_true rfl), (Nat.le_of_ble_eq_true rfl)⟩) hH hS hA rfl rfl (fun im_27 H locs hw_26 hH hS => ?_)
                    have hH : sj_H D A (hwc g ka im_27 r L d) H := hH
                    obtain ⟨hO_29, hfr_28, he_30, hx2_31, hx2_32⟩ := hw_26
                    obtain ⟨z_33, ez_33, hz_33⟩ := s_add (rfl : f.toInt = _) (show ((-1) : Int32).toInt = (-1) from rfl) (by omega) (by omega)
                    refine lv_iinc (v := z_33) (lv' := [(4, .int z_33), (0, .ref (g 0)), (1, .long b), (3, .int x)]) hx hb dX11_put_110 hl (k := 0) rfl ez_33 (by decide) rfl (fun ls hl => ?_)
                    refine lv_goto (tgt := 85) hx hb dX11_put_113 (by decide) ?_
                    exact ih_lp_16 z_33 _ _ _ ls (by omega) (by omega) (by omega) (fun k hk => (hx2_31 k (by omega)).trans (hi_lp_16_1 k hk)) (fun k hk => by
          by_cases q : (k : Int) < x.toInt - 1 - f.toInt
          · rw [hx2_31 _ (by omega)]; exact hi_lp_16_2 k q
          · rw [show (i 1 1).toInt.toNat + k = (j1 1 1).toInt.toNat by omega, hx2_32, show x.toInt.toNat - 1 - k = f.toInt.toNat by omega, ← hbi]; omega) hO_29 (fun a ha => ((hfr_28 a (by omega)).trans (hfr_j1 a (by omega)))) (lv_sub hl [0, 1, 2, 3] rfl) hH hS
              exact lp_16 _ z_15 _ _ _ ls (Nat.lt_succ_self _) (by omega) (by omega) (fun k hk => rfl) (fun k hk => by exfalso; omega) hO (fun a ha => rfl) (lv_sub hl [0, 1, 2, 3] rfl) hH hS
            · skip
              have h_34 := s_nle (rfl : x.toInt = _) (rfl : f.toInt = _) c_13
              refine lv_lload_n hx hb dX11_put_37 rfl (lv_at hl 2 rfl) ?_
              refine lv_bipush (v := 8) hx hb dX11_put_38 (by decide) ?_
              refine lv_iload hx hb dX11_put_40 (lv_at hl 0 rfl) ?_
              refine lv_imul hx hb dX11_put_42 ?_
              obtain ⟨z_35, ez_35, hz_35⟩ := s_mul (show (8 : Int32).toInt = 8 from rfl) (rfl : f.toInt = _) (by omega) (by omega)
              refine sj_i ez_35 ?_
              refine lv_lushr hx hb dX11_put_43 rfl ?_
              refine lv_topl (fun z_36 ez_36 => ?_)
              refine lv_l2i hx hb dX11_put_44 rfl ?_
              refine lv_topi (fun z_37 ez_37 => ?_)
              refine lv_sipush (v := 255) hx hb dX11_put_45 (by decide) ?_
              refine lv_iand hx hb dX11_put_48 ?_
              refine lv_topi (fun z_38 ez_38 => ?_)
              have hz_38 := s_and (k := 8) ez_38 (by decide +kernel)
              refine lv_istore (lv' := [(5, .int z_38), (4, .int f), (0, .ref (g 0)), (1, .long b), (3, .int x)]) hx hb dX11_put_49 hl (by decide) rfl (fun ls hl => ?_)
              refine lv_iload hx hb dX11_put_51 (lv_at hl 0 rfl) ?_
              refine lv_bipush (v := 10) hx hb dX11_put_53 (by decide) ?_
              refine lv_icmp_eq (tgt := 74) hx hb dX11_put_55 (by decide) (fun c_39 => ?_) (fun c_39 => ?_)
              · skip
                have h_40 := s_eq (rfl : z_38.toInt = _) (show (10 : Int32).toInt = 10 from rfl) c_39
                obtain ⟨z_41, ez_41, hz_41⟩ := s_add (rfl : f.toInt = _) (show (1 : Int32).toInt = 1 from rfl) (by omega) (by omega)
                refine lv_iinc (v := z_41) (lv' := [(4, .int z_41), (5, .int z_38), (0, .ref (g 0)), (1, .long b), (3, .int x)]) hx hb dX11_put_74 hl (k := 1) rfl ez_41 (by decide) rfl (fun ls hl => ?_)
                refine lv_goto (tgt := 31) hx hb dX11_put_77 (by decide) ?_
                have hbt : z_38 = btC b f.toInt.toNat := bt_eq (by omega) (by omega) ez_36 ez_37 ez_38
                have hbi := congrArg Int32.toInt hbt
                exact ih_lp_12 z_41 _ _ ls (by omega) (by omega) (by omega) (fun k hk => by
          by_cases q : (k : Int) < f.toInt
          · exact hi_lp_12_1 k q
          · rw [show k = f.toInt.toNat by omega, ← hbi]; unfold okB; omega) (lv_sub hl [0, 2, 3, 4] rfl) hH hS
              · skip
                have h_42 := s_ne (rfl : z_38.toInt = _) (show (10 : Int32).toInt = 10 from rfl) c_39
                refine lv_iload hx hb dX11_put_58 (lv_at hl 0 rfl) ?_
                refine lv_bipush (v := 32) hx hb dX11_put_60 (by decide) ?_
                refine lv_icmp_lt (tgt := 72) hx hb dX11_put_62 (by decide) (fun c_43 => ?_) (fun c_43 => ?_)
                · skip
                  have h_44 := s_lt (rfl : z_38.toInt = _) (show (32 : Int32).toInt = 32 from rfl) c_43
                  refine lv_iconst (v := 0) hx hb dX11_put_72 (by decide) ?_
                  have hbt : z_38 = btC b f.toInt.toNat := bt_eq (by omega) (by omega) ez_36 ez_37 ez_38
                  have hbi := congrArg Int32.toInt hbt
                  exact sj_zret hx hb hr hlocks (by decide +kernel) hS i ⟨hO, (fun a ha => rfl), ⟨by decide, by decide⟩, (Or.inr ⟨rfl, fun q => by have h9 := q.2.2.2 f.toInt.toNat (by omega); rw [← hbi] at h9; unfold okB at h9; omega, rfl, rfl⟩)⟩ hH (sj_Knil hK) (Nat.le_of_ble_eq_true rfl) (Nat.le_of_ble_eq_true rfl) dX11_put_73
                · skip
                  have h_45 := s_nlt (rfl : z_38.toInt = _) (show (32 : Int32).toInt = 32 from rfl) c_43
                  refine lv_iload hx hb dX11_put_65 (lv_at hl 0 rfl) ?_
                  refine lv_bipush (v := 126) hx hb dX11_put_67 (by decide) ?_
                  refine lv_icmp_le (tgt := 74) hx hb dX11_put_69 (by decide) (fun c_46 => ?_) (fun c_46 => ?_)
                  · skip
                    have h_47 := s_le (rfl : z_38.toInt = _) (show (126 : Int32).toInt = 126 from rfl) c_46
                    obtain ⟨z_48, ez_48, hz_48⟩ := s_add (rfl : f.toInt = _) (show (1 : Int32).toInt = 1 from rfl) (by omega) (by omega)
                    refine lv_iinc (v := z_48) (lv' := [(4, .int z_48), (5, .int z_38), (0, .ref (g 0)), (1, .long b), (3, .int x)]) hx hb dX11_put_74 hl (k := 1) rfl ez_48 (by decide) rfl (fun ls hl => ?_)
                    refine lv_goto (tgt := 31) hx hb dX11_put_77 (by decide) ?_
                    have hbt : z_38 = btC b f.toInt.toNat := bt_eq (by omega) (by omega) ez_36 ez_37 ez_38
                    have hbi := congrArg Int32.toInt hbt
                    exact ih_lp_12 z_48 _ _ ls (by omega) (by omega) (by omega) (fun k hk => by
          by_cases q : (k : Int) < f.toInt
          · exact hi_lp_12_1 k q
          · rw [show k = f.toInt.toNat by omega, ← hbi]; unfold okB; omega) (lv_sub hl [0, 2, 3, 4] rfl) hH hS
                  · skip
                    have h_49 := s_nle (rfl : z_38.toInt = _) (show (126 : Int32).toInt = 126 from rfl) c_46
                    refine lv_iconst (v := 0) hx hb dX11_put_72 (by decide) ?_
                    have hbt : z_38 = btC b f.toInt.toNat := bt_eq (by omega) (by omega) ez_36 ez_37 ez_38
                    have hbi := congrArg Int32.toInt hbt
                    exact sj_zret hx hb hr hlocks (by decide +kernel) hS i ⟨hO, (fun a ha => rfl), ⟨by decide, by decide⟩, (Or.inr ⟨rfl, fun q => by have h9 := q.2.2.2 f.toInt.toNat (by omega); rw [← hbi] at h9; unfold okB at h9; omega, rfl, rfl⟩)⟩ hH (sj_Knil hK) (Nat.le_of_ble_eq_true rfl) (Nat.le_of_ble_eq_true rfl) dX11_put_73
        have hl_50 : (0 : Int32).toInt = 0 := rfl
        exact lp_12 _ 0 _ _ ls (Nat.lt_succ_self _) (by omega) (by omega) (fun k hk => by exfalso; have : (0 : Int32).toInt = 0 := rfl; omega) (lv_sub hl [0, 1, 2, 3] rfl) hH hS
      · skip
        have h_51 := s_nle (rfl : z_9.toInt = _) (show (480 : Int32).toInt = 480 from rfl) c_10
        refine lv_iconst (v := 0) hx hb dX11_put_26 (by decide) ?_
        exact sj_zret hx hb hr hlocks (by decide +kernel) hS i ⟨hO, (fun a ha => rfl), ⟨by decide, by decide⟩, (Or.inr ⟨rfl, fun q => by unfold putOK at q; omega, rfl, rfl⟩)⟩ hH (sj_Knil hK) (Nat.le_of_ble_eq_true rfl) (Nat.le_of_ble_eq_true rfl) dX11_put_27
set_option maxHeartbeats 2000000 in
set_option maxRecDepth 100000 in
theorem k_command (l : Launch) (D : va_G) (g : Nat → Nat) (ka : Nat → ClassId) (ad : Nat → Nat) (i : Nat → Nat → Int32) (r : Nat → Nat → Nat) (L : Nat → Nat → Int64) (d : Nat → Nat → UInt64) (x : Int32) (y : Int32) (z : Int32) (hO : OkI i) (hR : RS r) (sz : Nat)  : Met l yX11_command wsX11_command ({ frames := 2, cells := 0, slots := 0, locals := 45 }) (va_Pc [.ref (g 0), .int x, .int y, .int z] (sj_B D (hwc g ka i r L d) (hT ka) sz (gx ad (va_A (hwc g ka i r L d) sz)))) (sj_Qi (S := (Nat → Nat → Int32)) D (fun v u => OkI u ∧ (∀ a, ¬ (a = 20 ∨ a = 21 ∨ a = 22) → u a = i a) ∧ ((0 : Int) ≤ v.toInt ∧ v.toInt ≤ 1)) (fun u => hwc g ka u r L d) (fun _ => []) (va_A (hwc g ka i r L d) sz)) 0 0 (va_A (hwc g ka i r L d) sz) := by
  refine x_met (Ex := gx ad) (cc := cX11_command) (maxL := 4) (ret := (some .boolean)) (by decide) rfl (Nat.le_of_ble_eq_true rfl) ?_
  intro p e s m below meth c A ls hx hb hr hml hts hown hlocks hA hS hH hK hE hl
  have hown : s.vm.findClass RX11 = some m.cls := hown
  have in7 : ∀ w ∈ wsX70, w ∈ wsX11_command := (fun _ h => (List.mem_cons_of_mem _ (List.mem_append_left _ (List.mem_append_right _ h))))
  have in11 : ∀ w ∈ wsX110, w ∈ wsX11_command := (fun _ h => (List.mem_cons_of_mem _ (List.mem_append_left _ (List.mem_append_left _ (List.mem_append_right _ h)))))
  have wd0 := hts (.fieldLink RX11 44 "StoryDesk" "run" "LStoryDesk$Run;") (List.mem_cons_of_mem _ (List.mem_append_left _ (List.mem_append_left _ (List.mem_append_left _ lm0))))
  have wd1 := hts (.fieldLink RX11 88 "StoryDesk$Run" "underWay" "Z") (List.mem_cons_of_mem _ (List.mem_append_left _ (List.mem_append_left _ (List.mem_append_left _ lm1))))
  have wd2 := hts (.fieldLink RX11 37 "StoryDesk" "scripts" "LStoryDesk$Scripts;") (List.mem_cons_of_mem _ (List.mem_append_left _ (List.mem_append_left _ (List.mem_append_left _ lm2))))
  have hl : lv_has ls 4 [(0, .ref (g 0)), (1, .int x), (2, .int y), (3, .int z)] := hl
  have hK : va_K D vwCl (hT ka) s := hK
  have hg_1 := s_rng x
  have hg_2 := s_rng y
  have hg_3 := s_rng z
  refine lv_aload_n hx hb dX11_command_0 rfl (lv_at hl 0 rfl) ?_
  refine h_getr (ci := 11) (C := RX11) (F := TX11) (N := 14) hx hb hts in11 hown hK hH (by decide) (rfl : kd 0 = 11) (by decide) rfl 4 (by decide) wd0 (fun _ h9 => h9) (by decide) rfl (t := 23) (hR 0 4 rfl) (by decide) dX11_command_1 ?_
  have bx_4 : (0 : Int) ≤ (i 23 8).toInt ∧ (i 23 8).toInt ≤ 1 := hO 23 8
  refine h_geti (ci := 7) (C := RX7) (F := TX7) (N := 11) hx hb hts in7 hown hK hH (by decide) (rfl : kd 23 = 7) (by decide) rfl 8 (by decide) wd1 (fun _ h9 => h9) (by decide) rfl dX11_command_4 ?_
  refine lv_if_ne (tgt := 27) hx hb dX11_command_7 (by decide) (fun c_5 => ?_) (fun c_5 => ?_)
  · skip
    have h_6 := s_ne (rfl : (i 23 8).toInt = _) (show (0 : Int32).toInt = 0 from rfl) c_5
    refine lv_iconst (v := 0) hx hb dX11_command_27 (by decide) ?_
    exact sj_zret hx hb hr hlocks (by decide +kernel) hS i ⟨hO, (fun a ha => rfl), ⟨by decide, by decide⟩⟩ hH (sj_Knil hK) (Nat.le_of_ble_eq_true rfl) (Nat.le_of_ble_eq_true rfl) dX11_command_28
  · skip
    have h_7 := s_eq (rfl : (i 23 8).toInt = _) (show (0 : Int32).toInt = 0 from rfl) c_5
    refine lv_aload_n hx hb dX11_command_10 rfl (lv_at hl 0 rfl) ?_
    refine h_getr (ci := 11) (C := RX11) (F := TX11) (N := 14) hx hb hts in11 hown hK hH (by decide) (rfl : kd 0 = 11) (by decide) rfl 3 (by decide) wd2 (fun _ h9 => h9) (by decide) rfl (t := 19) (hR 0 3 rfl) (by decide) dX11_command_11 ?_
    refine lv_iload_n hx hb dX11_command_14 rfl (lv_at hl 1 rfl) ?_
    refine lv_iload_n hx hb dX11_command_15 rfl (lv_at hl 2 rfl) ?_
    refine lv_iload_n hx hb dX11_command_16 rfl (lv_at hl 3 rfl) ?_
    refine x_calli (va_runV (As := [.int x, .int y, .int z]) (rest := []) ⟨hx, hb, hml, hown, hts⟩ (k_append l D g ka ad i r L d x y z hO hR s.heap.size ) (cwV 3 hts gX11_command_X8_append rfl rfl rfl (by decide +kernel) ⟨(Nat.le_of_ble_eq_true rfl), (Nat.le_of_ble_eq_true rfl)⟩) (x_preV (q := (RX8, TX8, 3)) hH hK (q_obj (by decide) (rfl : kd 19 = 8) (by decide)) rfl gxb (gxw hE hS (x_F hH hS hA))) rfl rfl hl.1 rfl (lv_room (Nat.le_of_ble_eq_true rfl)) dX11_command_17 ⟨(Nat.le_of_ble_eq_true rfl), (Nat.le_of_ble_eq_true rfl)⟩) hH hS hA rfl rfl (fun r_8 im_10 H locs hw_9 hH hS => ?_)
    have hH : sj_H D A (hwc g ka im_10 r L d) H := hH
    obtain ⟨hO_12, hfr_11, hr_13⟩ := hw_9
    have hr_13 : (0 : Int) ≤ r_8.toInt ∧ r_8.toInt ≤ 1 := hr_13
    refine lv_if_eq (tgt := 27) hx hb dX11_command_20 (by decide) (fun c_14 => ?_) (fun c_14 => ?_)
    · skip
      have h_15 := s_eq (rfl : r_8.toInt = _) (show (0 : Int32).toInt = 0 from rfl) c_14
      refine lv_iconst (v := 0) hx hb dX11_command_27 (by decide) ?_
      exact sj_zret hx hb hr hlocks (by decide +kernel) hS im_10 ⟨hO_12, (fun a ha => (hfr_11 a (by omega))), ⟨by decide, by decide⟩⟩ hH (sj_Knil hK) (Nat.le_of_ble_eq_true rfl) (Nat.le_of_ble_eq_true rfl) dX11_command_28
    · skip
      have h_16 := s_ne (rfl : r_8.toInt = _) (show (0 : Int32).toInt = 0 from rfl) c_14
      refine lv_iconst (v := 1) hx hb dX11_command_23 (by decide) ?_
      refine lv_goto (tgt := 28) hx hb dX11_command_24 (by decide) ?_
      exact sj_zret hx hb hr hlocks (by decide +kernel) hS im_10 ⟨hO_12, (fun a ha => (hfr_11 a (by omega))), ⟨by decide, by decide⟩⟩ hH (sj_Knil hK) (Nat.le_of_ble_eq_true rfl) (Nat.le_of_ble_eq_true rfl) dX11_command_28
set_option maxHeartbeats 2000000 in
set_option maxRecDepth 100000 in
theorem k_event (l : Launch) (D : va_G) (g : Nat → Nat) (ka : Nat → ClassId) (ad : Nat → Nat) (i : Nat → Nat → Int32) (r : Nat → Nat → Nat) (L : Nat → Nat → Int64) (d : Nat → Nat → UInt64) (x : Int32) (y : Int32) (hO : OkI i) (hR : RS r) (sz : Nat)  : Met l yX11_event wsX11_event ({ frames := 1, cells := 0, slots := 0, locals := 22 }) (va_Pc [.ref (g 0), .int x, .int y] (sj_B D (hwc g ka i r L d) (hT ka) sz (gx ad (va_A (hwc g ka i r L d) sz)))) (sj_Qi (S := Unit) D (fun v u => True) (fun _ => hwc g ka i r L d) (fun _ => []) (va_A (hwc g ka i r L d) sz)) 0 0 (va_A (hwc g ka i r L d) sz) := by
  refine x_met (Ex := gx ad) (cc := cX11_event) (maxL := 3) (ret := (some .int)) (by decide) rfl (Nat.le_of_ble_eq_true rfl) ?_
  intro p e s m below meth c A ls hx hb hr hml hts hown hlocks hA hS hH hK hE hl
  have hown : s.vm.findClass RX11 = some m.cls := hown
  have in11 : ∀ w ∈ wsX110, w ∈ wsX11_event := (fun _ h => (List.mem_cons_of_mem _ (List.mem_append_left _ (List.mem_append_right _ h))))
  have wd0 := hts (.fieldLink RX11 44 "StoryDesk" "run" "LStoryDesk$Run;") (List.mem_cons_of_mem _ (List.mem_append_left _ (List.mem_append_left _ lm0)))
  have hl : lv_has ls 3 [(0, .ref (g 0)), (1, .int x), (2, .int y)] := hl
  have hK : va_K D vwCl (hT ka) s := hK
  have hg_1 := s_rng x
  have hg_2 := s_rng y
  refine lv_aload_n hx hb dX11_event_0 rfl (lv_at hl 0 rfl) ?_
  refine h_getr (ci := 11) (C := RX11) (F := TX11) (N := 14) hx hb hts in11 hown hK hH (by decide) (rfl : kd 0 = 11) (by decide) rfl 4 (by decide) wd0 (fun _ h9 => h9) (by decide) rfl (t := 23) (hR 0 4 rfl) (by decide) dX11_event_1 ?_
  refine lv_iload_n hx hb dX11_event_4 rfl (lv_at hl 1 rfl) ?_
  refine lv_iload_n hx hb dX11_event_5 rfl (lv_at hl 2 rfl) ?_
  refine x_calli (va_runV (As := [.int x, .int y]) (rest := []) ⟨hx, hb, hml, hown, hts⟩ (k_told l D g ka ad i r L d x y hO hR s.heap.size ) (cwV 2 hts gX11_event_X7_told rfl rfl rfl (by decide +kernel) ⟨(Nat.le_of_ble_eq_true rfl), (Nat.le_of_ble_eq_true rfl)⟩) (x_preV (q := (RX7, TX7, 11)) hH hK (q_obj (by decide) (rfl : kd 23 = 7) (by decide)) rfl gxb (gxw hE hS (x_F hH hS hA))) rfl rfl hl.1 rfl (lv_room (Nat.le_of_ble_eq_true rfl)) dX11_event_6 ⟨(Nat.le_of_ble_eq_true rfl), (Nat.le_of_ble_eq_true rfl)⟩) hH hS hA rfl rfl (fun r_3 _ H locs hw_4 hH hS => ?_)
  exact sj_zret hx hb hr hlocks rfl hS () trivial hH (sj_Knil hK) (Nat.le_of_ble_eq_true rfl) (Nat.le_of_ble_eq_true rfl) dX11_event_9
set_option maxHeartbeats 2000000 in
set_option maxRecDepth 100000 in
theorem k_world (l : Launch) (D : va_G) (g : Nat → Nat) (ka : Nat → ClassId) (ad : Nat → Nat) (i : Nat → Nat → Int32) (r : Nat → Nat → Nat) (L : Nat → Nat → Int64) (d : Nat → Nat → UInt64) (x : Int32) (hO : OkI i) (hR : RS r) (sz : Nat)  : Met l yX11_world wsX11_world ({ frames := 0, cells := 0, slots := 0, locals := 0 }) (va_Pc [.ref (g 0), .int x] (sj_B D (hwc g ka i r L d) (hT ka) sz (gx ad (va_A (hwc g ka i r L d) sz)))) (sj_Qd (S := Unit) D (fun v u => True) (fun _ => hwc g ka i r L d) (fun _ => []) (va_A (hwc g ka i r L d) sz)) 0 0 (va_A (hwc g ka i r L d) sz) := by
  refine x_met (Ex := gx ad) (cc := cX11_world) (maxL := 2) (ret := (some .double)) (by decide) rfl (Nat.le_of_ble_eq_true rfl) ?_
  intro p e s m below meth c A ls hx hb hr hml hts hown hlocks hA hS hH hK hE hl
  have hown : s.vm.findClass RX11 = some m.cls := hown
  have in7 : ∀ w ∈ wsX70, w ∈ wsX11_world := (fun _ h => (List.mem_cons_of_mem _ (List.mem_append_left _ (List.mem_append_right _ h))))
  have in10 : ∀ w ∈ wsX100, w ∈ wsX11_world := (fun _ h => (List.mem_cons_of_mem _ (List.mem_append_right _ h)))
  have in11 : ∀ w ∈ wsX110, w ∈ wsX11_world := (fun _ h => (List.mem_cons_of_mem _ (List.mem_append_left _ (List.mem_append_left _ (List.mem_append_right _ h)))))
  have wd0 := hts (.fieldLink RX11 44 "StoryDesk" "run" "LStoryDesk$Run;") (List.mem_cons_of_mem _ (List.mem_append_left _ (List.mem_append_left _ (List.mem_append_left _ lm0))))
  have wd1 := hts (.fieldLink RX11 242 "StoryDesk$Run" "workers" "[LStoryDesk$Worker;") (List.mem_cons_of_mem _ (List.mem_append_left _ (List.mem_append_left _ (List.mem_append_left _ lm1))))
  have wd2 := hts (.fieldLink RX11 257 "StoryDesk$Worker" "story" "I") (List.mem_cons_of_mem _ (List.mem_append_left _ (List.mem_append_left _ (List.mem_append_left _ lm2))))
  have wd3 := hts (.fieldLink RX11 262 "StoryDesk$Worker" "number" "D") (List.mem_cons_of_mem _ (List.mem_append_left _ (List.mem_append_left _ (List.mem_append_left _ lm3))))
  have hl : lv_has ls 2 [(0, .ref (g 0)), (1, .int x)] := hl
  have hK : va_K D vwCl (hT ka) s := hK
  have hg_1 := s_rng x
  refine lv_iload_n hx hb dX11_world_0 rfl (lv_at hl 1 rfl) ?_
  refine lv_if_lt (tgt := 24) hx hb dX11_world_1 (by decide) (fun c_2 => ?_) (fun c_2 => ?_)
  · skip
    have h_3 := s_lt (rfl : x.toInt = _) (show (0 : Int32).toInt = 0 from rfl) c_2
    refine lv_dconst0 hx hb dX11_world_24 ?_
    exact sj_dret hx hb hr hlocks hS () trivial hH (sj_Knil hK) (Nat.le_of_ble_eq_true rfl) (Nat.le_of_ble_eq_true rfl) dX11_world_25
  · skip
    have h_4 := s_nlt (rfl : x.toInt = _) (show (0 : Int32).toInt = 0 from rfl) c_2
    refine lv_iload_n hx hb dX11_world_4 rfl (lv_at hl 1 rfl) ?_
    refine lv_iconst (v := 3) hx hb dX11_world_5 (by decide) ?_
    refine lv_icmp_ge (tgt := 24) hx hb dX11_world_6 (by decide) (fun c_5 => ?_) (fun c_5 => ?_)
    · skip
      have h_6 := s_le (show (3 : Int32).toInt = 3 from rfl) (rfl : x.toInt = _) c_5
      refine lv_dconst0 hx hb dX11_world_24 ?_
      exact sj_dret hx hb hr hlocks hS () trivial hH (sj_Knil hK) (Nat.le_of_ble_eq_true rfl) (Nat.le_of_ble_eq_true rfl) dX11_world_25
    · skip
      have h_7 := s_nle (show (3 : Int32).toInt = 3 from rfl) (rfl : x.toInt = _) c_5
      refine lv_aload_n hx hb dX11_world_9 rfl (lv_at hl 0 rfl) ?_
      refine h_getr (ci := 11) (C := RX11) (F := TX11) (N := 14) hx hb hts in11 hown hK hH (by decide) (rfl : kd 0 = 11) (by decide) rfl 4 (by decide) wd0 (fun _ h9 => h9) (by decide) rfl (t := 23) (hR 0 4 rfl) (by decide) dX11_world_10 ?_
      refine h_getr (ci := 7) (C := RX7) (F := TX7) (N := 11) hx hb hts in7 hown hK hH (by decide) (rfl : kd 23 = 7) (by decide) rfl 0 (by decide) wd1 (fun _ h9 => h9) (by decide) rfl (t := 24) (hR 23 0 rfl) (by decide) dX11_world_13 ?_
      refine lv_iload_n hx hb dX11_world_16 rfl (lv_at hl 1 rfl) ?_
      obtain ⟨j_8, ej_8, hj_8⟩ : ∃ j : Nat, (x).toNatClampNeg = j ∧ (j : Int) = x.toInt := ⟨_, rfl, by rw [s_cl (rfl : x.toInt = _)]; omega⟩
      have lj_8 : j_8 < 3 := by omega
      refine h_qald hx hb hK hH (by decide) (rfl : kd 24 = 28) (by decide) rfl (s_vin (N := 3) (rfl : x.toInt = _) (rfl : ln 24 = 3) (by omega) (by omega)) (t := (25 + 1 * j_8)) (by rw [ej_8]; exact (hR 24 j_8 rfl)) (lt_nK (by omega)) dX11_world_17 ?_
      have bx_9 : (-1 : Int) ≤ (i (25 + 1 * j_8) 1).toInt ∧ (i (25 + 1 * j_8) 1).toInt ≤ 23 := by have h9 := hO (25 + 1 * j_8) 1; rw [bx_wk lj_8 1] at h9; exact h9
      refine h_geti (ci := 10) (C := RX10) (F := TX10) (N := 8) hx hb hts in10 hown hK hH (lt_nK (by omega)) (kd_wk lj_8) (by decide) rfl 1 (by decide) wd2 (fun _ h9 => h9) (by decide) rfl dX11_world_18 ?_
      refine lv_if_ge (tgt := 26) hx hb dX11_world_21 (by decide) (fun c_10 => ?_) (fun c_10 => ?_)
      · skip
        have h_11 := s_le (show (0 : Int32).toInt = 0 from rfl) (rfl : (i (25 + 1 * j_8) 1).toInt = _) c_10
        refine lv_aload_n hx hb dX11_world_26 rfl (lv_at hl 0 rfl) ?_
        refine h_getr (ci := 11) (C := RX11) (F := TX11) (N := 14) hx hb hts in11 hown hK hH (by decide) (rfl : kd 0 = 11) (by decide) rfl 4 (by decide) wd0 (fun _ h9 => h9) (by decide) rfl (t := 23) (hR 0 4 rfl) (by decide) dX11_world_27 ?_
        refine h_getr (ci := 7) (C := RX7) (F := TX7) (N := 11) hx hb hts in7 hown hK hH (by decide) (rfl : kd 23 = 7) (by decide) rfl 0 (by decide) wd1 (fun _ h9 => h9) (by decide) rfl (t := 24) (hR 23 0 rfl) (by decide) dX11_world_30 ?_
        refine lv_iload_n hx hb dX11_world_33 rfl (lv_at hl 1 rfl) ?_
        obtain ⟨j_12, ej_12, hj_12⟩ : ∃ j : Nat, (x).toNatClampNeg = j ∧ (j : Int) = x.toInt := ⟨_, rfl, by rw [s_cl (rfl : x.toInt = _)]; omega⟩
        have lj_12 : j_12 < 3 := by omega
        refine h_qald hx hb hK hH (by decide) (rfl : kd 24 = 28) (by decide) rfl (s_vin (N := 3) (rfl : x.toInt = _) (rfl : ln 24 = 3) (by omega) (by omega)) (t := (25 + 1 * j_12)) (by rw [ej_12]; exact (hR 24 j_12 rfl)) (lt_nK (by omega)) dX11_world_34 ?_
        refine h_getd (ci := 10) (C := RX10) (F := TX10) (N := 8) hx hb hts in10 hown hK hH (lt_nK (by omega)) (kd_wk lj_12) (by decide) rfl 5 (by decide) wd3 (fun _ h9 => h9) (by decide) rfl dX11_world_35 ?_
        refine lv_topd (fun z_13 ez_13 => ?_)
        have fz_13 : z_13 = (d (25 + 1 * j_12) 5) := ez_13.trans rfl
        exact sj_dret hx hb hr hlocks hS () trivial hH (sj_Knil hK) (Nat.le_of_ble_eq_true rfl) (Nat.le_of_ble_eq_true rfl) dX11_world_38
      · skip
        have h_14 := s_nle (show (0 : Int32).toInt = 0 from rfl) (rfl : (i (25 + 1 * j_8) 1).toInt = _) c_10
        refine lv_dconst0 hx hb dX11_world_24 ?_
        exact sj_dret hx hb hr hlocks hS () trivial hH (sj_Knil hK) (Nat.le_of_ble_eq_true rfl) (Nat.le_of_ble_eq_true rfl) dX11_world_25
set_option maxHeartbeats 2000000 in
set_option maxRecDepth 100000 in
theorem k_look (l : Launch) (D : va_G) (g : Nat → Nat) (ka : Nat → ClassId) (ad : Nat → Nat) (i : Nat → Nat → Int32) (r : Nat → Nat → Nat) (L : Nat → Nat → Int64) (d : Nat → Nat → UInt64) (x : Int32) (hO : OkI i) (hR : RS r) (sz : Nat)  : Met l yX11_look wsX11_look ({ frames := 0, cells := 0, slots := 0, locals := 0 }) (va_Pc [.ref (g 0), .int x] (sj_B D (hwc g ka i r L d) (hT ka) sz (gx ad (va_A (hwc g ka i r L d) sz)))) (sj_Qi (S := Unit) D (fun v u => True) (fun _ => hwc g ka i r L d) (fun _ => []) (va_A (hwc g ka i r L d) sz)) 0 0 (va_A (hwc g ka i r L d) sz) := by
  refine x_met (Ex := gx ad) (cc := cX11_look) (maxL := 2) (ret := (some .int)) (by decide) rfl (Nat.le_of_ble_eq_true rfl) ?_
  intro p e s m below meth c A ls hx hb hr hml hts hown hlocks hA hS hH hK hE hl
  have hown : s.vm.findClass RX11 = some m.cls := hown
  have in1 : ∀ w ∈ wsX10, w ∈ wsX11_look := (fun _ h => (List.mem_cons_of_mem _ (List.mem_append_left _ (List.mem_append_right _ h))))
  have in3 : ∀ w ∈ wsX30, w ∈ wsX11_look := (fun _ h => (List.mem_cons_of_mem _ (List.mem_append_left _ (List.mem_append_left _ (List.mem_append_right _ h)))))
  have in5 : ∀ w ∈ wsX50, w ∈ wsX11_look := (fun _ h => (List.mem_cons_of_mem _ (List.mem_append_right _ h)))
  have in7 : ∀ w ∈ wsX70, w ∈ wsX11_look := (fun _ h => (List.mem_cons_of_mem _ (List.mem_append_left _ (List.mem_append_left _ (List.mem_append_left _ (List.mem_append_right _ h))))))
  have in11 : ∀ w ∈ wsX110, w ∈ wsX11_look := (fun _ h => (List.mem_cons_of_mem _ (List.mem_append_left _ (List.mem_append_left _ (List.mem_append_left _ (List.mem_append_left _ (List.mem_append_right _ h)))))))
  have wd0 := hts (.fieldLink RX11 44 "StoryDesk" "run" "LStoryDesk$Run;") (List.mem_cons_of_mem _ (List.mem_append_left _ (List.mem_append_left _ (List.mem_append_left _ (List.mem_append_left _ (List.mem_append_left _ lm0))))))
  have wd1 := hts (.fieldLink RX11 88 "StoryDesk$Run" "underWay" "Z") (List.mem_cons_of_mem _ (List.mem_append_left _ (List.mem_append_left _ (List.mem_append_left _ (List.mem_append_left _ (List.mem_append_left _ lm1))))))
  have wd2 := hts (.fieldLink RX11 14 "StoryDesk" "text" "LStoryDesk$Letters;") (List.mem_cons_of_mem _ (List.mem_append_left _ (List.mem_append_left _ (List.mem_append_left _ (List.mem_append_left _ (List.mem_append_left _ lm2))))))
  have wd3 := hts (.fieldLink RX11 80 "StoryDesk$Letters" "length" "I") (List.mem_cons_of_mem _ (List.mem_append_left _ (List.mem_append_left _ (List.mem_append_left _ (List.mem_append_left _ (List.mem_append_left _ lm3))))))
  have wd4 := hts (.fieldLink RX11 30 "StoryDesk" "cases" "LStoryDesk$Cases;") (List.mem_cons_of_mem _ (List.mem_append_left _ (List.mem_append_left _ (List.mem_append_left _ (List.mem_append_left _ (List.mem_append_left _ lm4))))))
  have wd5 := hts (.fieldLink RX11 134 "StoryDesk$Cases" "count" "I") (List.mem_cons_of_mem _ (List.mem_append_left _ (List.mem_append_left _ (List.mem_append_left _ (List.mem_append_left _ (List.mem_append_left _ lm5))))))
  have wd6 := hts (.fieldLink RX11 114 "StoryDesk" "definitionCount" "I") (List.mem_cons_of_mem _ (List.mem_append_left _ (List.mem_append_left _ (List.mem_append_left _ (List.mem_append_left _ (List.mem_append_left _ lm6))))))
  have wd7 := hts (.fieldLink RX11 130 "StoryDesk" "hookCount" "I") (List.mem_cons_of_mem _ (List.mem_append_left _ (List.mem_append_left _ (List.mem_append_left _ (List.mem_append_left _ (List.mem_append_left _ lm7))))))
  have wd8 := hts (.fieldLink RX11 21 "StoryDesk" "reading" "LStoryDesk$Reading;") (List.mem_cons_of_mem _ (List.mem_append_left _ (List.mem_append_left _ (List.mem_append_left _ (List.mem_append_left _ (List.mem_append_left _ lm8))))))
  have wd9 := hts (.fieldLink RX11 266 "StoryDesk$Reading" "dialect" "I") (List.mem_cons_of_mem _ (List.mem_append_left _ (List.mem_append_left _ (List.mem_append_left _ (List.mem_append_left _ (List.mem_append_left _ lm9))))))
  have wd10 := hts (.fieldLink RX11 269 "StoryDesk$Run" "eventCount" "I") (List.mem_cons_of_mem _ (List.mem_append_left _ (List.mem_append_left _ (List.mem_append_left _ (List.mem_append_left _ (List.mem_append_left _ lm10))))))
  have wd11 := hts (.fieldLink RX11 102 "StoryDesk$Reading" "errors" "I") (List.mem_cons_of_mem _ (List.mem_append_left _ (List.mem_append_left _ (List.mem_append_left _ (List.mem_append_left _ (List.mem_append_left _ lm11))))))
  have hl : lv_has ls 2 [(0, .ref (g 0)), (1, .int x)] := hl
  have hK : va_K D vwCl (hT ka) s := hK
  have hg_1 := s_rng x
  refine lv_iload_n hx hb dX11_look_0 rfl (lv_at hl 1 rfl) ?_
  by_cases h_2 : (x).toInt < 0 ∨ 7 < (x).toInt
  · skip
    refine lv_tableOut (tgt := 114) hx hb dX11_look_1 h_2 (by decide) ?_
    refine lv_iconst (v := (-1)) hx hb dX11_look_114 (by decide) ?_
    exact sj_zret hx hb hr hlocks rfl hS () trivial hH (sj_Knil hK) (Nat.le_of_ble_eq_true rfl) (Nat.le_of_ble_eq_true rfl) dX11_look_115
  · skip
    rcases (show (x).toInt = 0 ∨ (x).toInt = 1 ∨ (x).toInt = 2 ∨ (x).toInt = 3 ∨ (x).toInt = 4 ∨ (x).toInt = 5 ∨ (x).toInt = 6 ∨ (x).toInt = 7 by omega) with hh_2 | hh_2 | hh_2 | hh_2 | hh_2 | hh_2 | hh_2 | hh_2
    · skip
      refine lv_tableIn (tgt := 48) hx hb dX11_look_1 (by omega) (by omega) (by rw [hh_2]; rfl) (by decide) ?_
      refine lv_aload_n hx hb dX11_look_48 rfl (lv_at hl 0 rfl) ?_
      refine h_getr (ci := 11) (C := RX11) (F := TX11) (N := 14) hx hb hts in11 hown hK hH (by decide) (rfl : kd 0 = 11) (by decide) rfl 4 (by decide) wd0 (fun _ h9 => h9) (by decide) rfl (t := 23) (hR 0 4 rfl) (by decide) dX11_look_49 ?_
      have bx_3 : (0 : Int) ≤ (i 23 8).toInt ∧ (i 23 8).toInt ≤ 1 := hO 23 8
      refine h_geti (ci := 7) (C := RX7) (F := TX7) (N := 11) hx hb hts in7 hown hK hH (by decide) (rfl : kd 23 = 7) (by decide) rfl 8 (by decide) wd1 (fun _ h9 => h9) (by decide) rfl dX11_look_52 ?_
      refine lv_if_eq (tgt := 62) hx hb dX11_look_55 (by decide) (fun c_4 => ?_) (fun c_4 => ?_)
      · skip
        have h_5 := s_eq (rfl : (i 23 8).toInt = _) (show (0 : Int32).toInt = 0 from rfl) c_4
        refine lv_iconst (v := 0) hx hb dX11_look_62 (by decide) ?_
        exact sj_zret hx hb hr hlocks rfl hS () trivial hH (sj_Knil hK) (Nat.le_of_ble_eq_true rfl) (Nat.le_of_ble_eq_true rfl) dX11_look_63
      · skip
        have h_6 := s_ne (rfl : (i 23 8).toInt = _) (show (0 : Int32).toInt = 0 from rfl) c_4
        refine lv_iconst (v := 1) hx hb dX11_look_58 (by decide) ?_
        refine lv_goto (tgt := 63) hx hb dX11_look_59 (by decide) ?_
        exact sj_zret hx hb hr hlocks rfl hS () trivial hH (sj_Knil hK) (Nat.le_of_ble_eq_true rfl) (Nat.le_of_ble_eq_true rfl) dX11_look_63
    · skip
      refine lv_tableIn (tgt := 64) hx hb dX11_look_1 (by omega) (by omega) (by rw [hh_2]; rfl) (by decide) ?_
      refine lv_aload_n hx hb dX11_look_64 rfl (lv_at hl 0 rfl) ?_
      refine h_getr (ci := 11) (C := RX11) (F := TX11) (N := 14) hx hb hts in11 hown hK hH (by decide) (rfl : kd 0 = 11) (by decide) rfl 0 (by decide) wd2 (fun _ h9 => h9) (by decide) rfl (t := 1) (hR 0 0 rfl) (by decide) dX11_look_65 ?_
      have bx_7 : (0 : Int) ≤ (i 1 1).toInt ∧ (i 1 1).toInt ≤ 480 := hO 1 1
      refine h_geti (ci := 3) (C := RX3) (F := TX3) (N := 2) hx hb hts in3 hown hK hH (by decide) (rfl : kd 1 = 3) (by decide) rfl 1 (by decide) wd3 (fun _ h9 => h9) (by decide) rfl dX11_look_68 ?_
      exact sj_zret hx hb hr hlocks rfl hS () trivial hH (sj_Knil hK) (Nat.le_of_ble_eq_true rfl) (Nat.le_of_ble_eq_true rfl) dX11_look_71
    · skip
      refine lv_tableIn (tgt := 72) hx hb dX11_look_1 (by omega) (by omega) (by rw [hh_2]; rfl) (by decide) ?_
      refine lv_aload_n hx hb dX11_look_72 rfl (lv_at hl 0 rfl) ?_
      refine h_getr (ci := 11) (C := RX11) (F := TX11) (N := 14) hx hb hts in11 hown hK hH (by decide) (rfl : kd 0 = 11) (by decide) rfl 2 (by decide) wd4 (fun _ h9 => h9) (by decide) rfl (t := 13) (hR 0 2 rfl) (by decide) dX11_look_73 ?_
      have bx_8 : (0 : Int) ≤ (i 13 4).toInt ∧ (i 13 4).toInt ≤ 24 := hO 13 4
      refine h_geti (ci := 1) (C := RX1) (F := TX1) (N := 5) hx hb hts in1 hown hK hH (by decide) (rfl : kd 13 = 1) (by decide) rfl 4 (by decide) wd5 (fun _ h9 => h9) (by decide) rfl dX11_look_76 ?_
      exact sj_zret hx hb hr hlocks rfl hS () trivial hH (sj_Knil hK) (Nat.le_of_ble_eq_true rfl) (Nat.le_of_ble_eq_true rfl) dX11_look_79
    · skip
      refine lv_tableIn (tgt := 80) hx hb dX11_look_1 (by omega) (by omega) (by rw [hh_2]; rfl) (by decide) ?_
      refine lv_aload_n hx hb dX11_look_80 rfl (lv_at hl 0 rfl) ?_
      have bx_9 : (0 : Int) ≤ (i 0 7).toInt ∧ (i 0 7).toInt ≤ 12 := hO 0 7
      refine h_geti (ci := 11) (C := RX11) (F := TX11) (N := 14) hx hb hts in11 hown hK hH (by decide) (rfl : kd 0 = 11) (by decide) rfl 7 (by decide) wd6 (fun _ h9 => h9) (by decide) rfl dX11_look_81 ?_
      exact sj_zret hx hb hr hlocks rfl hS () trivial hH (sj_Knil hK) (Nat.le_of_ble_eq_true rfl) (Nat.le_of_ble_eq_true rfl) dX11_look_84
    · skip
      refine lv_tableIn (tgt := 85) hx hb dX11_look_1 (by omega) (by omega) (by rw [hh_2]; rfl) (by decide) ?_
      refine lv_aload_n hx hb dX11_look_85 rfl (lv_at hl 0 rfl) ?_
      have bx_10 : (0 : Int) ≤ (i 0 11).toInt ∧ (i 0 11).toInt ≤ 8 := hO 0 11
      refine h_geti (ci := 11) (C := RX11) (F := TX11) (N := 14) hx hb hts in11 hown hK hH (by decide) (rfl : kd 0 = 11) (by decide) rfl 11 (by decide) wd7 (fun _ h9 => h9) (by decide) rfl dX11_look_86 ?_
      exact sj_zret hx hb hr hlocks rfl hS () trivial hH (sj_Knil hK) (Nat.le_of_ble_eq_true rfl) (Nat.le_of_ble_eq_true rfl) dX11_look_89
    · skip
      refine lv_tableIn (tgt := 90) hx hb dX11_look_1 (by omega) (by omega) (by rw [hh_2]; rfl) (by decide) ?_
      refine lv_aload_n hx hb dX11_look_90 rfl (lv_at hl 0 rfl) ?_
      refine h_getr (ci := 11) (C := RX11) (F := TX11) (N := 14) hx hb hts in11 hown hK hH (by decide) (rfl : kd 0 = 11) (by decide) rfl 1 (by decide) wd8 (fun _ h9 => h9) (by decide) rfl (t := 3) (hR 0 1 rfl) (by decide) dX11_look_91 ?_
      have bx_11 : (0 : Int) ≤ (i 3 1).toInt ∧ (i 3 1).toInt ≤ 1 := hO 3 1
      refine h_geti (ci := 5) (C := RX5) (F := TX5) (N := 19) hx hb hts in5 hown hK hH (by decide) (rfl : kd 3 = 5) (by decide) rfl 1 (by decide) wd9 (fun _ h9 => h9) (by decide) rfl dX11_look_94 ?_
      exact sj_zret hx hb hr hlocks rfl hS () trivial hH (sj_Knil hK) (Nat.le_of_ble_eq_true rfl) (Nat.le_of_ble_eq_true rfl) dX11_look_97
    · skip
      refine lv_tableIn (tgt := 98) hx hb dX11_look_1 (by omega) (by omega) (by rw [hh_2]; rfl) (by decide) ?_
      refine lv_aload_n hx hb dX11_look_98 rfl (lv_at hl 0 rfl) ?_
      refine h_getr (ci := 11) (C := RX11) (F := TX11) (N := 14) hx hb hts in11 hown hK hH (by decide) (rfl : kd 0 = 11) (by decide) rfl 4 (by decide) wd0 (fun _ h9 => h9) (by decide) rfl (t := 23) (hR 0 4 rfl) (by decide) dX11_look_99 ?_
      have bx_12 : (0 : Int) ≤ (i 23 10).toInt ∧ (i 23 10).toInt ≤ 2147483647 := hO 23 10
      refine h_geti (ci := 7) (C := RX7) (F := TX7) (N := 11) hx hb hts in7 hown hK hH (by decide) (rfl : kd 23 = 7) (by decide) rfl 10 (by decide) wd10 (fun _ h9 => h9) (by decide) rfl dX11_look_102 ?_
      exact sj_zret hx hb hr hlocks rfl hS () trivial hH (sj_Knil hK) (Nat.le_of_ble_eq_true rfl) (Nat.le_of_ble_eq_true rfl) dX11_look_105
    · skip
      refine lv_tableIn (tgt := 106) hx hb dX11_look_1 (by omega) (by omega) (by rw [hh_2]; rfl) (by decide) ?_
      refine lv_aload_n hx hb dX11_look_106 rfl (lv_at hl 0 rfl) ?_
      refine h_getr (ci := 11) (C := RX11) (F := TX11) (N := 14) hx hb hts in11 hown hK hH (by decide) (rfl : kd 0 = 11) (by decide) rfl 1 (by decide) wd8 (fun _ h9 => h9) (by decide) rfl (t := 3) (hR 0 1 rfl) (by decide) dX11_look_107 ?_
      have bx_13 : (0 : Int) ≤ (i 3 4).toInt ∧ (i 3 4).toInt ≤ 20 := hO 3 4
      refine h_geti (ci := 5) (C := RX5) (F := TX5) (N := 19) hx hb hts in5 hown hK hH (by decide) (rfl : kd 3 = 5) (by decide) rfl 4 (by decide) wd11 (fun _ h9 => h9) (by decide) rfl dX11_look_110 ?_
      exact sj_zret hx hb hr hlocks rfl hS () trivial hH (sj_Knil hK) (Nat.le_of_ble_eq_true rfl) (Nat.le_of_ble_eq_true rfl) dX11_look_113
