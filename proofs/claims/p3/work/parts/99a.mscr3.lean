theorem dX12_act_0 : decode cX12_act 0 = .ok (.iload 4, 2) := by decide +kernel
theorem dX12_act_2 : decode cX12_act 2 = .ok (.iconst 4, 1) := by decide +kernel
theorem dX12_act_3 : decode cX12_act 3 = .ok (.if_icmp .ge 12, 3) := by decide +kernel
theorem dX12_act_15 : decode cX12_act 15 = .ok (.iload 4, 2) := by decide +kernel
theorem dX12_act_17 : decode cX12_act 17 = .ok (.iconst 4, 1) := by decide +kernel
theorem dX12_act_18 : decode cX12_act 18 = .ok (.if_icmp .ne 17, 3) := by decide +kernel
theorem dX12_act_35 : decode cX12_act 35 = .ok (.iload 4, 2) := by decide +kernel
theorem dX12_act_37 : decode cX12_act 37 = .ok (.bipush 6, 2) := by decide +kernel
theorem dX12_act_39 : decode cX12_act 39 = .ok (.if_icmp .ne 5, 3) := by decide +kernel
theorem dX12_act_44 : decode cX12_act 44 = .ok (.iload 4, 2) := by decide +kernel
theorem dX12_act_46 : decode cX12_act 46 = .ok (.iconst 4, 1) := by decide +kernel
theorem dX12_act_47 : decode cX12_act 47 = .ok (.if_icmp .ge 12, 3) := by decide +kernel
theorem dX12_act_59 : decode cX12_act 59 = .ok (.iload 4, 2) := by decide +kernel
theorem dX12_act_61 : decode cX12_act 61 = .ok (.iconst 4, 1) := by decide +kernel
theorem dX12_act_62 : decode cX12_act 62 = .ok (.if_icmp .ne 22, 3) := by decide +kernel
theorem dX12_act_84 : decode cX12_act 84 = .ok (.dconst 0, 1) := by decide +kernel
theorem dX12_act_85 : decode cX12_act 85 = .ok (.dstore 6, 2) := by decide +kernel
theorem dX12_act_87 : decode cX12_act 87 = .ok (.iload 4, 2) := by decide +kernel
theorem dX12_act_89 : decode cX12_act 89 = .ok (.bipush 7, 2) := by decide +kernel
theorem dX12_act_91 : decode cX12_act 91 = .ok (.if_icmp .ne 5, 3) := by decide +kernel
theorem dX12_act_96 : decode cX12_act 96 = .ok (.iload 4, 2) := by decide +kernel
theorem dX12_act_98 : decode cX12_act 98 = .ok (.iconst 3, 1) := by decide +kernel
theorem dX12_act_99 : decode cX12_act 99 = .ok (.if_icmp .ne 21, 3) := by decide +kernel
theorem dX12_act_120 : decode cX12_act 120 = .ok (.iload 4, 2) := by decide +kernel
theorem dX12_act_122 : decode cX12_act 122 = .ok (.iconst 5, 1) := by decide +kernel
theorem dX12_act_123 : decode cX12_act 123 = .ok (.if_icmp .ge 54, 3) := by decide +kernel
theorem dX12_act_177 : decode cX12_act 177 = .ok (.iload 4, 2) := by decide +kernel
theorem dX12_act_179 : decode cX12_act 179 = .ok (.iconst 5, 1) := by decide +kernel
theorem dX12_act_180 : decode cX12_act 180 = .ok (.if_icmp .ne 16, 3) := by decide +kernel
theorem dX12_act_196 : decode cX12_act 196 = .ok (.aload_n 0, 1) := by decide +kernel
theorem dX12_act_197 : decode cX12_act 197 = .ok (.iload 5, 2) := by decide +kernel
theorem dX12_act_199 : decode cX12_act 199 = .ok (.invokevirtual 474, 3) := by decide +kernel
theorem dX12_act_202 : decode cX12_act 202 = .ok (.ifCond .eq 7, 3) := by decide +kernel
theorem dX12_act_209 : decode cX12_act 209 = .ok (.iconst 5, 1) := by decide +kernel
theorem dX12_act_210 : decode cX12_act 210 = .ok (.ireturn, 1) := by decide +kernel
theorem dX12_act_205 : decode cX12_act 205 = .ok (.iconst 0, 1) := by decide +kernel
theorem dX12_act_206 : decode cX12_act 206 = .ok (.goto 4, 3) := by decide +kernel
theorem dX12_act_183 : decode cX12_act 183 = .ok (.aload_n 0, 1) := by decide +kernel
theorem dX12_act_184 : decode cX12_act 184 = .ok (.iload_n 1, 1) := by decide +kernel
theorem dX12_act_185 : decode cX12_act 185 = .ok (.iload_n 2, 1) := by decide +kernel
theorem dX12_act_186 : decode cX12_act 186 = .ok (.iload_n 3, 1) := by decide +kernel
theorem dX12_act_187 : decode cX12_act 187 = .ok (.invokevirtual 470, 3) := by decide +kernel
theorem dX12_act_190 : decode cX12_act 190 = .ok (.ifCond .eq 19, 3) := by decide +kernel
theorem dX12_act_193 : decode cX12_act 193 = .ok (.goto 12, 3) := by decide +kernel
theorem dX12_act_94 : decode cX12_act 94 = .ok (.iconst 2, 1) := by decide +kernel
theorem dX12_act_95 : decode cX12_act 95 = .ok (.ireturn, 1) := by decide +kernel
theorem dX12_act_42 : decode cX12_act 42 = .ok (.iconst 5, 1) := by decide +kernel
theorem dX12_act_43 : decode cX12_act 43 = .ok (.ireturn, 1) := by decide +kernel
theorem dX12_act_21 : decode cX12_act 21 = .ok (.iload 5, 2) := by decide +kernel
theorem dX12_act_23 : decode cX12_act 23 = .ok (.ifCond .lt 19, 3) := by decide +kernel
theorem dX12_act_26 : decode cX12_act 26 = .ok (.iload 5, 2) := by decide +kernel
theorem dX12_act_28 : decode cX12_act 28 = .ok (.aload_n 0, 1) := by decide +kernel
theorem dX12_act_29 : decode cX12_act 29 = .ok (.getfield 348, 3) := by decide +kernel
theorem dX12_act_32 : decode cX12_act 32 = .ok (.if_icmp .ge 10, 3) := by decide +kernel
theorem dX12_act_65 : decode cX12_act 65 = .ok (.aload_n 0, 1) := by decide +kernel
theorem dX12_act_66 : decode cX12_act 66 = .ok (.getfield 357, 3) := by decide +kernel
theorem dX12_act_69 : decode cX12_act 69 = .ok (.iload 5, 2) := by decide +kernel
theorem dX12_act_71 : decode cX12_act 71 = .ok (.iaload, 1) := by decide +kernel
theorem dX12_act_72 : decode cX12_act 72 = .ok (.aload_n 0, 1) := by decide +kernel
theorem dX12_act_73 : decode cX12_act 73 = .ok (.getfield 354, 3) := by decide +kernel
theorem dX12_act_76 : decode cX12_act 76 = .ok (.iload 5, 2) := by decide +kernel
theorem dX12_act_78 : decode cX12_act 78 = .ok (.iaload, 1) := by decide +kernel
theorem dX12_act_79 : decode cX12_act 79 = .ok (.isub, 1) := by decide +kernel
theorem dX12_act_80 : decode cX12_act 80 = .ok (.i2d, 1) := by decide +kernel
theorem dX12_act_81 : decode cX12_act 81 = .ok (.goto 4, 3) := by decide +kernel
theorem dX12_act_126 : decode cX12_act 126 = .ok (.aload_n 0, 1) := by decide +kernel
theorem dX12_act_127 : decode cX12_act 127 = .ok (.iload_n 1, 1) := by decide +kernel
theorem dX12_act_128 : decode cX12_act 128 = .ok (.iload 4, 2) := by decide +kernel
theorem dX12_act_130 : decode cX12_act 130 = .ok (.ifCond .ne 8, 3) := by decide +kernel
theorem dX12_act_138 : decode cX12_act 138 = .ok (.iload 4, 2) := by decide +kernel
theorem dX12_act_140 : decode cX12_act 140 = .ok (.iconst 2, 1) := by decide +kernel
theorem dX12_act_141 : decode cX12_act 141 = .ok (.if_icmp .ne 15, 3) := by decide +kernel
theorem dX12_act_156 : decode cX12_act 156 = .ok (.aload_n 0, 1) := by decide +kernel
theorem dX12_act_157 : decode cX12_act 157 = .ok (.getfield 442, 3) := by decide +kernel
theorem dX12_act_160 : decode cX12_act 160 = .ok (.iload_n 1, 1) := by decide +kernel
theorem dX12_act_161 : decode cX12_act 161 = .ok (.daload, 1) := by decide +kernel
theorem dX12_act_162 : decode cX12_act 162 = .ok (.dload 6, 2) := by decide +kernel
theorem dX12_act_164 : decode cX12_act 164 = .ok (.dadd, 1) := by decide +kernel
theorem dX12_act_165 : decode cX12_act 165 = .ok (.invokevirtual 453, 3) := by decide +kernel
theorem dX12_act_168 : decode cX12_act 168 = .ok (.ifCond .eq 7, 3) := by decide +kernel
theorem dX12_act_175 : decode cX12_act 175 = .ok (.iconst 5, 1) := by decide +kernel
theorem dX12_act_176 : decode cX12_act 176 = .ok (.ireturn, 1) := by decide +kernel
theorem dX12_act_171 : decode cX12_act 171 = .ok (.iconst 0, 1) := by decide +kernel
theorem dX12_act_172 : decode cX12_act 172 = .ok (.goto 4, 3) := by decide +kernel
theorem dX12_act_6 : decode cX12_act 6 = .ok (.aload_n 0, 1) := by decide +kernel
theorem dX12_act_7 : decode cX12_act 7 = .ok (.iload 5, 2) := by decide +kernel
theorem dX12_act_9 : decode cX12_act 9 = .ok (.invokevirtual 463, 3) := by decide +kernel
theorem dX12_act_12 : decode cX12_act 12 = .ok (.ifCond .eq 30, 3) := by decide +kernel
theorem dX12_act_50 : decode cX12_act 50 = .ok (.aload_n 0, 1) := by decide +kernel
theorem dX12_act_51 : decode cX12_act 51 = .ok (.iload 5, 2) := by decide +kernel
theorem dX12_act_53 : decode cX12_act 53 = .ok (.invokevirtual 466, 3) := by decide +kernel
theorem dX12_act_56 : decode cX12_act 56 = .ok (.goto 29, 3) := by decide +kernel
theorem dX12_act_144 : decode cX12_act 144 = .ok (.aload_n 0, 1) := by decide +kernel
theorem dX12_act_145 : decode cX12_act 145 = .ok (.getfield 442, 3) := by decide +kernel
theorem dX12_act_148 : decode cX12_act 148 = .ok (.iload_n 1, 1) := by decide +kernel
theorem dX12_act_149 : decode cX12_act 149 = .ok (.daload, 1) := by decide +kernel
theorem dX12_act_150 : decode cX12_act 150 = .ok (.dload 6, 2) := by decide +kernel
theorem dX12_act_152 : decode cX12_act 152 = .ok (.dmul, 1) := by decide +kernel
theorem dX12_act_153 : decode cX12_act 153 = .ok (.goto 12, 3) := by decide +kernel
theorem dX12_act_133 : decode cX12_act 133 = .ok (.dload 6, 2) := by decide +kernel
theorem dX12_act_135 : decode cX12_act 135 = .ok (.goto 30, 3) := by decide +kernel
theorem dX12_act_102 : decode cX12_act 102 = .ok (.aload_n 0, 1) := by decide +kernel
theorem dX12_act_103 : decode cX12_act 103 = .ok (.getfield 442, 3) := by decide +kernel
theorem dX12_act_106 : decode cX12_act 106 = .ok (.iload_n 1, 1) := by decide +kernel
theorem dX12_act_107 : decode cX12_act 107 = .ok (.daload, 1) := by decide +kernel
theorem dX12_act_108 : decode cX12_act 108 = .ok (.dload 6, 2) := by decide +kernel
theorem dX12_act_110 : decode cX12_act 110 = .ok (.dcmp .l, 1) := by decide +kernel
theorem dX12_act_111 : decode cX12_act 111 = .ok (.ifCond .ne 7, 3) := by decide +kernel
theorem dX12_act_118 : decode cX12_act 118 = .ok (.iconst 5, 1) := by decide +kernel
theorem dX12_act_119 : decode cX12_act 119 = .ok (.ireturn, 1) := by decide +kernel
theorem dX12_act_114 : decode cX12_act 114 = .ok (.iconst 0, 1) := by decide +kernel
theorem dX12_act_115 : decode cX12_act 115 = .ok (.goto 4, 3) := by decide +kernel
theorem gw_X12_waits : wsX12_waits.all goodWord = true := by decide +kernel
theorem gX12_act_X12_waits : GoodIn wsX12_act (wsV RX12 474 RX12 yX12_waits wsX12_waits) := goodIn_app (goodIn_sub (List.forall_mem_cons.mpr ⟨(List.mem_cons_of_mem _ (List.mem_append_left _ (List.mem_append_right _ (List.mem_append_right _ (List.mem_append_left _ lm22))))), List.forall_mem_cons.mpr ⟨(List.mem_cons_of_mem _ (List.mem_append_left _ (List.mem_append_right _ (List.mem_append_right _ (List.mem_append_left _ lm23))))), List.forall_mem_cons.mpr ⟨(List.mem_cons_of_mem _ (List.mem_append_left _ (List.mem_append_right _ (List.mem_append_right _ (List.mem_append_right _ lm0))))), List.forall_mem_cons.mpr ⟨(List.mem_cons_of_mem _ (List.mem_append_left _ (List.mem_append_left _ lm7))), (fun _ h => absurd h List.not_mem_nil)⟩⟩⟩⟩) (by decide +kernel)) (goodIn_sub (by unfold wsX12_waits; exact List.forall_mem_cons.mpr ⟨(List.mem_cons_of_mem _ (List.mem_append_left _ (List.mem_append_right _ (List.mem_append_right _ (List.mem_append_right _ lm1))))), List.forall_mem_append.mpr ⟨List.forall_mem_cons.mpr ⟨(List.mem_cons_of_mem _ (List.mem_append_left _ (List.mem_append_right _ (List.mem_append_right _ (List.mem_append_right _ lm2))))), List.forall_mem_cons.mpr ⟨(List.mem_cons_of_mem _ (List.mem_append_left _ (List.mem_append_right _ (List.mem_append_right _ (List.mem_append_right _ lm3))))), (fun _ h => absurd h List.not_mem_nil)⟩⟩, (fun _ h => (List.mem_cons_of_mem _ (List.mem_append_right _ h)))⟩⟩) gw_X12_waits)
theorem gw_X12_sum : wsX12_sum.all goodWord = true := by decide +kernel
theorem gX12_act_X12_sum : GoodIn wsX12_act (wsV RX12 470 RX12 yX12_sum wsX12_sum) := goodIn_app (goodIn_sub (List.forall_mem_cons.mpr ⟨(List.mem_cons_of_mem _ (List.mem_append_left _ (List.mem_append_right _ (List.mem_append_left _ lm4)))), List.forall_mem_cons.mpr ⟨(List.mem_cons_of_mem _ (List.mem_append_left _ (List.mem_append_right _ (List.mem_append_left _ lm5)))), List.forall_mem_cons.mpr ⟨(List.mem_cons_of_mem _ (List.mem_append_left _ (List.mem_append_right _ (List.mem_append_left _ lm6)))), List.forall_mem_cons.mpr ⟨(List.mem_cons_of_mem _ (List.mem_append_left _ (List.mem_append_left _ lm7))), (fun _ h => absurd h List.not_mem_nil)⟩⟩⟩⟩) (by decide +kernel)) (goodIn_sub (by unfold wsX12_sum; exact List.forall_mem_cons.mpr ⟨(List.mem_cons_of_mem _ (List.mem_append_left _ (List.mem_append_right _ (List.mem_append_left _ lm7)))), List.forall_mem_append.mpr ⟨List.forall_mem_append.mpr ⟨List.forall_mem_cons.mpr ⟨(List.mem_cons_of_mem _ (List.mem_append_left _ (List.mem_append_right _ (List.mem_append_left _ lm8)))), List.forall_mem_cons.mpr ⟨(List.mem_cons_of_mem _ (List.mem_append_left _ (List.mem_append_right _ (List.mem_append_left _ lm9)))), List.forall_mem_cons.mpr ⟨(List.mem_cons_of_mem _ (List.mem_append_left _ (List.mem_append_right _ (List.mem_append_left _ lm10)))), List.forall_mem_cons.mpr ⟨(List.mem_cons_of_mem _ (List.mem_append_left _ (List.mem_append_right _ (List.mem_append_left _ lm11)))), List.forall_mem_cons.mpr ⟨(List.mem_cons_of_mem _ (List.mem_append_left _ (List.mem_append_left _ lm3))), List.forall_mem_cons.mpr ⟨(List.mem_cons_of_mem _ (List.mem_append_left _ (List.mem_append_right _ (List.mem_append_left _ lm12)))), List.forall_mem_cons.mpr ⟨(List.mem_cons_of_mem _ (List.mem_append_left _ (List.mem_append_right _ (List.mem_append_left _ lm13)))), List.forall_mem_cons.mpr ⟨(List.mem_cons_of_mem _ (List.mem_append_left _ (List.mem_append_right _ (List.mem_append_left _ lm14)))), List.forall_mem_cons.mpr ⟨(List.mem_cons_of_mem _ (List.mem_append_left _ (List.mem_append_left _ lm7))), List.forall_mem_cons.mpr ⟨(List.mem_cons_of_mem _ (List.mem_append_left _ (List.mem_append_right _ (List.mem_append_left _ lm15)))), List.forall_mem_cons.mpr ⟨(List.mem_cons_of_mem _ (List.mem_append_left _ (List.mem_append_right _ (List.mem_append_left _ lm16)))), List.forall_mem_cons.mpr ⟨(List.mem_cons_of_mem _ (List.mem_append_left _ (List.mem_append_right _ (List.mem_append_left _ lm17)))), List.forall_mem_cons.mpr ⟨(List.mem_cons_of_mem _ (List.mem_append_left _ (List.mem_append_right _ (List.mem_append_left _ lm18)))), List.forall_mem_cons.mpr ⟨(List.mem_cons_of_mem _ (List.mem_append_left _ (List.mem_append_right _ (List.mem_append_left _ lm19)))), List.forall_mem_cons.mpr ⟨(List.mem_cons_of_mem _ (List.mem_append_left _ (List.mem_append_right _ (List.mem_append_left _ lm20)))), List.forall_mem_cons.mpr ⟨(List.mem_cons_of_mem _ (List.mem_append_left _ (List.mem_append_right _ (List.mem_append_left _ lm21)))), List.forall_mem_cons.mpr ⟨(List.mem_cons_of_mem _ (List.mem_append_left _ (List.mem_append_right _ (List.mem_append_left _ lm22)))), List.forall_mem_cons.mpr ⟨(List.mem_cons_of_mem _ (List.mem_append_left _ (List.mem_append_right _ (List.mem_append_left _ lm23)))), List.forall_mem_cons.mpr ⟨(List.mem_cons_of_mem _ (List.mem_append_left _ (List.mem_append_right _ (List.mem_append_right _ (List.mem_append_left _ lm0))))), List.forall_mem_cons.mpr ⟨(List.mem_cons_of_mem _ (List.mem_append_left _ (List.mem_append_right _ (List.mem_append_right _ (List.mem_append_left _ lm1))))), List.forall_mem_cons.mpr ⟨(List.mem_cons_of_mem _ (List.mem_append_left _ (List.mem_append_right _ (List.mem_append_right _ (List.mem_append_left _ lm2))))), List.forall_mem_cons.mpr ⟨(List.mem_cons_of_mem _ (List.mem_append_left _ (List.mem_append_right _ (List.mem_append_right _ (List.mem_append_left _ lm3))))), List.forall_mem_cons.mpr ⟨(List.mem_cons_of_mem _ (List.mem_append_left _ (List.mem_append_right _ (List.mem_append_right _ (List.mem_append_left _ lm4))))), List.forall_mem_cons.mpr ⟨(List.mem_cons_of_mem _ (List.mem_append_left _ (List.mem_append_right _ (List.mem_append_right _ (List.mem_append_left _ lm5))))), (fun _ h => absurd h List.not_mem_nil)⟩⟩⟩⟩⟩⟩⟩⟩⟩⟩⟩⟩⟩⟩⟩⟩⟩⟩⟩⟩⟩⟩⟩⟩, List.forall_mem_append.mpr ⟨List.forall_mem_cons.mpr ⟨(List.mem_cons_of_mem _ (List.mem_append_left _ (List.mem_append_right _ (List.mem_append_right _ (List.mem_append_left _ lm6))))), List.forall_mem_cons.mpr ⟨(List.mem_cons_of_mem _ (List.mem_append_left _ (List.mem_append_right _ (List.mem_append_right _ (List.mem_append_left _ lm7))))), List.forall_mem_cons.mpr ⟨(List.mem_cons_of_mem _ (List.mem_append_left _ (List.mem_append_right _ (List.mem_append_right _ (List.mem_append_left _ lm8))))), List.forall_mem_cons.mpr ⟨(List.mem_cons_of_mem _ (List.mem_append_left _ (List.mem_append_right _ (List.mem_append_right _ (List.mem_append_left _ lm9))))), List.forall_mem_cons.mpr ⟨(List.mem_cons_of_mem _ (List.mem_append_left _ (List.mem_append_left _ lm14))), List.forall_mem_cons.mpr ⟨(List.mem_cons_of_mem _ (List.mem_append_left _ (List.mem_append_right _ (List.mem_append_right _ (List.mem_append_left _ lm10))))), List.forall_mem_cons.mpr ⟨(List.mem_cons_of_mem _ (List.mem_append_left _ (List.mem_append_right _ (List.mem_append_right _ (List.mem_append_left _ lm11))))), List.forall_mem_cons.mpr ⟨(List.mem_cons_of_mem _ (List.mem_append_left _ (List.mem_append_right _ (List.mem_append_right _ (List.mem_append_left _ lm12))))), List.forall_mem_cons.mpr ⟨(List.mem_cons_of_mem _ (List.mem_append_left _ (List.mem_append_right _ (List.mem_append_right _ (List.mem_append_left _ lm13))))), List.forall_mem_cons.mpr ⟨(List.mem_cons_of_mem _ (List.mem_append_left _ (List.mem_append_right _ (List.mem_append_right _ (List.mem_append_left _ lm14))))), List.forall_mem_cons.mpr ⟨(List.mem_cons_of_mem _ (List.mem_append_left _ (List.mem_append_right _ (List.mem_append_right _ (List.mem_append_left _ lm15))))), List.forall_mem_cons.mpr ⟨(List.mem_cons_of_mem _ (List.mem_append_left _ (List.mem_append_right _ (List.mem_append_right _ (List.mem_append_left _ lm16))))), List.forall_mem_cons.mpr ⟨(List.mem_cons_of_mem _ (List.mem_append_left _ (List.mem_append_right _ (List.mem_append_right _ (List.mem_append_left _ lm17))))), List.forall_mem_cons.mpr ⟨(List.mem_cons_of_mem _ (List.mem_append_left _ (List.mem_append_right _ (List.mem_append_right _ (List.mem_append_left _ lm18))))), List.forall_mem_cons.mpr ⟨(List.mem_cons_of_mem _ (List.mem_append_left _ (List.mem_append_right _ (List.mem_append_right _ (List.mem_append_left _ lm19))))), List.forall_mem_cons.mpr ⟨(List.mem_cons_of_mem _ (List.mem_append_left _ (List.mem_append_right _ (List.mem_append_right _ (List.mem_append_left _ lm20))))), List.forall_mem_cons.mpr ⟨(List.mem_cons_of_mem _ (List.mem_append_left _ (List.mem_append_right _ (List.mem_append_right _ (List.mem_append_left _ lm21))))), List.forall_mem_cons.mpr ⟨(List.mem_cons_of_mem _ (List.mem_append_left _ (List.mem_append_left _ lm18))), List.forall_mem_cons.mpr ⟨(List.mem_cons_of_mem _ (List.mem_append_left _ (List.mem_append_left _ lm19))), List.forall_mem_cons.mpr ⟨(List.mem_cons_of_mem _ (List.mem_append_left _ (List.mem_append_left _ lm20))), List.forall_mem_cons.mpr ⟨(List.mem_cons_of_mem _ (List.mem_append_left _ (List.mem_append_left _ lm21))), List.forall_mem_cons.mpr ⟨(List.mem_cons_of_mem _ (List.mem_append_left _ (List.mem_append_left _ lm22))), List.forall_mem_cons.mpr ⟨(List.mem_cons_of_mem _ (List.mem_append_left _ (List.mem_append_left _ lm23))), List.forall_mem_cons.mpr ⟨(List.mem_cons_of_mem _ (List.mem_append_left _ (List.mem_append_right _ (List.mem_append_left _ lm0)))), (fun _ h => absurd h List.not_mem_nil)⟩⟩⟩⟩⟩⟩⟩⟩⟩⟩⟩⟩⟩⟩⟩⟩⟩⟩⟩⟩⟩⟩⟩⟩, List.forall_mem_cons.mpr ⟨(List.mem_cons_of_mem _ (List.mem_append_left _ (List.mem_append_right _ (List.mem_append_left _ lm1)))), List.forall_mem_cons.mpr ⟨(List.mem_cons_of_mem _ (List.mem_append_left _ (List.mem_append_right _ (List.mem_append_left _ lm2)))), List.forall_mem_cons.mpr ⟨(List.mem_cons_of_mem _ (List.mem_append_left _ (List.mem_append_right _ (List.mem_append_left _ lm3)))), (fun _ h => absurd h List.not_mem_nil)⟩⟩⟩⟩⟩, (fun _ h => (List.mem_cons_of_mem _ (List.mem_append_right _ h)))⟩⟩) gw_X12_sum)
theorem gX12_act_X12_becomes : GoodIn wsX12_act (wsV RX12 453 RX12 yX12_becomes wsX12_becomes) := goodIn_app (goodIn_sub (List.forall_mem_cons.mpr ⟨(List.mem_cons_of_mem _ (List.mem_append_left _ (List.mem_append_left _ lm22))), List.forall_mem_cons.mpr ⟨(List.mem_cons_of_mem _ (List.mem_append_left _ (List.mem_append_left _ lm23))), List.forall_mem_cons.mpr ⟨(List.mem_cons_of_mem _ (List.mem_append_left _ (List.mem_append_right _ (List.mem_append_left _ lm0)))), List.forall_mem_cons.mpr ⟨(List.mem_cons_of_mem _ (List.mem_append_left _ (List.mem_append_left _ lm7))), (fun _ h => absurd h List.not_mem_nil)⟩⟩⟩⟩) (by decide +kernel)) (goodIn_sub (by unfold wsX12_becomes; exact List.forall_mem_cons.mpr ⟨(List.mem_cons_of_mem _ (List.mem_append_left _ (List.mem_append_right _ (List.mem_append_left _ lm1)))), List.forall_mem_append.mpr ⟨List.forall_mem_cons.mpr ⟨(List.mem_cons_of_mem _ (List.mem_append_left _ (List.mem_append_left _ lm3))), List.forall_mem_cons.mpr ⟨(List.mem_cons_of_mem _ (List.mem_append_left _ (List.mem_append_right _ (List.mem_append_left _ lm2)))), List.forall_mem_cons.mpr ⟨(List.mem_cons_of_mem _ (List.mem_append_left _ (List.mem_append_right _ (List.mem_append_left _ lm3)))), (fun _ h => absurd h List.not_mem_nil)⟩⟩⟩, (fun _ h => (List.mem_cons_of_mem _ (List.mem_append_right _ h)))⟩⟩) gw_X12_becomes)
theorem gw_X12_isNumber : wsX12_isNumber.all goodWord = true := by decide +kernel
theorem gX12_act_X12_isNumber : GoodIn wsX12_act (wsV RX12 463 RX12 yX12_isNumber wsX12_isNumber) := goodIn_app (goodIn_sub (List.forall_mem_cons.mpr ⟨(List.mem_cons_of_mem _ (List.mem_append_left _ (List.mem_append_left _ lm4))), List.forall_mem_cons.mpr ⟨(List.mem_cons_of_mem _ (List.mem_append_left _ (List.mem_append_left _ lm5))), List.forall_mem_cons.mpr ⟨(List.mem_cons_of_mem _ (List.mem_append_left _ (List.mem_append_left _ lm6))), List.forall_mem_cons.mpr ⟨(List.mem_cons_of_mem _ (List.mem_append_left _ (List.mem_append_left _ lm7))), (fun _ h => absurd h List.not_mem_nil)⟩⟩⟩⟩) (by decide +kernel)) (goodIn_sub (by unfold wsX12_isNumber; exact List.forall_mem_cons.mpr ⟨(List.mem_cons_of_mem _ (List.mem_append_left _ (List.mem_append_left _ lm8))), List.forall_mem_append.mpr ⟨List.forall_mem_cons.mpr ⟨(List.mem_cons_of_mem _ (List.mem_append_left _ (List.mem_append_left _ lm0))), List.forall_mem_cons.mpr ⟨(List.mem_cons_of_mem _ (List.mem_append_left _ (List.mem_append_left _ lm9))), (fun _ h => absurd h List.not_mem_nil)⟩⟩, (fun _ h => (List.mem_cons_of_mem _ (List.mem_append_right _ h)))⟩⟩) gw_X12_isNumber)
theorem gw_X12_argumentValue : wsX12_argumentValue.all goodWord = true := by decide +kernel
theorem gX12_act_X12_argumentValue : GoodIn wsX12_act (wsV RX12 466 RX12 yX12_argumentValue wsX12_argumentValue) := goodIn_app (goodIn_sub (List.forall_mem_cons.mpr ⟨(List.mem_cons_of_mem _ (List.mem_append_left _ (List.mem_append_left _ lm10))), List.forall_mem_cons.mpr ⟨(List.mem_cons_of_mem _ (List.mem_append_left _ (List.mem_append_left _ lm11))), List.forall_mem_cons.mpr ⟨(List.mem_cons_of_mem _ (List.mem_append_left _ (List.mem_append_left _ lm12))), List.forall_mem_cons.mpr ⟨(List.mem_cons_of_mem _ (List.mem_append_left _ (List.mem_append_left _ lm7))), (fun _ h => absurd h List.not_mem_nil)⟩⟩⟩⟩) (by decide +kernel)) (goodIn_sub (by unfold wsX12_argumentValue; exact List.forall_mem_cons.mpr ⟨(List.mem_cons_of_mem _ (List.mem_append_left _ (List.mem_append_left _ lm13))), List.forall_mem_append.mpr ⟨List.forall_mem_cons.mpr ⟨(List.mem_cons_of_mem _ (List.mem_append_left _ (List.mem_append_left _ lm2))), List.forall_mem_cons.mpr ⟨(List.mem_cons_of_mem _ (List.mem_append_left _ (List.mem_append_left _ lm1))), List.forall_mem_cons.mpr ⟨(List.mem_cons_of_mem _ (List.mem_append_left _ (List.mem_append_left _ lm9))), List.forall_mem_cons.mpr ⟨(List.mem_cons_of_mem _ (List.mem_append_left _ (List.mem_append_left _ lm14))), List.forall_mem_cons.mpr ⟨(List.mem_cons_of_mem _ (List.mem_append_left _ (List.mem_append_left _ lm15))), List.forall_mem_cons.mpr ⟨(List.mem_cons_of_mem _ (List.mem_append_left _ (List.mem_append_left _ lm16))), List.forall_mem_cons.mpr ⟨(List.mem_cons_of_mem _ (List.mem_append_left _ (List.mem_append_left _ lm17))), List.forall_mem_cons.mpr ⟨(List.mem_cons_of_mem _ (List.mem_append_left _ (List.mem_append_left _ lm18))), List.forall_mem_cons.mpr ⟨(List.mem_cons_of_mem _ (List.mem_append_left _ (List.mem_append_left _ lm19))), List.forall_mem_cons.mpr ⟨(List.mem_cons_of_mem _ (List.mem_append_left _ (List.mem_append_left _ lm20))), List.forall_mem_cons.mpr ⟨(List.mem_cons_of_mem _ (List.mem_append_left _ (List.mem_append_left _ lm7))), List.forall_mem_cons.mpr ⟨(List.mem_cons_of_mem _ (List.mem_append_left _ (List.mem_append_left _ lm21))), (fun _ h => absurd h List.not_mem_nil)⟩⟩⟩⟩⟩⟩⟩⟩⟩⟩⟩⟩, (fun _ h => (List.mem_cons_of_mem _ (List.mem_append_right _ h)))⟩⟩) gw_X12_argumentValue)
set_option maxHeartbeats 2000000 in
set_option maxRecDepth 100000 in
theorem m_act (l : Launch) (D : va_G) (g : Nat → Nat) (ka : Nat → ClassId) (ad : Nat → Nat) (i : Nat → Nat → Int32) (r : Nat → Nat → Nat) (L : Nat → Nat → Int64) (d : Nat → Nat → UInt64) (x : Int32) (y : Int32) (z : Int32) (v4 : Int32) (v5 : Int32) (hO : OkI i) (hR : RS r) (sz : Nat) (hx0 : 0 ≤ x.toInt) (hx1 : x.toInt ≤ 2) (hy0 : 0 ≤ y.toInt) (hy1 : y.toInt ≤ 23) (hz0 : -1 ≤ z.toInt) (hz1 : z.toInt ≤ 29) (hc0 : 0 ≤ v4.toInt) (hc1 : v4.toInt ≤ 8) (hnr : NR i) (haq : AQ i (bfL i)) (hza : 0 ≤ z.toInt ∨ (i 36 57).toInt = 0) (hfw : wfP d x.toInt (0 ≤ z.toInt)) : Met l yX12_act wsX12_act ({ frames := 4, cells := 0, slots := 0, locals := 112 }) (va_Pc [.ref (g 36), .int x, .int y, .int z, .int v4, .int v5] (sj_B D (hwc g ka i r L d) (hT ka) sz (gx ad (va_A (hwc g ka i r L d) sz)))) (sj_Qi (S := (Nat → Nat → Int32) × (Nat → Nat → UInt64)) D (fun v u => OkI u.1 ∧ (∀ a b, ¬ ((a = 36 ∧ (b = 40 ∨ b = 74 ∨ b = 75)) ∨ a = 402) → u.1 a b = i a b) ∧ (∀ a, ¬ (a = 425) → u.2 a = d a) ∧ ((0 : Int) ≤ v.toInt ∧ v.toInt ≤ 5) ∧ (wfP u.2 x.toInt (v.toInt = 0 ∧ 0 ≤ z.toInt)) ∧ (w1P d u.2 x.toInt) ∧ (d0P d u.2 x.toInt z.toInt)) (fun u => hwc g ka u.1 r L u.2) (fun _ => []) (va_A (hwc g ka i r L d) sz)) 0 0 (va_A (hwc g ka i r L d) sz) := by
  refine x_met (Ex := gx ad) (cc := cX12_act) (maxL := 8) (ret := (some .int)) (by decide) rfl (Nat.le_of_ble_eq_true rfl) ?_
  intro p e s m below meth c A ls hx hb hr hml hts hown hlocks hA hS hH hK hE hl
  have hown : s.vm.findClass RX12 = some m.cls := hown
  have in12 : ∀ w ∈ wsX120, w ∈ wsX12_act := (fun _ h => (List.mem_cons_of_mem _ (List.mem_append_right _ h)))
  have wd0 := hts (.fieldLink RX12 348 "StoryDeskModel" "arguments" "I") (List.mem_cons_of_mem _ (List.mem_append_left _ (List.mem_append_left _ lm0)))
  have wd1 := hts (.fieldLink RX12 357 "StoryDeskModel" "argumentTo" "[I") (List.mem_cons_of_mem _ (List.mem_append_left _ (List.mem_append_left _ lm1)))
  have wd2 := hts (.fieldLink RX12 354 "StoryDeskModel" "argumentFrom" "[I") (List.mem_cons_of_mem _ (List.mem_append_left _ (List.mem_append_left _ lm2)))
  have wd3 := hts (.fieldLink RX12 442 "StoryDeskModel" "world" "[D") (List.mem_cons_of_mem _ (List.mem_append_left _ (List.mem_append_left _ lm3)))
  have hl : lv_has ls 8 [(0, .ref (g 36)), (1, .int x), (2, .int y), (3, .int z), (4, .int v4), (5, .int v5)] := hl
  have hK : va_K D vwCl (hT ka) s := hK
  have hg_1 := s_rng v5
  have hb57 : (0 : Int) ≤ (i 36 57).toInt ∧ (i 36 57).toInt ≤ 6 := hO 36 57
  refine lv_iload hx hb dX12_act_0 (lv_at hl 4 rfl) ?_
  refine lv_iconst (v := 4) hx hb dX12_act_2 (by decide) ?_
  refine lv_icmp_ge (tgt := 15) hx hb dX12_act_3 (by decide) (fun c_2 => ?_) (fun c_2 => ?_)
  · skip
    have h_3 := s_le (show (4 : Int32).toInt = 4 from rfl) (rfl : v4.toInt = _) c_2
    refine lv_iload hx hb dX12_act_15 (lv_at hl 4 rfl) ?_
    refine lv_iconst (v := 4) hx hb dX12_act_17 (by decide) ?_
    refine lv_icmp_ne (tgt := 35) hx hb dX12_act_18 (by decide) (fun c_4 => ?_) (fun c_4 => ?_)
    · skip
      have h_5 := s_ne (rfl : v4.toInt = _) (show (4 : Int32).toInt = 4 from rfl) c_4
      refine lv_iload hx hb dX12_act_35 (lv_at hl 4 rfl) ?_
      refine lv_bipush (v := 6) hx hb dX12_act_37 (by decide) ?_
      refine lv_icmp_ne (tgt := 44) hx hb dX12_act_39 (by decide) (fun c_6 => ?_) (fun c_6 => ?_)
      · skip
        have h_7 := s_ne (rfl : v4.toInt = _) (show (6 : Int32).toInt = 6 from rfl) c_6
        refine lv_iload hx hb dX12_act_44 (lv_at hl 4 rfl) ?_
        refine lv_iconst (v := 4) hx hb dX12_act_46 (by decide) ?_
        refine lv_icmp_ge (tgt := 59) hx hb dX12_act_47 (by decide) (fun _ => ?_) (fun h => absurd (p_le (show (4 : Int32).toInt = 4 from rfl) (rfl : v4.toInt = _) (by omega)) h)
        refine lv_iload hx hb dX12_act_59 (lv_at hl 4 rfl) ?_
        refine lv_iconst (v := 4) hx hb dX12_act_61 (by decide) ?_
        refine lv_icmp_ne (tgt := 84) hx hb dX12_act_62 (by decide) (fun _ => ?_) (fun h => absurd h (p_ne (rfl : v4.toInt = _) (show (4 : Int32).toInt = 4 from rfl) (by omega)))
        refine lv_dconst0 hx hb dX12_act_84 ?_
        refine lv_dstore (lv' := [(6, .double 0), (0, .ref (g 36)), (1, .int x), (2, .int y), (3, .int z), (4, .int v4), (5, .int v5)]) hx hb dX12_act_85 hl (by decide) rfl (fun ls hl => ?_)
        refine lv_iload hx hb dX12_act_87 (lv_at hl 5 rfl) ?_
        refine lv_bipush (v := 7) hx hb dX12_act_89 (by decide) ?_
        refine lv_icmp_ne (tgt := 96) hx hb dX12_act_91 (by decide) (fun c_8 => ?_) (fun c_8 => ?_)
        · skip
          have h_9 := s_ne (rfl : v4.toInt = _) (show (7 : Int32).toInt = 7 from rfl) c_8
          refine lv_iload hx hb dX12_act_96 (lv_at hl 5 rfl) ?_
          refine lv_iconst (v := 3) hx hb dX12_act_98 (by decide) ?_
          refine lv_icmp_ne (tgt := 120) hx hb dX12_act_99 (by decide) (fun _ => ?_) (fun h => absurd h (p_ne (rfl : v4.toInt = _) (show (3 : Int32).toInt = 3 from rfl) (by omega)))
          refine lv_iload hx hb dX12_act_120 (lv_at hl 5 rfl) ?_
          refine lv_iconst (v := 5) hx hb dX12_act_122 (by decide) ?_
          refine lv_icmp_ge (tgt := 177) hx hb dX12_act_123 (by decide) (fun _ => ?_) (fun h => absurd (p_le (show (5 : Int32).toInt = 5 from rfl) (rfl : v4.toInt = _) (by omega)) h)
          refine lv_iload hx hb dX12_act_177 (lv_at hl 5 rfl) ?_
          refine lv_iconst (v := 5) hx hb dX12_act_179 (by decide) ?_
          refine lv_icmp_ne (tgt := 196) hx hb dX12_act_180 (by decide) (fun c_10 => ?_) (fun c_10 => ?_)
          · skip
            have h_11 := s_ne (rfl : v4.toInt = _) (show (5 : Int32).toInt = 5 from rfl) c_10
            refine lv_aload_n hx hb dX12_act_196 rfl (lv_at hl 1 rfl) ?_
            refine lv_iload hx hb dX12_act_197 (lv_at hl 6 rfl) ?_
            refine x_calli (va_runV (As := [.int v5]) (rest := []) ⟨hx, hb, hml, hown, hts⟩ (m_waits l D g ka ad i r L d v5 hO hR s.heap.size ) (cwV 1 hts gX12_act_X12_waits rfl rfl rfl (by decide +kernel) ⟨(Nat.le_of_ble_eq_true rfl), (Nat.le_of_ble_eq_true rfl)⟩) (x_preV (q := (RX12, TX12, 86)) hH hK (q_obj (by decide) (rfl : kd 36 = 12) (by decide)) rfl gxb (gxw hE hS (x_F hH hS hA))) rfl rfl hl.1 rfl (lv_room (Nat.le_of_ble_eq_true rfl)) dX12_act_199 ⟨(Nat.le_of_ble_eq_true rfl), (Nat.le_of_ble_eq_true rfl)⟩) hH hS hA rfl rfl (fun r_12 im_14 H locs hw_13 hH hS => ?_)
            have hH : sj_H D A (hwc g ka im_14 r L d) H := hH
            obtain ⟨hO_16, hfr_15, hr_17⟩ := hw_13
            have hr_17 : (0 : Int) ≤ r_12.toInt ∧ r_12.toInt ≤ 1 := hr_17
            refine lv_if_eq (tgt := 209) hx hb dX12_act_202 (by decide) (fun c_18 => ?_) (fun c_18 => ?_)
            · skip
              have h_19 := s_eq (rfl : r_12.toInt = _) (show (0 : Int32).toInt = 0 from rfl) c_18
              refine lv_iconst (v := 5) hx hb dX12_act_209 (by decide) ?_
              exact sj_zret hx hb hr hlocks rfl hS (im_14, d) ⟨hO_16, (fun a b ha => (hfr_15 a b (by omega))), (fun a ha => rfl), ⟨by decide, by decide⟩, (fun q => absurd q.1 (by decide)), (w1P_0 _ _), (fun _ => rfl)⟩ hH (sj_Knil hK) (Nat.le_of_ble_eq_true rfl) (Nat.le_of_ble_eq_true rfl) dX12_act_210
            · skip
              have h_20 := s_ne (rfl : r_12.toInt = _) (show (0 : Int32).toInt = 0 from rfl) c_18
              refine lv_iconst (v := 0) hx hb dX12_act_205 (by decide) ?_
              refine lv_goto (tgt := 210) hx hb dX12_act_206 (by decide) ?_
              exact sj_zret hx hb hr hlocks rfl hS (im_14, d) ⟨hO_16, (fun a b ha => (hfr_15 a b (by omega))), (fun a ha => rfl), ⟨by decide, by decide⟩, (fun q => hfw q.2), (w1P_0 _ _), (fun _ => rfl)⟩ hH (sj_Knil hK) (Nat.le_of_ble_eq_true rfl) (Nat.le_of_ble_eq_true rfl) dX12_act_210
          · skip
            have h_21 := s_eq (rfl : v4.toInt = _) (show (5 : Int32).toInt = 5 from rfl) c_10
            refine lv_aload_n hx hb dX12_act_183 rfl (lv_at hl 1 rfl) ?_
            refine lv_iload_n hx hb dX12_act_184 rfl (lv_at hl 2 rfl) ?_
            refine lv_iload_n hx hb dX12_act_185 rfl (lv_at hl 3 rfl) ?_
            refine lv_iload_n hx hb dX12_act_186 rfl (lv_at hl 4 rfl) ?_
            refine x_calli (va_runV (As := [.int x, .int y, .int z]) (rest := []) ⟨hx, hb, hml, hown, hts⟩ (m_sum l D g ka ad i r L d x y z hO hR s.heap.size (by first | omega | decide) (by first | omega | decide) (by first | omega | decide) (by first | omega | decide) (by first | omega | decide) (by first | omega | decide) hnr hfw) (cwV 3 hts gX12_act_X12_sum rfl rfl rfl (by decide +kernel) ⟨(Nat.le_of_ble_eq_true rfl), (Nat.le_of_ble_eq_true rfl)⟩) (x_preV (q := (RX12, TX12, 86)) hH hK (q_obj (by decide) (rfl : kd 36 = 12) (by decide)) rfl gxb (gxw hE hS (x_F hH hS hA))) rfl rfl hl.1 rfl (lv_room (Nat.le_of_ble_eq_true rfl)) dX12_act_187 ⟨(Nat.le_of_ble_eq_true rfl), (Nat.le_of_ble_eq_true rfl)⟩) hH hS hA rfl rfl (fun r_22 u_26 H locs hw_23 hH hS => ?_)
            obtain ⟨im_24, dm_25⟩ := u_26
            try dsimp only at hw_23
            have hH : sj_H D A (hwc g ka im_24 r L dm_25) H := hH
            obtain ⟨hO_28, hfr_27, hfd_29, hr_30, hx2_31, hx2_32, hx2_33⟩ := hw_23
            have hr_30 : (0 : Int) ≤ r_22.toInt ∧ r_22.toInt ≤ 1 := hr_30
            refine lv_if_eq (tgt := 209) hx hb dX12_act_190 (by decide) (fun c_34 => ?_) (fun c_34 => ?_)
            · skip
              have h_35 := s_eq (rfl : r_22.toInt = _) (show (0 : Int32).toInt = 0 from rfl) c_34
              refine lv_iconst (v := 5) hx hb dX12_act_209 (by decide) ?_
              exact sj_zret hx hb hr hlocks rfl hS (im_24, dm_25) ⟨hO_28, (fun a b ha => (hfr_27 a b (by omega))), (fun a ha => (hfd_29 a (by omega))), ⟨by decide, by decide⟩, (fun q => absurd q.1 (by decide)), hx2_32, hx2_33⟩ hH (sj_Knil hK) (Nat.le_of_ble_eq_true rfl) (Nat.le_of_ble_eq_true rfl) dX12_act_210
            · skip
              have h_36 := s_ne (rfl : r_22.toInt = _) (show (0 : Int32).toInt = 0 from rfl) c_34
              refine lv_goto (tgt := 205) hx hb dX12_act_193 (by decide) ?_
              refine lv_iconst (v := 0) hx hb dX12_act_205 (by decide) ?_
              refine lv_goto (tgt := 210) hx hb dX12_act_206 (by decide) ?_
              exact sj_zret hx hb hr hlocks rfl hS (im_24, dm_25) ⟨hO_28, (fun a b ha => (hfr_27 a b (by omega))), (fun a ha => (hfd_29 a (by omega))), ⟨by decide, by decide⟩, (fun q => hx2_31 ⟨by omega, q.2⟩), hx2_32, hx2_33⟩ hH (sj_Knil hK) (Nat.le_of_ble_eq_true rfl) (Nat.le_of_ble_eq_true rfl) dX12_act_210
        · skip
          have h_37 := s_eq (rfl : v4.toInt = _) (show (7 : Int32).toInt = 7 from rfl) c_8
          refine lv_iconst (v := 2) hx hb dX12_act_94 (by decide) ?_
          exact sj_zret hx hb hr hlocks rfl hS (i, d) ⟨hO, (fun a b ha => rfl), (fun a ha => rfl), ⟨by decide, by decide⟩, (fun q => absurd q.1 (by decide)), (w1P_0 _ _), (fun _ => rfl)⟩ hH (sj_Knil hK) (Nat.le_of_ble_eq_true rfl) (Nat.le_of_ble_eq_true rfl) dX12_act_95
      · skip
        have h_38 := s_eq (rfl : v4.toInt = _) (show (6 : Int32).toInt = 6 from rfl) c_6
        refine lv_iconst (v := 5) hx hb dX12_act_42 (by decide) ?_
        exact sj_zret hx hb hr hlocks rfl hS (i, d) ⟨hO, (fun a b ha => rfl), (fun a ha => rfl), ⟨by decide, by decide⟩, (fun q => absurd q.1 (by decide)), (w1P_0 _ _), (fun _ => rfl)⟩ hH (sj_Knil hK) (Nat.le_of_ble_eq_true rfl) (Nat.le_of_ble_eq_true rfl) dX12_act_43
    · skip
      have h_39 := s_eq (rfl : v4.toInt = _) (show (4 : Int32).toInt = 4 from rfl) c_4
      refine lv_iload hx hb dX12_act_21 (lv_at hl 5 rfl) ?_
      refine lv_if_lt (tgt := 42) hx hb dX12_act_23 (by decide) (fun c_40 => ?_) (fun c_40 => ?_)
      · skip
        have h_41 := s_lt (rfl : v5.toInt = _) (show (0 : Int32).toInt = 0 from rfl) c_40
        refine lv_iconst (v := 5) hx hb dX12_act_42 (by decide) ?_
        exact sj_zret hx hb hr hlocks rfl hS (i, d) ⟨hO, (fun a b ha => rfl), (fun a ha => rfl), ⟨by decide, by decide⟩, (fun q => absurd q.1 (by decide)), (w1P_0 _ _), (fun _ => rfl)⟩ hH (sj_Knil hK) (Nat.le_of_ble_eq_true rfl) (Nat.le_of_ble_eq_true rfl) dX12_act_43
      · skip
        have h_42 := s_nlt (rfl : v5.toInt = _) (show (0 : Int32).toInt = 0 from rfl) c_40
        refine lv_iload hx hb dX12_act_26 (lv_at hl 5 rfl) ?_
        refine lv_aload_n hx hb dX12_act_28 rfl (lv_at hl 0 rfl) ?_
        have bx_43 : (0 : Int) ≤ (i 36 57).toInt ∧ (i 36 57).toInt ≤ 6 := hO 36 57
        refine h_geti (ci := 12) (C := RX12) (F := TX12) (N := 86) hx hb hts in12 hown hK hH (by decide) (rfl : kd 36 = 12) (by decide) rfl 57 (by decide) wd0 (fun _ h9 => h9) (by decide) rfl dX12_act_29 ?_
        refine lv_icmp_ge (tgt := 42) hx hb dX12_act_32 (by decide) (fun c_44 => ?_) (fun c_44 => ?_)
        · skip
          have h_45 := s_le (rfl : (i 36 57).toInt = _) (rfl : v5.toInt = _) c_44
          refine lv_iconst (v := 5) hx hb dX12_act_42 (by decide) ?_
          exact sj_zret hx hb hr hlocks rfl hS (i, d) ⟨hO, (fun a b ha => rfl), (fun a ha => rfl), ⟨by decide, by decide⟩, (fun q => absurd q.1 (by decide)), (w1P_0 _ _), (fun _ => rfl)⟩ hH (sj_Knil hK) (Nat.le_of_ble_eq_true rfl) (Nat.le_of_ble_eq_true rfl) dX12_act_43
        · skip
          have h_46 := s_nle (rfl : (i 36 57).toInt = _) (rfl : v5.toInt = _) c_44
          refine lv_iload hx hb dX12_act_35 (lv_at hl 4 rfl) ?_
          refine lv_bipush (v := 6) hx hb dX12_act_37 (by decide) ?_
          refine lv_icmp_ne (tgt := 44) hx hb dX12_act_39 (by decide) (fun _ => ?_) (fun h => absurd h (p_ne (rfl : v4.toInt = _) (show (6 : Int32).toInt = 6 from rfl) (by omega)))
          refine lv_iload hx hb dX12_act_44 (lv_at hl 4 rfl) ?_
          refine lv_iconst (v := 4) hx hb dX12_act_46 (by decide) ?_
          refine lv_icmp_ge (tgt := 59) hx hb dX12_act_47 (by decide) (fun _ => ?_) (fun h => absurd (p_le (show (4 : Int32).toInt = 4 from rfl) (rfl : v4.toInt = _) (by omega)) h)
          refine lv_iload hx hb dX12_act_59 (lv_at hl 4 rfl) ?_
          refine lv_iconst (v := 4) hx hb dX12_act_61 (by decide) ?_
          refine lv_icmp_ne (tgt := 84) hx hb dX12_act_62 (by decide) (fun h => absurd (p_eq (rfl : v4.toInt = _) (show (4 : Int32).toInt = 4 from rfl) (by omega)) h) (fun _ => ?_)
          refine lv_aload_n hx hb dX12_act_65 rfl (lv_at hl 0 rfl) ?_
          refine h_getr (ci := 12) (C := RX12) (F := TX12) (N := 86) hx hb hts in12 hown hK hH (by decide) (rfl : kd 36 = 12) (by decide) rfl 60 (by decide) wd1 (fun _ h9 => h9) (by decide) rfl (t := 415) (hR 36 60 rfl) (by decide) dX12_act_66 ?_
          refine lv_iload hx hb dX12_act_69 (lv_at hl 5 rfl) ?_
          have bx_47 : (-1 : Int) ≤ (i 415 (v5.toInt).toNat).toInt ∧ (i 415 (v5.toInt).toNat).toInt ≤ 61 := hO 415 (v5.toInt).toNat
          refine h_iald hx hb hK hH (by decide) (rfl : kd 415 = 13) (s_vin (N := 6) (rfl : v5.toInt = _) (rfl : ln 415 = 6) (by omega) (by omega)) dX12_act_71 ?_
          have ek_48 : v5.toNatClampNeg = (v5.toInt).toNat := (s_cl (show v5.toInt = v5.toInt by omega))
          refine sj_i (y := (i 415 (v5.toInt).toNat)) (by rw [ek_48]) ?_
          refine lv_aload_n hx hb dX12_act_72 rfl (lv_at hl 0 rfl) ?_
          refine h_getr (ci := 12) (C := RX12) (F := TX12) (N := 86) hx hb hts in12 hown hK hH (by decide) (rfl : kd 36 = 12) (by decide) rfl 59 (by decide) wd2 (fun _ h9 => h9) (by decide) rfl (t := 414) (hR 36 59 rfl) (by decide) dX12_act_73 ?_
          refine lv_iload hx hb dX12_act_76 (lv_at hl 5 rfl) ?_
          have bx_49 : (0 : Int) ≤ (i 414 (v5.toInt).toNat).toInt ∧ (i 414 (v5.toInt).toNat).toInt ≤ 61 := hO 414 (v5.toInt).toNat
          refine h_iald hx hb hK hH (by decide) (rfl : kd 414 = 13) (s_vin (N := 6) (rfl : v5.toInt = _) (rfl : ln 414 = 6) (by omega) (by omega)) dX12_act_78 ?_
          have ek_50 : v5.toNatClampNeg = (v5.toInt).toNat := (s_cl (show v5.toInt = v5.toInt by omega))
          refine sj_i (y := (i 414 (v5.toInt).toNat)) (by rw [ek_50]) ?_
          refine lv_isub hx hb dX12_act_79 ?_
          obtain ⟨z_51, ez_51, hz_51⟩ := s_sub (rfl : (i 415 (v5.toInt).toNat).toInt = _) (rfl : (i 414 (v5.toInt).toNat).toInt = _) (by omega) (by omega)
          refine sj_i ez_51 ?_
          refine lv_i2d hx hb dX12_act_80 ?_
          refine lv_topd (fun z_52 ez_52 => ?_)
          refine lv_goto (tgt := 85) hx hb dX12_act_81 (by decide) ?_
          refine lv_dstore (lv' := [(6, .double z_52), (0, .ref (g 36)), (1, .int x), (2, .int y), (3, .int z), (4, .int v4), (5, .int v5)]) hx hb dX12_act_85 hl (by decide) rfl (fun ls hl => ?_)
          refine lv_iload hx hb dX12_act_87 (lv_at hl 5 rfl) ?_
          refine lv_bipush (v := 7) hx hb dX12_act_89 (by decide) ?_
          refine lv_icmp_ne (tgt := 96) hx hb dX12_act_91 (by decide) (fun _ => ?_) (fun h => absurd h (p_ne (rfl : v4.toInt = _) (show (7 : Int32).toInt = 7 from rfl) (by omega)))
          refine lv_iload hx hb dX12_act_96 (lv_at hl 5 rfl) ?_
          refine lv_iconst (v := 3) hx hb dX12_act_98 (by decide) ?_
          refine lv_icmp_ne (tgt := 120) hx hb dX12_act_99 (by decide) (fun _ => ?_) (fun h => absurd h (p_ne (rfl : v4.toInt = _) (show (3 : Int32).toInt = 3 from rfl) (by omega)))
          refine lv_iload hx hb dX12_act_120 (lv_at hl 5 rfl) ?_
          refine lv_iconst (v := 5) hx hb dX12_act_122 (by decide) ?_
          refine lv_icmp_ge (tgt := 177) hx hb dX12_act_123 (by decide) (fun h => absurd h (p_nle (show (5 : Int32).toInt = 5 from rfl) (rfl : v4.toInt = _) (by omega))) (fun _ => ?_)
          refine lv_aload_n hx hb dX12_act_126 rfl (lv_at hl 1 rfl) ?_
          refine lv_iload_n hx hb dX12_act_127 rfl (lv_at hl 2 rfl) ?_
          refine lv_iload hx hb dX12_act_128 (lv_at hl 5 rfl) ?_
          refine lv_if_ne (tgt := 138) hx hb dX12_act_130 (by decide) (fun _ => ?_) (fun h => absurd h (p_ne (rfl : v4.toInt = _) (show (0 : Int32).toInt = 0 from rfl) (by omega)))
          refine lv_iload hx hb dX12_act_138 (lv_at hl 5 rfl) ?_
          refine lv_iconst (v := 2) hx hb dX12_act_140 (by decide) ?_
          refine lv_icmp_ne (tgt := 156) hx hb dX12_act_141 (by decide) (fun _ => ?_) (fun h => absurd h (p_ne (rfl : v4.toInt = _) (show (2 : Int32).toInt = 2 from rfl) (by omega)))
          refine lv_aload_n hx hb dX12_act_156 rfl (lv_at hl 1 rfl) ?_
          refine h_getr (ci := 12) (C := RX12) (F := TX12) (N := 86) hx hb hts in12 hown hK hH (by decide) (rfl : kd 36 = 12) (by decide) rfl 73 (by decide) wd3 (fun _ h9 => h9) (by decide) rfl (t := 425) (hR 36 73 rfl) (by decide) dX12_act_157 ?_
          refine lv_iload_n hx hb dX12_act_160 rfl (lv_at hl 2 rfl) ?_
          refine h_dald hx hb hK hH (by decide) (rfl : kd 425 = 17) (s_vin (N := 3) (rfl : x.toInt = _) (rfl : ln 425 = 3) (by omega) (by omega)) dX12_act_161 ?_
          refine lv_topd (fun z_53 ez_53 => ?_)
          refine lv_dload hx hb dX12_act_162 (lv_at hl 0 rfl) ?_
          refine lv_dadd hx hb dX12_act_164 (add_n (by rw [ez_53, show x.toNatClampNeg = x.toInt.toNat from s_cl rfl]; exact hfw (by omega)) (by rw [ez_52]; exact i2d_f _)) ?_
          refine lv_topd (fun z_54 ez_54 => ?_)
          refine x_calli (va_runV (As := [.int x, .double z_54]) (rest := []) ⟨hx, hb, hml, hown, hts⟩ (m_becomes l D g ka ad i r L d x z_54 hO hR s.heap.size (by first | omega | decide) (by first | omega | decide)) (cwV 2 hts gX12_act_X12_becomes rfl rfl rfl (by decide +kernel) ⟨(Nat.le_of_ble_eq_true rfl), (Nat.le_of_ble_eq_true rfl)⟩) (x_preV (q := (RX12, TX12, 86)) hH hK (q_obj (by decide) (rfl : kd 36 = 12) (by decide)) rfl gxb (gxw hE hS (x_F hH hS hA))) rfl rfl hl.1 rfl (lv_room (Nat.le_of_ble_eq_true rfl)) dX12_act_165 ⟨(Nat.le_of_ble_eq_true rfl), (Nat.le_of_ble_eq_true rfl)⟩) hH hS hA rfl rfl (fun r_55 dm_57 H locs hw_56 hH hS => ?_)
          have hH : sj_H D A (hwc g ka i r L dm_57) H := hH
          obtain ⟨hfd_58, hr_59, hx2_60, hx2_61⟩ := hw_56
          have hr_59 : (0 : Int) ≤ r_55.toInt ∧ r_55.toInt ≤ 1 := hr_59
          refine lv_if_eq (tgt := 175) hx hb dX12_act_168 (by decide) (fun c_62 => ?_) (fun c_62 => ?_)
          · skip
            have h_63 := s_eq (rfl : r_55.toInt = _) (show (0 : Int32).toInt = 0 from rfl) c_62
            refine lv_iconst (v := 5) hx hb dX12_act_175 (by decide) ?_
            exact sj_zret hx hb hr hlocks rfl hS (i, dm_57) ⟨hO, (fun a b ha => rfl), (fun a ha => (hfd_58 a (by omega))), ⟨by decide, by decide⟩, (fun q => absurd q.1 (by decide)), hx2_61, (fun q => by exfalso; omega)⟩ hH (sj_Knil hK) (Nat.le_of_ble_eq_true rfl) (Nat.le_of_ble_eq_true rfl) dX12_act_176
          · skip
            have h_64 := s_ne (rfl : r_55.toInt = _) (show (0 : Int32).toInt = 0 from rfl) c_62
            refine lv_iconst (v := 0) hx hb dX12_act_171 (by decide) ?_
            refine lv_goto (tgt := 176) hx hb dX12_act_172 (by decide) ?_
            exact sj_zret hx hb hr hlocks rfl hS (i, dm_57) ⟨hO, (fun a b ha => rfl), (fun a ha => (hfd_58 a (by omega))), ⟨by decide, by decide⟩, (fun _ => hx2_60 (by omega)), hx2_61, (fun q => by exfalso; omega)⟩ hH (sj_Knil hK) (Nat.le_of_ble_eq_true rfl) (Nat.le_of_ble_eq_true rfl) dX12_act_176
  · skip
    have h_65 := s_nle (show (4 : Int32).toInt = 4 from rfl) (rfl : v4.toInt = _) c_2
    refine lv_aload_n hx hb dX12_act_6 rfl (lv_at hl 0 rfl) ?_
    refine lv_iload hx hb dX12_act_7 (lv_at hl 5 rfl) ?_
    refine x_calli (va_runV (As := [.int v5]) (rest := []) ⟨hx, hb, hml, hown, hts⟩ (m_isNumber l D g ka ad i r L d v5 hO hR s.heap.size ) (cwV 1 hts gX12_act_X12_isNumber rfl rfl rfl (by decide +kernel) ⟨(Nat.le_of_ble_eq_true rfl), (Nat.le_of_ble_eq_true rfl)⟩) (x_preV (q := (RX12, TX12, 86)) hH hK (q_obj (by decide) (rfl : kd 36 = 12) (by decide)) rfl gxb (gxw hE hS (x_F hH hS hA))) rfl rfl hl.1 rfl (lv_room (Nat.le_of_ble_eq_true rfl)) dX12_act_9 ⟨(Nat.le_of_ble_eq_true rfl), (Nat.le_of_ble_eq_true rfl)⟩) hH hS hA rfl rfl (fun r_66 _ H locs hw_67 hH hS => ?_)
    obtain ⟨hr_69, hx2_70⟩ := hw_67
    have hr_69 : (0 : Int) ≤ r_66.toInt ∧ r_66.toInt ≤ 1 := hr_69
    refine lv_if_eq (tgt := 42) hx hb dX12_act_12 (by decide) (fun c_71 => ?_) (fun c_71 => ?_)
    · skip
      have h_72 := s_eq (rfl : r_66.toInt = _) (show (0 : Int32).toInt = 0 from rfl) c_71
      refine lv_iconst (v := 5) hx hb dX12_act_42 (by decide) ?_
      exact sj_zret hx hb hr hlocks rfl hS (i, d) ⟨hO, (fun a b ha => rfl), (fun a ha => rfl), ⟨by decide, by decide⟩, (fun q => absurd q.1 (by decide)), (w1P_0 _ _), (fun _ => rfl)⟩ hH (sj_Knil hK) (Nat.le_of_ble_eq_true rfl) (Nat.le_of_ble_eq_true rfl) dX12_act_43
    · skip
      have h_73 := s_ne (rfl : r_66.toInt = _) (show (0 : Int32).toInt = 0 from rfl) c_71
      have hnm := hx2_70 (by omega)
      have hnm0 := hnm.1
      have hnm1 := hnm.2.1
      refine lv_iload hx hb dX12_act_15 (lv_at hl 4 rfl) ?_
      refine lv_iconst (v := 4) hx hb dX12_act_17 (by decide) ?_
      refine lv_icmp_ne (tgt := 35) hx hb dX12_act_18 (by decide) (fun _ => ?_) (fun h => absurd h (p_ne (rfl : v4.toInt = _) (show (4 : Int32).toInt = 4 from rfl) (by omega)))
      refine lv_iload hx hb dX12_act_35 (lv_at hl 4 rfl) ?_
      refine lv_bipush (v := 6) hx hb dX12_act_37 (by decide) ?_
      refine lv_icmp_ne (tgt := 44) hx hb dX12_act_39 (by decide) (fun _ => ?_) (fun h => absurd h (p_ne (rfl : v4.toInt = _) (show (6 : Int32).toInt = 6 from rfl) (by omega)))
      refine lv_iload hx hb dX12_act_44 (lv_at hl 4 rfl) ?_
      refine lv_iconst (v := 4) hx hb dX12_act_46 (by decide) ?_
      refine lv_icmp_ge (tgt := 59) hx hb dX12_act_47 (by decide) (fun h => absurd h (p_nle (show (4 : Int32).toInt = 4 from rfl) (rfl : v4.toInt = _) (by omega))) (fun _ => ?_)
      refine lv_aload_n hx hb dX12_act_50 rfl (lv_at hl 0 rfl) ?_
      refine lv_iload hx hb dX12_act_51 (lv_at hl 5 rfl) ?_
      refine x_calld (va_runV (As := [.int v5]) (rest := []) ⟨hx, hb, hml, hown, hts⟩ (m_argValue l D g ka ad i r L d v5 hO hR H.size haq (hx2_70 (by omega))) (cwV 1 hts gX12_act_X12_argumentValue rfl rfl rfl (by decide +kernel) ⟨(Nat.le_of_ble_eq_true rfl), (Nat.le_of_ble_eq_true rfl)⟩) (x_preV (q := (RX12, TX12, 86)) hH hK (q_obj (by decide) (rfl : kd 36 = 12) (by decide)) rfl gxb (gxw hE hS (x_F hH hS hA))) rfl rfl hl.1 rfl (lv_room (Nat.le_of_ble_eq_true rfl)) dX12_act_53 ⟨(Nat.le_of_ble_eq_true rfl), (Nat.le_of_ble_eq_true rfl)⟩) hH hS hA rfl rfl (fun r_74 _ H locs hw_75 hH hS => ?_)
      have hx2_77 := hw_75
      refine lv_goto (tgt := 85) hx hb dX12_act_56 (by decide) ?_
      refine lv_dstore (lv' := [(6, .double r_74), (0, .ref (g 36)), (1, .int x), (2, .int y), (3, .int z), (4, .int v4), (5, .int v5)]) hx hb dX12_act_85 hl (by decide) rfl (fun ls hl => ?_)
      refine lv_iload hx hb dX12_act_87 (lv_at hl 5 rfl) ?_
      refine lv_bipush (v := 7) hx hb dX12_act_89 (by decide) ?_
      refine lv_icmp_ne (tgt := 96) hx hb dX12_act_91 (by decide) (fun _ => ?_) (fun h => absurd h (p_ne (rfl : v4.toInt = _) (show (7 : Int32).toInt = 7 from rfl) (by omega)))
      refine lv_iload hx hb dX12_act_96 (lv_at hl 5 rfl) ?_
      refine lv_iconst (v := 3) hx hb dX12_act_98 (by decide) ?_
      refine lv_icmp_ne (tgt := 120) hx hb dX12_act_99 (by decide) (fun c_78 => ?_) (fun c_78 => ?_)
      · skip
        have h_79 := s_ne (rfl : v4.toInt = _) (show (3 : Int32).toInt = 3 from rfl) c_78
        refine lv_iload hx hb dX12_act_120 (lv_at hl 5 rfl) ?_
        refine lv_iconst (v := 5) hx hb dX12_act_122 (by decide) ?_
        refine lv_icmp_ge (tgt := 177) hx hb dX12_act_123 (by decide) (fun h => absurd h (p_nle (show (5 : Int32).toInt = 5 from rfl) (rfl : v4.toInt = _) (by omega))) (fun _ => ?_)
        refine lv_aload_n hx hb dX12_act_126 rfl (lv_at hl 1 rfl) ?_
        refine lv_iload_n hx hb dX12_act_127 rfl (lv_at hl 2 rfl) ?_
        refine lv_iload hx hb dX12_act_128 (lv_at hl 5 rfl) ?_
        refine lv_if_ne (tgt := 138) hx hb dX12_act_130 (by decide) (fun c_80 => ?_) (fun c_80 => ?_)
        · skip
          have h_81 := s_ne (rfl : v4.toInt = _) (show (0 : Int32).toInt = 0 from rfl) c_80
          refine lv_iload hx hb dX12_act_138 (lv_at hl 5 rfl) ?_
          refine lv_iconst (v := 2) hx hb dX12_act_140 (by decide) ?_
          refine lv_icmp_ne (tgt := 156) hx hb dX12_act_141 (by decide) (fun c_82 => ?_) (fun c_82 => ?_)
          · skip
            have h_83 := s_ne (rfl : v4.toInt = _) (show (2 : Int32).toInt = 2 from rfl) c_82
            refine lv_aload_n hx hb dX12_act_156 rfl (lv_at hl 1 rfl) ?_
            refine h_getr (ci := 12) (C := RX12) (F := TX12) (N := 86) hx hb hts in12 hown hK hH (by decide) (rfl : kd 36 = 12) (by decide) rfl 73 (by decide) wd3 (fun _ h9 => h9) (by decide) rfl (t := 425) (hR 36 73 rfl) (by decide) dX12_act_157 ?_
            refine lv_iload_n hx hb dX12_act_160 rfl (lv_at hl 2 rfl) ?_
            refine h_dald hx hb hK hH (by decide) (rfl : kd 425 = 17) (s_vin (N := 3) (rfl : x.toInt = _) (rfl : ln 425 = 3) (by omega) (by omega)) dX12_act_161 ?_
            refine lv_topd (fun z_84 ez_84 => ?_)
            refine lv_dload hx hb dX12_act_162 (lv_at hl 0 rfl) ?_
            refine lv_dadd hx hb dX12_act_164 (add_n (by rw [ez_84, show x.toNatClampNeg = x.toInt.toNat from s_cl rfl]; exact hfw (by omega)) hx2_77) ?_
            refine lv_topd (fun z_85 ez_85 => ?_)
            refine x_calli (va_runV (As := [.int x, .double z_85]) (rest := []) ⟨hx, hb, hml, hown, hts⟩ (m_becomes l D g ka ad i r L d x z_85 hO hR H.size (by first | omega | decide) (by first | omega | decide)) (cwV 2 hts gX12_act_X12_becomes rfl rfl rfl (by decide +kernel) ⟨(Nat.le_of_ble_eq_true rfl), (Nat.le_of_ble_eq_true rfl)⟩) (x_preV (q := (RX12, TX12, 86)) hH hK (q_obj (by decide) (rfl : kd 36 = 12) (by decide)) rfl gxb (gxw hE hS (x_F hH hS hA))) rfl rfl hl.1 rfl (lv_room (Nat.le_of_ble_eq_true rfl)) dX12_act_165 ⟨(Nat.le_of_ble_eq_true rfl), (Nat.le_of_ble_eq_true rfl)⟩) hH hS hA rfl rfl (fun r_86 dm_88 H locs hw_87 hH hS => ?_)
            have hH : sj_H D A (hwc g ka i r L dm_88) H := hH
            obtain ⟨hfd_89, hr_90, hx2_91, hx2_92⟩ := hw_87
            have hr_90 : (0 : Int) ≤ r_86.toInt ∧ r_86.toInt ≤ 1 := hr_90
            refine lv_if_eq (tgt := 175) hx hb dX12_act_168 (by decide) (fun c_93 => ?_) (fun c_93 => ?_)
            · skip
              have h_94 := s_eq (rfl : r_86.toInt = _) (show (0 : Int32).toInt = 0 from rfl) c_93
              refine lv_iconst (v := 5) hx hb dX12_act_175 (by decide) ?_
              exact sj_zret hx hb hr hlocks rfl hS (i, dm_88) ⟨hO, (fun a b ha => rfl), (fun a ha => (hfd_89 a (by omega))), ⟨by decide, by decide⟩, (fun q => absurd q.1 (by decide)), hx2_92, (fun q => by exfalso; omega)⟩ hH (sj_Knil hK) (Nat.le_of_ble_eq_true rfl) (Nat.le_of_ble_eq_true rfl) dX12_act_176
            · skip
              have h_95 := s_ne (rfl : r_86.toInt = _) (show (0 : Int32).toInt = 0 from rfl) c_93
              refine lv_iconst (v := 0) hx hb dX12_act_171 (by decide) ?_
              refine lv_goto (tgt := 176) hx hb dX12_act_172 (by decide) ?_
              exact sj_zret hx hb hr hlocks rfl hS (i, dm_88) ⟨hO, (fun a b ha => rfl), (fun a ha => (hfd_89 a (by omega))), ⟨by decide, by decide⟩, (fun _ => hx2_91 (by omega)), hx2_92, (fun q => by exfalso; omega)⟩ hH (sj_Knil hK) (Nat.le_of_ble_eq_true rfl) (Nat.le_of_ble_eq_true rfl) dX12_act_176
          · skip
            have h_96 := s_eq (rfl : v4.toInt = _) (show (2 : Int32).toInt = 2 from rfl) c_82
            refine lv_aload_n hx hb dX12_act_144 rfl (lv_at hl 1 rfl) ?_
            refine h_getr (ci := 12) (C := RX12) (F := TX12) (N := 86) hx hb hts in12 hown hK hH (by decide) (rfl : kd 36 = 12) (by decide) rfl 73 (by decide) wd3 (fun _ h9 => h9) (by decide) rfl (t := 425) (hR 36 73 rfl) (by decide) dX12_act_145 ?_
            refine lv_iload_n hx hb dX12_act_148 rfl (lv_at hl 2 rfl) ?_
            refine h_dald hx hb hK hH (by decide) (rfl : kd 425 = 17) (s_vin (N := 3) (rfl : x.toInt = _) (rfl : ln 425 = 3) (by omega) (by omega)) dX12_act_149 ?_
            refine lv_topd (fun z_97 ez_97 => ?_)
            refine lv_dload hx hb dX12_act_150 (lv_at hl 0 rfl) ?_
            refine lv_dmul hx hb dX12_act_152 (mul_n (by rw [ez_97, show x.toNatClampNeg = x.toInt.toNat from s_cl rfl]; exact hfw (by omega)) hx2_77) ?_
            refine lv_topd (fun z_98 ez_98 => ?_)
            refine lv_goto (tgt := 165) hx hb dX12_act_153 (by decide) ?_
            refine x_calli (va_runV (As := [.int x, .double z_98]) (rest := []) ⟨hx, hb, hml, hown, hts⟩ (m_becomes l D g ka ad i r L d x z_98 hO hR H.size (by first | omega | decide) (by first | omega | decide)) (cwV 2 hts gX12_act_X12_becomes rfl rfl rfl (by decide +kernel) ⟨(Nat.le_of_ble_eq_true rfl), (Nat.le_of_ble_eq_true rfl)⟩) (x_preV (q := (RX12, TX12, 86)) hH hK (q_obj (by decide) (rfl : kd 36 = 12) (by decide)) rfl gxb (gxw hE hS (x_F hH hS hA))) rfl rfl hl.1 rfl (lv_room (Nat.le_of_ble_eq_true rfl)) dX12_act_165 ⟨(Nat.le_of_ble_eq_true rfl), (Nat.le_of_ble_eq_true rfl)⟩) hH hS hA rfl rfl (fun r_99 dm_101 H locs hw_100 hH hS => ?_)
            have hH : sj_H D A (hwc g ka i r L dm_101) H := hH
            obtain ⟨hfd_102, hr_103, hx2_104, hx2_105⟩ := hw_100
            have hr_103 : (0 : Int) ≤ r_99.toInt ∧ r_99.toInt ≤ 1 := hr_103
            refine lv_if_eq (tgt := 175) hx hb dX12_act_168 (by decide) (fun c_106 => ?_) (fun c_106 => ?_)
            · skip
              have h_107 := s_eq (rfl : r_99.toInt = _) (show (0 : Int32).toInt = 0 from rfl) c_106
              refine lv_iconst (v := 5) hx hb dX12_act_175 (by decide) ?_
              exact sj_zret hx hb hr hlocks rfl hS (i, dm_101) ⟨hO, (fun a b ha => rfl), (fun a ha => (hfd_102 a (by omega))), ⟨by decide, by decide⟩, (fun q => absurd q.1 (by decide)), hx2_105, (fun q => by exfalso; omega)⟩ hH (sj_Knil hK) (Nat.le_of_ble_eq_true rfl) (Nat.le_of_ble_eq_true rfl) dX12_act_176
            · skip
              have h_108 := s_ne (rfl : r_99.toInt = _) (show (0 : Int32).toInt = 0 from rfl) c_106
              refine lv_iconst (v := 0) hx hb dX12_act_171 (by decide) ?_
              refine lv_goto (tgt := 176) hx hb dX12_act_172 (by decide) ?_
              exact sj_zret hx hb hr hlocks rfl hS (i, dm_101) ⟨hO, (fun a b ha => rfl), (fun a ha => (hfd_102 a (by omega))), ⟨by decide, by decide⟩, (fun _ => hx2_104 (by omega)), hx2_105, (fun q => by exfalso; omega)⟩ hH (sj_Knil hK) (Nat.le_of_ble_eq_true rfl) (Nat.le_of_ble_eq_true rfl) dX12_act_176
        · skip
          have h_109 := s_eq (rfl : v4.toInt = _) (show (0 : Int32).toInt = 0 from rfl) c_80
          refine lv_dload hx hb dX12_act_133 (lv_at hl 0 rfl) ?_
          refine lv_goto (tgt := 165) hx hb dX12_act_135 (by decide) ?_
          refine x_calli (va_runV (As := [.int x, .double r_74]) (rest := []) ⟨hx, hb, hml, hown, hts⟩ (m_becomes l D g ka ad i r L d x r_74 hO hR H.size (by first | omega | decide) (by first | omega | decide)) (cwV 2 hts gX12_act_X12_becomes rfl rfl rfl (by decide +kernel) ⟨(Nat.le_of_ble_eq_true rfl), (Nat.le_of_ble_eq_true rfl)⟩) (x_preV (q := (RX12, TX12, 86)) hH hK (q_obj (by decide) (rfl : kd 36 = 12) (by decide)) rfl gxb (gxw hE hS (x_F hH hS hA))) rfl rfl hl.1 rfl (lv_room (Nat.le_of_ble_eq_true rfl)) dX12_act_165 ⟨(Nat.le_of_ble_eq_true rfl), (Nat.le_of_ble_eq_true rfl)⟩) hH hS hA rfl rfl (fun r_110 dm_112 H locs hw_111 hH hS => ?_)
          have hH : sj_H D A (hwc g ka i r L dm_112) H := hH
          obtain ⟨hfd_113, hr_114, hx2_115, hx2_116⟩ := hw_111
          have hr_114 : (0 : Int) ≤ r_110.toInt ∧ r_110.toInt ≤ 1 := hr_114
          refine lv_if_eq (tgt := 175) hx hb dX12_act_168 (by decide) (fun c_117 => ?_) (fun c_117 => ?_)
          · skip
            have h_118 := s_eq (rfl : r_110.toInt = _) (show (0 : Int32).toInt = 0 from rfl) c_117
            refine lv_iconst (v := 5) hx hb dX12_act_175 (by decide) ?_
            exact sj_zret hx hb hr hlocks rfl hS (i, dm_112) ⟨hO, (fun a b ha => rfl), (fun a ha => (hfd_113 a (by omega))), ⟨by decide, by decide⟩, (fun q => absurd q.1 (by decide)), hx2_116, (fun q => by exfalso; omega)⟩ hH (sj_Knil hK) (Nat.le_of_ble_eq_true rfl) (Nat.le_of_ble_eq_true rfl) dX12_act_176
          · skip
            have h_119 := s_ne (rfl : r_110.toInt = _) (show (0 : Int32).toInt = 0 from rfl) c_117
            refine lv_iconst (v := 0) hx hb dX12_act_171 (by decide) ?_
            refine lv_goto (tgt := 176) hx hb dX12_act_172 (by decide) ?_
            exact sj_zret hx hb hr hlocks rfl hS (i, dm_112) ⟨hO, (fun a b ha => rfl), (fun a ha => (hfd_113 a (by omega))), ⟨by decide, by decide⟩, (fun _ => hx2_115 (by omega)), hx2_116, (fun q => by exfalso; omega)⟩ hH (sj_Knil hK) (Nat.le_of_ble_eq_true rfl) (Nat.le_of_ble_eq_true rfl) dX12_act_176
      · skip
        have h_120 := s_eq (rfl : v4.toInt = _) (show (3 : Int32).toInt = 3 from rfl) c_78
        refine lv_aload_n hx hb dX12_act_102 rfl (lv_at hl 1 rfl) ?_
        refine h_getr (ci := 12) (C := RX12) (F := TX12) (N := 86) hx hb hts in12 hown hK hH (by decide) (rfl : kd 36 = 12) (by decide) rfl 73 (by decide) wd3 (fun _ h9 => h9) (by decide) rfl (t := 425) (hR 36 73 rfl) (by decide) dX12_act_103 ?_
        refine lv_iload_n hx hb dX12_act_106 rfl (lv_at hl 2 rfl) ?_
        refine h_dald hx hb hK hH (by decide) (rfl : kd 425 = 17) (s_vin (N := 3) (rfl : x.toInt = _) (rfl : ln 425 = 3) (by omega) (by omega)) dX12_act_107 ?_
        refine lv_topd (fun z_121 ez_121 => ?_)
        refine lv_dload hx hb dX12_act_108 (lv_at hl 0 rfl) ?_
        refine lv_dcmp hx hb dX12_act_110 ?_
        refine lv_topi (fun z_122 ez_122 => ?_)
        refine lv_if_ne (tgt := 118) hx hb dX12_act_111 (by decide) (fun c_123 => ?_) (fun c_123 => ?_)
        · skip
          have h_124 := s_ne (rfl : z_122.toInt = _) (show (0 : Int32).toInt = 0 from rfl) c_123
          refine lv_iconst (v := 5) hx hb dX12_act_118 (by decide) ?_
          exact sj_zret hx hb hr hlocks rfl hS (i, d) ⟨hO, (fun a b ha => rfl), (fun a ha => rfl), ⟨by decide, by decide⟩, (fun q => absurd q.1 (by decide)), (w1P_0 _ _), (fun _ => rfl)⟩ hH (sj_Knil hK) (Nat.le_of_ble_eq_true rfl) (Nat.le_of_ble_eq_true rfl) dX12_act_119
        · skip
          have h_125 := s_eq (rfl : z_122.toInt = _) (show (0 : Int32).toInt = 0 from rfl) c_123
          refine lv_iconst (v := 0) hx hb dX12_act_114 (by decide) ?_
          refine lv_goto (tgt := 119) hx hb dX12_act_115 (by decide) ?_
          exact sj_zret hx hb hr hlocks rfl hS (i, d) ⟨hO, (fun a b ha => rfl), (fun a ha => rfl), ⟨by decide, by decide⟩, (fun q => hfw q.2), (w1P_0 _ _), (fun _ => rfl)⟩ hH (sj_Knil hK) (Nat.le_of_ble_eq_true rfl) (Nat.le_of_ble_eq_true rfl) dX12_act_119
