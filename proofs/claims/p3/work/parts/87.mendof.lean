theorem dX12_endOf_0 : decode cX12_endOf 0 = .ok (.aload_n 0, 1) := by decide +kernel
theorem dX12_endOf_1 : decode cX12_endOf 1 = .ok (.getfield 245, 3) := by decide +kernel
theorem dX12_endOf_4 : decode cX12_endOf 4 = .ok (.iload_n 1, 1) := by decide +kernel
theorem dX12_endOf_5 : decode cX12_endOf 5 = .ok (.iaload, 1) := by decide +kernel
theorem dX12_endOf_6 : decode cX12_endOf 6 = .ok (.istore 4, 2) := by decide +kernel
theorem dX12_endOf_8 : decode cX12_endOf 8 = .ok (.iload 4, 2) := by decide +kernel
theorem dX12_endOf_10 : decode cX12_endOf 10 = .ok (.iconst 1, 1) := by decide +kernel
theorem dX12_endOf_11 : decode cX12_endOf 11 = .ok (.if_icmp .ne 34, 3) := by decide +kernel
theorem dX12_endOf_45 : decode cX12_endOf 45 = .ok (.iload 4, 2) := by decide +kernel
theorem dX12_endOf_47 : decode cX12_endOf 47 = .ok (.iconst 2, 1) := by decide +kernel
theorem dX12_endOf_48 : decode cX12_endOf 48 = .ok (.if_icmp .ne 54, 3) := by decide +kernel
theorem dX12_endOf_102 : decode cX12_endOf 102 = .ok (.iload 4, 2) := by decide +kernel
theorem dX12_endOf_104 : decode cX12_endOf 104 = .ok (.iconst 3, 1) := by decide +kernel
theorem dX12_endOf_105 : decode cX12_endOf 105 = .ok (.if_icmp .ne 54, 3) := by decide +kernel
theorem dX12_endOf_159 : decode cX12_endOf 159 = .ok (.aload_n 0, 1) := by decide +kernel
theorem dX12_endOf_160 : decode cX12_endOf 160 = .ok (.getfield 251, 3) := by decide +kernel
theorem dX12_endOf_163 : decode cX12_endOf 163 = .ok (.iload_n 1, 1) := by decide +kernel
theorem dX12_endOf_164 : decode cX12_endOf 164 = .ok (.iaload, 1) := by decide +kernel
theorem dX12_endOf_165 : decode cX12_endOf 165 = .ok (.i2c, 1) := by decide +kernel
theorem dX12_endOf_166 : decode cX12_endOf 166 = .ok (.istore 5, 2) := by decide +kernel
theorem dX12_endOf_168 : decode cX12_endOf 168 = .ok (.aload_n 0, 1) := by decide +kernel
theorem dX12_endOf_169 : decode cX12_endOf 169 = .ok (.iload 5, 2) := by decide +kernel
theorem dX12_endOf_171 : decode cX12_endOf 171 = .ok (.iload_n 2, 1) := by decide +kernel
theorem dX12_endOf_172 : decode cX12_endOf 172 = .ok (.invokevirtual 330, 3) := by decide +kernel
theorem dX12_endOf_175 : decode cX12_endOf 175 = .ok (.istore 6, 2) := by decide +kernel
theorem dX12_endOf_177 : decode cX12_endOf 177 = .ok (.iload 6, 2) := by decide +kernel
theorem dX12_endOf_179 : decode cX12_endOf 179 = .ok (.ifCond .eq 19, 3) := by decide +kernel
theorem dX12_endOf_198 : decode cX12_endOf 198 = .ok (.bipush (-2), 2) := by decide +kernel
theorem dX12_endOf_200 : decode cX12_endOf 200 = .ok (.goto 9, 3) := by decide +kernel
theorem dX12_endOf_209 : decode cX12_endOf 209 = .ok (.ireturn, 1) := by decide +kernel
theorem dX12_endOf_182 : decode cX12_endOf 182 = .ok (.iload 6, 2) := by decide +kernel
theorem dX12_endOf_184 : decode cX12_endOf 184 = .ok (.iload_n 3, 1) := by decide +kernel
theorem dX12_endOf_185 : decode cX12_endOf 185 = .ok (.isub, 1) := by decide +kernel
theorem dX12_endOf_186 : decode cX12_endOf 186 = .ok (.aload_n 0, 1) := by decide +kernel
theorem dX12_endOf_187 : decode cX12_endOf 187 = .ok (.iload 5, 2) := by decide +kernel
theorem dX12_endOf_189 : decode cX12_endOf 189 = .ok (.iload_n 2, 1) := by decide +kernel
theorem dX12_endOf_190 : decode cX12_endOf 190 = .ok (.iload 6, 2) := by decide +kernel
theorem dX12_endOf_192 : decode cX12_endOf 192 = .ok (.invokevirtual 333, 3) := by decide +kernel
theorem dX12_endOf_195 : decode cX12_endOf 195 = .ok (.if_icmp .ge 8, 3) := by decide +kernel
theorem dX12_endOf_203 : decode cX12_endOf 203 = .ok (.iload_n 2, 1) := by decide +kernel
theorem dX12_endOf_204 : decode cX12_endOf 204 = .ok (.iload 6, 2) := by decide +kernel
theorem dX12_endOf_206 : decode cX12_endOf 206 = .ok (.iadd, 1) := by decide +kernel
theorem dX12_endOf_207 : decode cX12_endOf 207 = .ok (.iload_n 3, 1) := by decide +kernel
theorem dX12_endOf_208 : decode cX12_endOf 208 = .ok (.isub, 1) := by decide +kernel
theorem dX12_endOf_108 : decode cX12_endOf 108 = .ok (.iload_n 3, 1) := by decide +kernel
theorem dX12_endOf_109 : decode cX12_endOf 109 = .ok (.aload_n 0, 1) := by decide +kernel
theorem dX12_endOf_110 : decode cX12_endOf 110 = .ok (.getfield 254, 3) := by decide +kernel
theorem dX12_endOf_113 : decode cX12_endOf 113 = .ok (.iload_n 1, 1) := by decide +kernel
theorem dX12_endOf_114 : decode cX12_endOf 114 = .ok (.iaload, 1) := by decide +kernel
theorem dX12_endOf_115 : decode cX12_endOf 115 = .ok (.if_icmp .lt 8, 3) := by decide +kernel
theorem dX12_endOf_123 : decode cX12_endOf 123 = .ok (.aload_n 0, 1) := by decide +kernel
theorem dX12_endOf_124 : decode cX12_endOf 124 = .ok (.aload_n 0, 1) := by decide +kernel
theorem dX12_endOf_125 : decode cX12_endOf 125 = .ok (.getfield 251, 3) := by decide +kernel
theorem dX12_endOf_128 : decode cX12_endOf 128 = .ok (.iload_n 1, 1) := by decide +kernel
theorem dX12_endOf_129 : decode cX12_endOf 129 = .ok (.iaload, 1) := by decide +kernel
theorem dX12_endOf_130 : decode cX12_endOf 130 = .ok (.iload_n 3, 1) := by decide +kernel
theorem dX12_endOf_131 : decode cX12_endOf 131 = .ok (.iadd, 1) := by decide +kernel
theorem dX12_endOf_132 : decode cX12_endOf 132 = .ok (.iload_n 2, 1) := by decide +kernel
theorem dX12_endOf_133 : decode cX12_endOf 133 = .ok (.invokevirtual 326, 3) := by decide +kernel
theorem dX12_endOf_136 : decode cX12_endOf 136 = .ok (.ifCond .eq 21, 3) := by decide +kernel
theorem dX12_endOf_157 : decode cX12_endOf 157 = .ok (.iconst (-1), 1) := by decide +kernel
theorem dX12_endOf_158 : decode cX12_endOf 158 = .ok (.ireturn, 1) := by decide +kernel
theorem dX12_endOf_139 : decode cX12_endOf 139 = .ok (.iload_n 2, 1) := by decide +kernel
theorem dX12_endOf_140 : decode cX12_endOf 140 = .ok (.aload_n 0, 1) := by decide +kernel
theorem dX12_endOf_141 : decode cX12_endOf 141 = .ok (.getfield 266, 3) := by decide +kernel
theorem dX12_endOf_144 : decode cX12_endOf 144 = .ok (.aload_n 0, 1) := by decide +kernel
theorem dX12_endOf_145 : decode cX12_endOf 145 = .ok (.getfield 251, 3) := by decide +kernel
theorem dX12_endOf_148 : decode cX12_endOf 148 = .ok (.iload_n 1, 1) := by decide +kernel
theorem dX12_endOf_149 : decode cX12_endOf 149 = .ok (.iaload, 1) := by decide +kernel
theorem dX12_endOf_150 : decode cX12_endOf 150 = .ok (.iload_n 3, 1) := by decide +kernel
theorem dX12_endOf_151 : decode cX12_endOf 151 = .ok (.iadd, 1) := by decide +kernel
theorem dX12_endOf_152 : decode cX12_endOf 152 = .ok (.iaload, 1) := by decide +kernel
theorem dX12_endOf_153 : decode cX12_endOf 153 = .ok (.iadd, 1) := by decide +kernel
theorem dX12_endOf_154 : decode cX12_endOf 154 = .ok (.goto 4, 3) := by decide +kernel
theorem dX12_endOf_118 : decode cX12_endOf 118 = .ok (.bipush (-2), 2) := by decide +kernel
theorem dX12_endOf_120 : decode cX12_endOf 120 = .ok (.goto 38, 3) := by decide +kernel
theorem dX12_endOf_51 : decode cX12_endOf 51 = .ok (.iload_n 3, 1) := by decide +kernel
theorem dX12_endOf_52 : decode cX12_endOf 52 = .ok (.iconst 1, 1) := by decide +kernel
theorem dX12_endOf_53 : decode cX12_endOf 53 = .ok (.if_icmp .le 8, 3) := by decide +kernel
theorem dX12_endOf_61 : decode cX12_endOf 61 = .ok (.iload_n 3, 1) := by decide +kernel
theorem dX12_endOf_62 : decode cX12_endOf 62 = .ok (.iconst 1, 1) := by decide +kernel
theorem dX12_endOf_63 : decode cX12_endOf 63 = .ok (.if_icmp .ne 7, 3) := by decide +kernel
theorem dX12_endOf_70 : decode cX12_endOf 70 = .ok (.aload_n 0, 1) := by decide +kernel
theorem dX12_endOf_71 : decode cX12_endOf 71 = .ok (.aload_n 0, 1) := by decide +kernel
theorem dX12_endOf_72 : decode cX12_endOf 72 = .ok (.getfield 251, 3) := by decide +kernel
theorem dX12_endOf_75 : decode cX12_endOf 75 = .ok (.iload_n 1, 1) := by decide +kernel
theorem dX12_endOf_76 : decode cX12_endOf 76 = .ok (.iaload, 1) := by decide +kernel
theorem dX12_endOf_77 : decode cX12_endOf 77 = .ok (.iload_n 2, 1) := by decide +kernel
theorem dX12_endOf_78 : decode cX12_endOf 78 = .ok (.invokevirtual 326, 3) := by decide +kernel
theorem dX12_endOf_81 : decode cX12_endOf 81 = .ok (.ifCond .eq 19, 3) := by decide +kernel
theorem dX12_endOf_100 : decode cX12_endOf 100 = .ok (.iconst (-1), 1) := by decide +kernel
theorem dX12_endOf_101 : decode cX12_endOf 101 = .ok (.ireturn, 1) := by decide +kernel
theorem dX12_endOf_84 : decode cX12_endOf 84 = .ok (.iload_n 2, 1) := by decide +kernel
theorem dX12_endOf_85 : decode cX12_endOf 85 = .ok (.aload_n 0, 1) := by decide +kernel
theorem dX12_endOf_86 : decode cX12_endOf 86 = .ok (.getfield 266, 3) := by decide +kernel
theorem dX12_endOf_89 : decode cX12_endOf 89 = .ok (.aload_n 0, 1) := by decide +kernel
theorem dX12_endOf_90 : decode cX12_endOf 90 = .ok (.getfield 251, 3) := by decide +kernel
theorem dX12_endOf_93 : decode cX12_endOf 93 = .ok (.iload_n 1, 1) := by decide +kernel
theorem dX12_endOf_94 : decode cX12_endOf 94 = .ok (.iaload, 1) := by decide +kernel
theorem dX12_endOf_95 : decode cX12_endOf 95 = .ok (.iaload, 1) := by decide +kernel
theorem dX12_endOf_96 : decode cX12_endOf 96 = .ok (.iadd, 1) := by decide +kernel
theorem dX12_endOf_97 : decode cX12_endOf 97 = .ok (.goto 4, 3) := by decide +kernel
theorem dX12_endOf_66 : decode cX12_endOf 66 = .ok (.iload_n 2, 1) := by decide +kernel
theorem dX12_endOf_67 : decode cX12_endOf 67 = .ok (.goto 34, 3) := by decide +kernel
theorem dX12_endOf_56 : decode cX12_endOf 56 = .ok (.bipush (-2), 2) := by decide +kernel
theorem dX12_endOf_58 : decode cX12_endOf 58 = .ok (.goto 43, 3) := by decide +kernel
theorem dX12_endOf_14 : decode cX12_endOf 14 = .ok (.iload_n 3, 1) := by decide +kernel
theorem dX12_endOf_15 : decode cX12_endOf 15 = .ok (.ifCond .le 8, 3) := by decide +kernel
theorem dX12_endOf_23 : decode cX12_endOf 23 = .ok (.aload_n 0, 1) := by decide +kernel
theorem dX12_endOf_24 : decode cX12_endOf 24 = .ok (.iload_n 2, 1) := by decide +kernel
theorem dX12_endOf_25 : decode cX12_endOf 25 = .ok (.invokevirtual 320, 3) := by decide +kernel
theorem dX12_endOf_28 : decode cX12_endOf 28 = .ok (.aload_n 0, 1) := by decide +kernel
theorem dX12_endOf_29 : decode cX12_endOf 29 = .ok (.getfield 251, 3) := by decide +kernel
theorem dX12_endOf_32 : decode cX12_endOf 32 = .ok (.iload_n 1, 1) := by decide +kernel
theorem dX12_endOf_33 : decode cX12_endOf 33 = .ok (.iaload, 1) := by decide +kernel
theorem dX12_endOf_34 : decode cX12_endOf 34 = .ok (.if_icmp .ne 9, 3) := by decide +kernel
theorem dX12_endOf_43 : decode cX12_endOf 43 = .ok (.iconst (-1), 1) := by decide +kernel
theorem dX12_endOf_44 : decode cX12_endOf 44 = .ok (.ireturn, 1) := by decide +kernel
theorem dX12_endOf_37 : decode cX12_endOf 37 = .ok (.iload_n 2, 1) := by decide +kernel
theorem dX12_endOf_38 : decode cX12_endOf 38 = .ok (.iconst 1, 1) := by decide +kernel
theorem dX12_endOf_39 : decode cX12_endOf 39 = .ok (.iadd, 1) := by decide +kernel
theorem dX12_endOf_40 : decode cX12_endOf 40 = .ok (.goto 4, 3) := by decide +kernel
theorem dX12_endOf_18 : decode cX12_endOf 18 = .ok (.bipush (-2), 2) := by decide +kernel
theorem dX12_endOf_20 : decode cX12_endOf 20 = .ok (.goto 24, 3) := by decide +kernel
theorem gw_X12_most : wsX12_most.all goodWord = true := by decide +kernel
theorem gX12_endOf_X12_most : GoodIn wsX12_endOf (wsV RX12 330 RX12 yX12_most wsX12_most) := goodIn_app (goodIn_sub (List.forall_mem_cons.mpr ⟨(List.mem_cons_of_mem _ (List.mem_append_left _ (List.mem_append_left _ lm17))), List.forall_mem_cons.mpr ⟨(List.mem_cons_of_mem _ (List.mem_append_left _ (List.mem_append_left _ lm18))), List.forall_mem_cons.mpr ⟨(List.mem_cons_of_mem _ (List.mem_append_left _ (List.mem_append_left _ lm19))), List.forall_mem_cons.mpr ⟨(List.mem_cons_of_mem _ (List.mem_append_left _ (List.mem_append_left _ lm7))), (fun _ h => absurd h List.not_mem_nil)⟩⟩⟩⟩) (by decide +kernel)) (goodIn_sub (by unfold wsX12_most; exact List.forall_mem_cons.mpr ⟨(List.mem_cons_of_mem _ (List.mem_append_left _ (List.mem_append_left _ lm20))), List.forall_mem_append.mpr ⟨List.forall_mem_cons.mpr ⟨(List.mem_cons_of_mem _ (List.mem_append_left _ (List.mem_append_left _ lm9))), List.forall_mem_cons.mpr ⟨(List.mem_cons_of_mem _ (List.mem_append_left _ (List.mem_append_left _ lm10))), List.forall_mem_cons.mpr ⟨(List.mem_cons_of_mem _ (List.mem_append_left _ (List.mem_append_left _ lm4))), List.forall_mem_cons.mpr ⟨(List.mem_cons_of_mem _ (List.mem_append_left _ (List.mem_append_left _ lm5))), List.forall_mem_cons.mpr ⟨(List.mem_cons_of_mem _ (List.mem_append_left _ (List.mem_append_left _ lm6))), List.forall_mem_cons.mpr ⟨(List.mem_cons_of_mem _ (List.mem_append_left _ (List.mem_append_left _ lm7))), List.forall_mem_cons.mpr ⟨(List.mem_cons_of_mem _ (List.mem_append_left _ (List.mem_append_left _ lm8))), List.forall_mem_cons.mpr ⟨(List.mem_cons_of_mem _ (List.mem_append_left _ (List.mem_append_left _ lm21))), List.forall_mem_cons.mpr ⟨(List.mem_cons_of_mem _ (List.mem_append_left _ (List.mem_append_left _ lm22))), List.forall_mem_cons.mpr ⟨(List.mem_cons_of_mem _ (List.mem_append_left _ (List.mem_append_left _ lm23))), List.forall_mem_cons.mpr ⟨(List.mem_cons_of_mem _ (List.mem_append_left _ (List.mem_append_right _ lm0))), (fun _ h => absurd h List.not_mem_nil)⟩⟩⟩⟩⟩⟩⟩⟩⟩⟩⟩, (fun _ h => (List.mem_cons_of_mem _ (List.mem_append_right _ h)))⟩⟩) gw_X12_most)
theorem gw_X12_least : wsX12_least.all goodWord = true := by decide +kernel
theorem gX12_endOf_X12_least : GoodIn wsX12_endOf (wsV RX12 333 RX12 yX12_least wsX12_least) := goodIn_app (goodIn_sub (List.forall_mem_cons.mpr ⟨(List.mem_cons_of_mem _ (List.mem_append_left _ (List.mem_append_right _ lm1))), List.forall_mem_cons.mpr ⟨(List.mem_cons_of_mem _ (List.mem_append_left _ (List.mem_append_right _ lm2))), List.forall_mem_cons.mpr ⟨(List.mem_cons_of_mem _ (List.mem_append_left _ (List.mem_append_right _ lm3))), List.forall_mem_cons.mpr ⟨(List.mem_cons_of_mem _ (List.mem_append_left _ (List.mem_append_left _ lm7))), (fun _ h => absurd h List.not_mem_nil)⟩⟩⟩⟩) (by decide +kernel)) (goodIn_sub (by unfold wsX12_least; exact List.forall_mem_cons.mpr ⟨(List.mem_cons_of_mem _ (List.mem_append_left _ (List.mem_append_right _ lm4))), List.forall_mem_append.mpr ⟨List.forall_mem_cons.mpr ⟨(List.mem_cons_of_mem _ (List.mem_append_left _ (List.mem_append_left _ lm4))), List.forall_mem_cons.mpr ⟨(List.mem_cons_of_mem _ (List.mem_append_left _ (List.mem_append_left _ lm5))), List.forall_mem_cons.mpr ⟨(List.mem_cons_of_mem _ (List.mem_append_left _ (List.mem_append_left _ lm6))), List.forall_mem_cons.mpr ⟨(List.mem_cons_of_mem _ (List.mem_append_left _ (List.mem_append_left _ lm7))), List.forall_mem_cons.mpr ⟨(List.mem_cons_of_mem _ (List.mem_append_left _ (List.mem_append_left _ lm8))), List.forall_mem_cons.mpr ⟨(List.mem_cons_of_mem _ (List.mem_append_left _ (List.mem_append_left _ lm9))), List.forall_mem_cons.mpr ⟨(List.mem_cons_of_mem _ (List.mem_append_left _ (List.mem_append_left _ lm10))), List.forall_mem_cons.mpr ⟨(List.mem_cons_of_mem _ (List.mem_append_left _ (List.mem_append_left _ lm21))), List.forall_mem_cons.mpr ⟨(List.mem_cons_of_mem _ (List.mem_append_left _ (List.mem_append_left _ lm22))), List.forall_mem_cons.mpr ⟨(List.mem_cons_of_mem _ (List.mem_append_left _ (List.mem_append_left _ lm23))), List.forall_mem_cons.mpr ⟨(List.mem_cons_of_mem _ (List.mem_append_left _ (List.mem_append_right _ lm0))), (fun _ h => absurd h List.not_mem_nil)⟩⟩⟩⟩⟩⟩⟩⟩⟩⟩⟩, (fun _ h => (List.mem_cons_of_mem _ (List.mem_append_right _ h)))⟩⟩) gw_X12_least)
theorem gw_X12_stands : wsX12_stands.all goodWord = true := by decide +kernel
theorem gX12_endOf_X12_stands : GoodIn wsX12_endOf (wsV RX12 326 RX12 yX12_stands wsX12_stands) := goodIn_app (goodIn_sub (List.forall_mem_cons.mpr ⟨(List.mem_cons_of_mem _ (List.mem_append_left _ (List.mem_append_left _ lm11))), List.forall_mem_cons.mpr ⟨(List.mem_cons_of_mem _ (List.mem_append_left _ (List.mem_append_left _ lm12))), List.forall_mem_cons.mpr ⟨(List.mem_cons_of_mem _ (List.mem_append_left _ (List.mem_append_left _ lm13))), List.forall_mem_cons.mpr ⟨(List.mem_cons_of_mem _ (List.mem_append_left _ (List.mem_append_left _ lm7))), (fun _ h => absurd h List.not_mem_nil)⟩⟩⟩⟩) (by decide +kernel)) (goodIn_sub (by unfold wsX12_stands; exact List.forall_mem_cons.mpr ⟨(List.mem_cons_of_mem _ (List.mem_append_left _ (List.mem_append_left _ lm14))), List.forall_mem_append.mpr ⟨List.forall_mem_cons.mpr ⟨(List.mem_cons_of_mem _ (List.mem_append_left _ (List.mem_append_left _ lm2))), List.forall_mem_cons.mpr ⟨(List.mem_cons_of_mem _ (List.mem_append_left _ (List.mem_append_left _ lm9))), List.forall_mem_cons.mpr ⟨(List.mem_cons_of_mem _ (List.mem_append_left _ (List.mem_append_left _ lm10))), List.forall_mem_cons.mpr ⟨(List.mem_cons_of_mem _ (List.mem_append_left _ (List.mem_append_left _ lm15))), List.forall_mem_cons.mpr ⟨(List.mem_cons_of_mem _ (List.mem_append_left _ (List.mem_append_left _ lm16))), (fun _ h => absurd h List.not_mem_nil)⟩⟩⟩⟩⟩, (fun _ h => (List.mem_cons_of_mem _ (List.mem_append_right _ h)))⟩⟩) gw_X12_stands)
theorem gX12_endOf_X12_in : GoodIn wsX12_endOf (wsV RX12 320 RX12 yX12_in wsX12_in) := goodIn_app (goodIn_sub (List.forall_mem_cons.mpr ⟨(List.mem_cons_of_mem _ (List.mem_append_left _ (List.mem_append_left _ lm4))), List.forall_mem_cons.mpr ⟨(List.mem_cons_of_mem _ (List.mem_append_left _ (List.mem_append_left _ lm5))), List.forall_mem_cons.mpr ⟨(List.mem_cons_of_mem _ (List.mem_append_left _ (List.mem_append_left _ lm6))), List.forall_mem_cons.mpr ⟨(List.mem_cons_of_mem _ (List.mem_append_left _ (List.mem_append_left _ lm7))), (fun _ h => absurd h List.not_mem_nil)⟩⟩⟩⟩) (by decide +kernel)) (goodIn_sub (by unfold wsX12_in; exact List.forall_mem_cons.mpr ⟨(List.mem_cons_of_mem _ (List.mem_append_left _ (List.mem_append_left _ lm8))), List.forall_mem_append.mpr ⟨List.forall_mem_cons.mpr ⟨(List.mem_cons_of_mem _ (List.mem_append_left _ (List.mem_append_left _ lm9))), List.forall_mem_cons.mpr ⟨(List.mem_cons_of_mem _ (List.mem_append_left _ (List.mem_append_left _ lm10))), (fun _ h => absurd h List.not_mem_nil)⟩⟩, (fun _ h => (List.mem_cons_of_mem _ (List.mem_append_right _ h)))⟩⟩) gw_X12_in)
set_option maxHeartbeats 2000000 in
set_option maxRecDepth 100000 in
theorem m_endOf (l : Launch) (D : va_G) (g : Nat → Nat) (ka : Nat → ClassId) (ad : Nat → Nat) (i : Nat → Nat → Int32) (r : Nat → Nat → Nat) (L : Nat → Nat → Int64) (d : Nat → Nat → UInt64) (x : Int32) (y : Int32) (z : Int32) (hO : OkI i) (hR : RS r) (sz : Nat) (hx0 : 0 ≤ x.toInt) (hxp : x.toInt < (i 36 45).toInt) (hex : exI i) (hy0 : 0 ≤ y.toInt) (hy1 : y.toInt ≤ 60) (hz0 : 0 ≤ z.toInt) (hz1 : z.toInt ≤ 61) : Met l yX12_endOf wsX12_endOf ({ frames := 3, cells := 0, slots := 0, locals := 68 }) (va_Pc [.ref (g 36), .int x, .int y, .int z] (sj_B D (hwc g ka i r L d) (hT ka) sz (gx ad (va_A (hwc g ka i r L d) sz)))) (sj_Qi (S := Unit) D (fun v u => ((-2 : Int) ≤ v.toInt ∧ v.toInt ≤ 61) ∧ (endR i x.toInt y.toInt z.toInt v.toInt)) (fun _ => hwc g ka i r L d) (fun _ => []) (va_A (hwc g ka i r L d) sz)) 0 0 (va_A (hwc g ka i r L d) sz) := by
  refine x_met (Ex := gx ad) (cc := cX12_endOf) (maxL := 7) (ret := (some .int)) (by decide) rfl (Nat.le_of_ble_eq_true rfl) ?_
  intro p e s m below meth c A ls hx hb hr hml hts hown hlocks hA hS hH hK hE hl
  have hown : s.vm.findClass RX12 = some m.cls := hown
  have in12 : ∀ w ∈ wsX120, w ∈ wsX12_endOf := (fun _ h => (List.mem_cons_of_mem _ (List.mem_append_right _ h)))
  have wd0 := hts (.fieldLink RX12 245 "StoryDeskModel" "partKind" "[I") (List.mem_cons_of_mem _ (List.mem_append_left _ (List.mem_append_left _ lm0)))
  have wd1 := hts (.fieldLink RX12 251 "StoryDeskModel" "partOf" "[I") (List.mem_cons_of_mem _ (List.mem_append_left _ (List.mem_append_left _ lm1)))
  have wd2 := hts (.fieldLink RX12 254 "StoryDeskModel" "partMany" "[I") (List.mem_cons_of_mem _ (List.mem_append_left _ (List.mem_append_left _ lm3)))
  have wd3 := hts (.fieldLink RX12 266 "StoryDeskModel" "textSize" "[I") (List.mem_cons_of_mem _ (List.mem_append_left _ (List.mem_append_left _ lm2)))
  have hl : lv_has ls 7 [(0, .ref (g 36)), (1, .int x), (2, .int y), (3, .int z)] := hl
  have hK : va_K D vwCl (hT ka) s := hK
  have hb40 : (0 : Int) ≤ (i 36 40).toInt ∧ (i 36 40).toInt ≤ 60 := hO 36 40
  have hp9 := hex.1 x.toInt.toNat (by omega)
  unfold exU at hp9
  have hb49 : (0 : Int) ≤ (i 36 49).toInt ∧ (i 36 49).toInt ≤ 64 := hO 36 49
  have hb45 : (0 : Int) ≤ (i 36 45).toInt ∧ (i 36 45).toInt ≤ 64 := hO 36 45
  have hszA : ∀ t : Nat, (t : Int) < (i 36 49).toInt → 0 ≤ (i 410 t).toInt := fun t ht => (hex.2 t ht).2.1
  refine lv_aload_n hx hb dX12_endOf_0 rfl (lv_at hl 0 rfl) ?_
  refine h_getr (ci := 12) (C := RX12) (F := TX12) (N := 86) hx hb hts in12 hown hK hH (by decide) (rfl : kd 36 = 12) (by decide) rfl 46 (by decide) wd0 (fun _ h9 => h9) (by decide) rfl (t := 406) (hR 36 46 rfl) (by decide) dX12_endOf_1 ?_
  refine lv_iload_n hx hb dX12_endOf_4 rfl (lv_at hl 1 rfl) ?_
  refine h_iald hx hb hK hH (by decide) (rfl : kd 406 = 13) (s_vin (N := 64) (rfl : x.toInt = _) (rfl : ln 406 = 64) (by omega) (by omega)) dX12_endOf_5 ?_
  have ek_1 : x.toNatClampNeg = (x.toInt).toNat := (s_cl (show x.toInt = x.toInt by omega))
  refine sj_i (y := (i 406 (x.toInt).toNat)) (by rw [ek_1]) ?_
  refine lv_istore (lv' := [(4, .int (i 406 (x.toInt).toNat)), (0, .ref (g 36)), (1, .int x), (2, .int y), (3, .int z)]) hx hb dX12_endOf_6 hl (by decide) rfl (fun ls hl => ?_)
  refine lv_iload hx hb dX12_endOf_8 (lv_at hl 0 rfl) ?_
  refine lv_iconst (v := 1) hx hb dX12_endOf_10 (by decide) ?_
  refine lv_icmp_ne (tgt := 45) hx hb dX12_endOf_11 (by decide) (fun c_2 => ?_) (fun c_2 => ?_)
  · skip
    have h_3 := s_ne (rfl : (i 406 (x.toInt).toNat).toInt = _) (show (1 : Int32).toInt = 1 from rfl) c_2
    refine lv_iload hx hb dX12_endOf_45 (lv_at hl 0 rfl) ?_
    refine lv_iconst (v := 2) hx hb dX12_endOf_47 (by decide) ?_
    refine lv_icmp_ne (tgt := 102) hx hb dX12_endOf_48 (by decide) (fun c_4 => ?_) (fun c_4 => ?_)
    · skip
      have h_5 := s_ne (rfl : (i 406 (x.toInt).toNat).toInt = _) (show (2 : Int32).toInt = 2 from rfl) c_4
      refine lv_iload hx hb dX12_endOf_102 (lv_at hl 0 rfl) ?_
      refine lv_iconst (v := 3) hx hb dX12_endOf_104 (by decide) ?_
      refine lv_icmp_ne (tgt := 159) hx hb dX12_endOf_105 (by decide) (fun c_6 => ?_) (fun c_6 => ?_)
      · skip
        have h_7 := s_ne (rfl : (i 406 (x.toInt).toNat).toInt = _) (show (3 : Int32).toInt = 3 from rfl) c_6
        refine lv_aload_n hx hb dX12_endOf_159 rfl (lv_at hl 1 rfl) ?_
        refine h_getr (ci := 12) (C := RX12) (F := TX12) (N := 86) hx hb hts in12 hown hK hH (by decide) (rfl : kd 36 = 12) (by decide) rfl 47 (by decide) wd1 (fun _ h9 => h9) (by decide) rfl (t := 407) (hR 36 47 rfl) (by decide) dX12_endOf_160 ?_
        refine lv_iload_n hx hb dX12_endOf_163 rfl (lv_at hl 2 rfl) ?_
        refine h_iald hx hb hK hH (by decide) (rfl : kd 407 = 13) (s_vin (N := 64) (rfl : x.toInt = _) (rfl : ln 407 = 64) (by omega) (by omega)) dX12_endOf_164 ?_
        have ek_8 : x.toNatClampNeg = (x.toInt).toNat := (s_cl (show x.toInt = x.toInt by omega))
        refine sj_i (y := (i 407 (x.toInt).toNat)) (by rw [ek_8]) ?_
        refine lv_i2c hx hb dX12_endOf_165 rfl ?_
        refine lv_topi (fun z_9 ez_9 => ?_)
        have hz_9 := congrArg Int32.toInt (s_i2cE ez_9 (by omega) (by omega))
        refine lv_istore (lv' := [(5, .int z_9), (4, .int (i 406 (x.toInt).toNat)), (0, .ref (g 36)), (1, .int x), (2, .int y), (3, .int z)]) hx hb dX12_endOf_166 hl (by decide) rfl (fun ls hl => ?_)
        refine lv_aload_n hx hb dX12_endOf_168 rfl (lv_at hl 2 rfl) ?_
        refine lv_iload hx hb dX12_endOf_169 (lv_at hl 0 rfl) ?_
        refine lv_iload_n hx hb dX12_endOf_171 rfl (lv_at hl 4 rfl) ?_
        refine x_calli (va_runV (As := [.int z_9, .int y]) (rest := []) ⟨hx, hb, hml, hown, hts⟩ (m_most l D g ka ad i r L d z_9 y hO hR s.heap.size (by first | omega | decide) (by first | omega | decide) (by first | omega | decide) (by first | omega | decide)) (cwV 2 hts gX12_endOf_X12_most rfl rfl rfl (by decide +kernel) ⟨(Nat.le_of_ble_eq_true rfl), (Nat.le_of_ble_eq_true rfl)⟩) (x_preV (q := (RX12, TX12, 86)) hH hK (q_obj (by decide) (rfl : kd 36 = 12) (by decide)) rfl gxb (gxw hE hS (x_F hH hS hA))) rfl rfl hl.1 rfl (lv_room (Nat.le_of_ble_eq_true rfl)) dX12_endOf_172 ⟨(Nat.le_of_ble_eq_true rfl), (Nat.le_of_ble_eq_true rfl)⟩) hH hS hA rfl rfl (fun r_10 _ H locs hw_11 hH hS => ?_)
        obtain ⟨hr_13, hx2_14⟩ := hw_11
        have hr_13 : (0 : Int) ≤ r_10.toInt ∧ r_10.toInt ≤ 130 := hr_13
        have hmb := moR_b hx2_14 (by omega)
        have hmb1 := hmb.1
        have hmb2 := hmb.2
        refine lv_istore (lv' := [(6, .int r_10), (5, .int z_9), (4, .int (i 406 (x.toInt).toNat)), (0, .ref (g 36)), (1, .int x), (2, .int y), (3, .int z)]) hx hb dX12_endOf_175 hl (by decide) rfl (fun ls hl => ?_)
        refine lv_iload hx hb dX12_endOf_177 (lv_at hl 0 rfl) ?_
        refine lv_if_eq (tgt := 198) hx hb dX12_endOf_179 (by decide) (fun c_15 => ?_) (fun c_15 => ?_)
        · skip
          have h_16 := s_eq (rfl : r_10.toInt = _) (show (0 : Int32).toInt = 0 from rfl) c_15
          refine lv_bipush (v := (-2)) hx hb dX12_endOf_198 (by decide) ?_
          refine lv_goto (tgt := 209) hx hb dX12_endOf_200 (by decide) ?_
          have hlv_17 : ((-2) : Int32).toInt = -2 := rfl
          have hV_18 : endR i x.toInt y.toInt z.toInt ((-2) : Int32).toInt := (Or.inr (Or.inr (Or.inr ⟨by omega, by omega, by omega, r_10.toInt, (by have h9 := hx2_14; rw [show z_9.toInt = (i 407 x.toInt.toNat).toInt by omega] at h9; exact h9), Or.inl ⟨by omega, by omega⟩⟩)))
          exact sj_zret hx hb hr hlocks rfl hS () ⟨⟨by decide, by decide⟩, hV_18⟩ hH (sj_Knil hK) (Nat.le_of_ble_eq_true rfl) (Nat.le_of_ble_eq_true rfl) dX12_endOf_209
        · skip
          have h_19 := s_ne (rfl : r_10.toInt = _) (show (0 : Int32).toInt = 0 from rfl) c_15
          refine lv_iload hx hb dX12_endOf_182 (lv_at hl 0 rfl) ?_
          refine lv_iload_n hx hb dX12_endOf_184 rfl (lv_at hl 6 rfl) ?_
          refine lv_isub hx hb dX12_endOf_185 ?_
          obtain ⟨z_20, ez_20, hz_20⟩ := s_sub (rfl : r_10.toInt = _) (rfl : z.toInt = _) (by omega) (by omega)
          refine sj_i ez_20 ?_
          refine lv_aload_n hx hb dX12_endOf_186 rfl (lv_at hl 3 rfl) ?_
          refine lv_iload hx hb dX12_endOf_187 (lv_at hl 1 rfl) ?_
          refine lv_iload_n hx hb dX12_endOf_189 rfl (lv_at hl 5 rfl) ?_
          refine lv_iload hx hb dX12_endOf_190 (lv_at hl 0 rfl) ?_
          refine x_calli (va_runV (As := [.int z_9, .int y, .int r_10]) (rest := [.int z_20]) ⟨hx, hb, hml, hown, hts⟩ (m_least l D g ka ad i r L d z_9 y r_10 hO hR H.size (by first | omega | decide) (by first | omega | decide) (by first | omega | decide) (by first | omega | decide) (by first | omega | decide) (by first | omega | decide)) (cwV 3 hts gX12_endOf_X12_least rfl rfl rfl (by decide +kernel) ⟨(Nat.le_of_ble_eq_true rfl), (Nat.le_of_ble_eq_true rfl)⟩) (x_preV (q := (RX12, TX12, 86)) hH hK (q_obj (by decide) (rfl : kd 36 = 12) (by decide)) rfl gxb (gxw hE hS (x_F hH hS hA))) rfl rfl hl.1 rfl (lv_room (Nat.le_of_ble_eq_true rfl)) dX12_endOf_192 ⟨(Nat.le_of_ble_eq_true rfl), (Nat.le_of_ble_eq_true rfl)⟩) hH hS hA rfl rfl (fun r_21 _ H locs hw_22 hH hS => ?_)
          obtain ⟨hr_24, hx2_25⟩ := hw_22
          have hr_24 : (0 : Int) ≤ r_21.toInt ∧ r_21.toInt ≤ 200 := hr_24
          refine lv_icmp_ge (tgt := 203) hx hb dX12_endOf_195 (by decide) (fun c_26 => ?_) (fun c_26 => ?_)
          · skip
            have h_27 := s_le (rfl : r_21.toInt = _) (rfl : z_20.toInt = _) c_26
            refine lv_iload_n hx hb dX12_endOf_203 rfl (lv_at hl 5 rfl) ?_
            refine lv_iload hx hb dX12_endOf_204 (lv_at hl 0 rfl) ?_
            refine lv_iadd hx hb dX12_endOf_206 ?_
            obtain ⟨z_28, ez_28, hz_28⟩ := s_add (rfl : y.toInt = _) (rfl : r_10.toInt = _) (by omega) (by omega)
            refine sj_i ez_28 ?_
            refine lv_iload_n hx hb dX12_endOf_207 rfl (lv_at hl 6 rfl) ?_
            refine lv_isub hx hb dX12_endOf_208 ?_
            obtain ⟨z_29, ez_29, hz_29⟩ := s_sub (rfl : z_28.toInt = _) (rfl : z.toInt = _) (by omega) (by omega)
            refine sj_i ez_29 ?_
            have hV_30 : endR i x.toInt y.toInt z.toInt (z_29 : Int32).toInt := (Or.inr (Or.inr (Or.inr ⟨by omega, by omega, by omega, r_10.toInt, (by have h9 := hx2_14; rw [show z_9.toInt = (i 407 x.toInt.toNat).toInt by omega] at h9; exact h9), Or.inr ⟨by omega, r_21.toInt, (by have h9 := hx2_25; rw [show z_9.toInt = (i 407 x.toInt.toNat).toInt by omega] at h9; exact h9), Or.inr ⟨by omega, by omega⟩⟩⟩)))
            exact sj_zret hx hb hr hlocks rfl hS () ⟨⟨by omega, by omega⟩, hV_30⟩ hH (sj_Knil hK) (Nat.le_of_ble_eq_true rfl) (Nat.le_of_ble_eq_true rfl) dX12_endOf_209
          · skip
            have h_31 := s_nle (rfl : r_21.toInt = _) (rfl : z_20.toInt = _) c_26
            refine lv_bipush (v := (-2)) hx hb dX12_endOf_198 (by decide) ?_
            refine lv_goto (tgt := 209) hx hb dX12_endOf_200 (by decide) ?_
            have hlv_32 : ((-2) : Int32).toInt = -2 := rfl
            have hV_33 : endR i x.toInt y.toInt z.toInt ((-2) : Int32).toInt := (Or.inr (Or.inr (Or.inr ⟨by omega, by omega, by omega, r_10.toInt, (by have h9 := hx2_14; rw [show z_9.toInt = (i 407 x.toInt.toNat).toInt by omega] at h9; exact h9), Or.inr ⟨by omega, r_21.toInt, (by have h9 := hx2_25; rw [show z_9.toInt = (i 407 x.toInt.toNat).toInt by omega] at h9; exact h9), Or.inl ⟨by omega, by omega⟩⟩⟩)))
            exact sj_zret hx hb hr hlocks rfl hS () ⟨⟨by decide, by decide⟩, hV_33⟩ hH (sj_Knil hK) (Nat.le_of_ble_eq_true rfl) (Nat.le_of_ble_eq_true rfl) dX12_endOf_209
      · skip
        have h_34 := s_eq (rfl : (i 406 (x.toInt).toNat).toInt = _) (show (3 : Int32).toInt = 3 from rfl) c_6
        refine lv_iload_n hx hb dX12_endOf_108 rfl (lv_at hl 4 rfl) ?_
        refine lv_aload_n hx hb dX12_endOf_109 rfl (lv_at hl 1 rfl) ?_
        refine h_getr (ci := 12) (C := RX12) (F := TX12) (N := 86) hx hb hts in12 hown hK hH (by decide) (rfl : kd 36 = 12) (by decide) rfl 48 (by decide) wd2 (fun _ h9 => h9) (by decide) rfl (t := 408) (hR 36 48 rfl) (by decide) dX12_endOf_110 ?_
        refine lv_iload_n hx hb dX12_endOf_113 rfl (lv_at hl 2 rfl) ?_
        refine h_iald hx hb hK hH (by decide) (rfl : kd 408 = 13) (s_vin (N := 64) (rfl : x.toInt = _) (rfl : ln 408 = 64) (by omega) (by omega)) dX12_endOf_114 ?_
        have ek_35 : x.toNatClampNeg = (x.toInt).toNat := (s_cl (show x.toInt = x.toInt by omega))
        refine sj_i (y := (i 408 (x.toInt).toNat)) (by rw [ek_35]) ?_
        refine lv_icmp_lt (tgt := 123) hx hb dX12_endOf_115 (by decide) (fun c_36 => ?_) (fun c_36 => ?_)
        · skip
          have h_37 := s_lt (rfl : z.toInt = _) (rfl : (i 408 (x.toInt).toNat).toInt = _) c_36
          refine lv_aload_n hx hb dX12_endOf_123 rfl (lv_at hl 1 rfl) ?_
          refine lv_aload_n hx hb dX12_endOf_124 rfl (lv_at hl 1 rfl) ?_
          refine h_getr (ci := 12) (C := RX12) (F := TX12) (N := 86) hx hb hts in12 hown hK hH (by decide) (rfl : kd 36 = 12) (by decide) rfl 47 (by decide) wd1 (fun _ h9 => h9) (by decide) rfl (t := 407) (hR 36 47 rfl) (by decide) dX12_endOf_125 ?_
          refine lv_iload_n hx hb dX12_endOf_128 rfl (lv_at hl 2 rfl) ?_
          refine h_iald hx hb hK hH (by decide) (rfl : kd 407 = 13) (s_vin (N := 64) (rfl : x.toInt = _) (rfl : ln 407 = 64) (by omega) (by omega)) dX12_endOf_129 ?_
          have ek_38 : x.toNatClampNeg = (x.toInt).toNat := (s_cl (show x.toInt = x.toInt by omega))
          refine sj_i (y := (i 407 (x.toInt).toNat)) (by rw [ek_38]) ?_
          refine lv_iload_n hx hb dX12_endOf_130 rfl (lv_at hl 4 rfl) ?_
          refine lv_iadd hx hb dX12_endOf_131 ?_
          obtain ⟨z_39, ez_39, hz_39⟩ := s_add (rfl : (i 407 (x.toInt).toNat).toInt = _) (rfl : z.toInt = _) (by omega) (by omega)
          refine sj_i ez_39 ?_
          refine lv_iload_n hx hb dX12_endOf_132 rfl (lv_at hl 3 rfl) ?_
          refine x_calli (va_runV (As := [.int z_39, .int y]) (rest := []) ⟨hx, hb, hml, hown, hts⟩ (m_stands l D g ka ad i r L d z_39 y hO hR s.heap.size (by first | omega | decide) (by first | omega | decide) (by first | omega | decide) (by first | omega | decide) (by first | omega | decide)) (cwV 2 hts gX12_endOf_X12_stands rfl rfl rfl (by decide +kernel) ⟨(Nat.le_of_ble_eq_true rfl), (Nat.le_of_ble_eq_true rfl)⟩) (x_preV (q := (RX12, TX12, 86)) hH hK (q_obj (by decide) (rfl : kd 36 = 12) (by decide)) rfl gxb (gxw hE hS (x_F hH hS hA))) rfl rfl hl.1 rfl (lv_room (Nat.le_of_ble_eq_true rfl)) dX12_endOf_133 ⟨(Nat.le_of_ble_eq_true rfl), (Nat.le_of_ble_eq_true rfl)⟩) hH hS hA rfl rfl (fun r_40 _ H locs hw_41 hH hS => ?_)
          obtain ⟨hr_43, hx2_44⟩ := hw_41
          have hr_43 : (0 : Int) ≤ r_40.toInt ∧ r_40.toInt ≤ 1 := hr_43
          refine lv_if_eq (tgt := 157) hx hb dX12_endOf_136 (by decide) (fun c_45 => ?_) (fun c_45 => ?_)
          · skip
            have h_46 := s_eq (rfl : r_40.toInt = _) (show (0 : Int32).toInt = 0 from rfl) c_45
            refine lv_iconst (v := (-1)) hx hb dX12_endOf_157 (by decide) ?_
            have hlv_47 : ((-1) : Int32).toInt = -1 := rfl
            have hV_48 : endR i x.toInt y.toInt z.toInt ((-1) : Int32).toInt := (Or.inr (Or.inr (Or.inl ⟨by omega, Or.inr (Or.inr ⟨by omega, (by have h9 := (hx2_44.resolve_left (fun q9 => by have := q9.1; omega)).2; rw [show z_39.toInt = (i 407 x.toInt.toNat).toInt + z.toInt by omega] at h9; exact h9), by omega⟩)⟩)))
            exact sj_zret hx hb hr hlocks rfl hS () ⟨⟨by decide, by decide⟩, hV_48⟩ hH (sj_Knil hK) (Nat.le_of_ble_eq_true rfl) (Nat.le_of_ble_eq_true rfl) dX12_endOf_158
          · skip
            have h_49 := s_ne (rfl : r_40.toInt = _) (show (0 : Int32).toInt = 0 from rfl) c_45
            refine lv_iload_n hx hb dX12_endOf_139 rfl (lv_at hl 3 rfl) ?_
            refine lv_aload_n hx hb dX12_endOf_140 rfl (lv_at hl 1 rfl) ?_
            refine h_getr (ci := 12) (C := RX12) (F := TX12) (N := 86) hx hb hts in12 hown hK hH (by decide) (rfl : kd 36 = 12) (by decide) rfl 51 (by decide) wd3 (fun _ h9 => h9) (by decide) rfl (t := 410) (hR 36 51 rfl) (by decide) dX12_endOf_141 ?_
            refine lv_aload_n hx hb dX12_endOf_144 rfl (lv_at hl 1 rfl) ?_
            refine h_getr (ci := 12) (C := RX12) (F := TX12) (N := 86) hx hb hts in12 hown hK hH (by decide) (rfl : kd 36 = 12) (by decide) rfl 47 (by decide) wd1 (fun _ h9 => h9) (by decide) rfl (t := 407) (hR 36 47 rfl) (by decide) dX12_endOf_145 ?_
            refine lv_iload_n hx hb dX12_endOf_148 rfl (lv_at hl 2 rfl) ?_
            refine h_iald hx hb hK hH (by decide) (rfl : kd 407 = 13) (s_vin (N := 64) (rfl : x.toInt = _) (rfl : ln 407 = 64) (by omega) (by omega)) dX12_endOf_149 ?_
            have ek_50 : x.toNatClampNeg = (x.toInt).toNat := (s_cl (show x.toInt = x.toInt by omega))
            refine sj_i (y := (i 407 (x.toInt).toNat)) (by rw [ek_50]) ?_
            refine lv_iload_n hx hb dX12_endOf_150 rfl (lv_at hl 4 rfl) ?_
            refine lv_iadd hx hb dX12_endOf_151 ?_
            obtain ⟨z_51, ez_51, hz_51⟩ := s_add (rfl : (i 407 (x.toInt).toNat).toInt = _) (rfl : z.toInt = _) (by omega) (by omega)
            refine sj_i ez_51 ?_
            have hsd9 := (hx2_44.resolve_right (fun q9 => by have := q9.1; omega)).2.1
            rw [show z_39.toInt = (i 407 x.toInt.toNat).toInt + z.toInt by omega] at hsd9
            have hsz9 := hszA ((i 407 (x.toInt).toNat).toInt + z.toInt).toNat (by omega)
            refine h_iald hx hb hK hH (by decide) (rfl : kd 410 = 13) (s_vin (N := 64) (rfl : z_51.toInt = _) (rfl : ln 410 = 64) (by omega) (by omega)) dX12_endOf_152 ?_
            have ek_52 : z_51.toNatClampNeg = ((i 407 (x.toInt).toNat).toInt + z.toInt).toNat := (s_cl (show z_51.toInt = (i 407 (x.toInt).toNat).toInt + z.toInt by omega))
            refine sj_i (y := (i 410 ((i 407 (x.toInt).toNat).toInt + z.toInt).toNat)) (by rw [ek_52]) ?_
            refine lv_iadd hx hb dX12_endOf_153 ?_
            obtain ⟨z_53, ez_53, hz_53⟩ := s_add (rfl : y.toInt = _) (rfl : (i 410 ((i 407 (x.toInt).toNat).toInt + z.toInt).toNat).toInt = _) (by omega) (by omega)
            refine sj_i ez_53 ?_
            refine lv_goto (tgt := 158) hx hb dX12_endOf_154 (by decide) ?_
            have hV_54 : endR i x.toInt y.toInt z.toInt (z_53 : Int32).toInt := (Or.inr (Or.inr (Or.inl ⟨by omega, Or.inr (Or.inl ⟨by omega, (by have h9 := (hx2_44.resolve_right (fun q9 => by have := q9.1; omega)).2; rw [show z_39.toInt = (i 407 x.toInt.toNat).toInt + z.toInt by omega] at h9; exact h9), by omega⟩)⟩)))
            exact sj_zret hx hb hr hlocks rfl hS () ⟨⟨by omega, by omega⟩, hV_54⟩ hH (sj_Knil hK) (Nat.le_of_ble_eq_true rfl) (Nat.le_of_ble_eq_true rfl) dX12_endOf_158
        · skip
          have h_55 := s_nlt (rfl : z.toInt = _) (rfl : (i 408 (x.toInt).toNat).toInt = _) c_36
          refine lv_bipush (v := (-2)) hx hb dX12_endOf_118 (by decide) ?_
          refine lv_goto (tgt := 158) hx hb dX12_endOf_120 (by decide) ?_
          have hlv_56 : ((-2) : Int32).toInt = -2 := rfl
          have hV_57 : endR i x.toInt y.toInt z.toInt ((-2) : Int32).toInt := (Or.inr (Or.inr (Or.inl ⟨by omega, Or.inl ⟨by omega, by omega⟩⟩)))
          exact sj_zret hx hb hr hlocks rfl hS () ⟨⟨by decide, by decide⟩, hV_57⟩ hH (sj_Knil hK) (Nat.le_of_ble_eq_true rfl) (Nat.le_of_ble_eq_true rfl) dX12_endOf_158
    · skip
      have h_58 := s_eq (rfl : (i 406 (x.toInt).toNat).toInt = _) (show (2 : Int32).toInt = 2 from rfl) c_4
      refine lv_iload_n hx hb dX12_endOf_51 rfl (lv_at hl 4 rfl) ?_
      refine lv_iconst (v := 1) hx hb dX12_endOf_52 (by decide) ?_
      refine lv_icmp_le (tgt := 61) hx hb dX12_endOf_53 (by decide) (fun c_59 => ?_) (fun c_59 => ?_)
      · skip
        have h_60 := s_le (rfl : z.toInt = _) (show (1 : Int32).toInt = 1 from rfl) c_59
        refine lv_iload_n hx hb dX12_endOf_61 rfl (lv_at hl 4 rfl) ?_
        refine lv_iconst (v := 1) hx hb dX12_endOf_62 (by decide) ?_
        refine lv_icmp_ne (tgt := 70) hx hb dX12_endOf_63 (by decide) (fun c_61 => ?_) (fun c_61 => ?_)
        · skip
          have h_62 := s_ne (rfl : z.toInt = _) (show (1 : Int32).toInt = 1 from rfl) c_61
          refine lv_aload_n hx hb dX12_endOf_70 rfl (lv_at hl 1 rfl) ?_
          refine lv_aload_n hx hb dX12_endOf_71 rfl (lv_at hl 1 rfl) ?_
          refine h_getr (ci := 12) (C := RX12) (F := TX12) (N := 86) hx hb hts in12 hown hK hH (by decide) (rfl : kd 36 = 12) (by decide) rfl 47 (by decide) wd1 (fun _ h9 => h9) (by decide) rfl (t := 407) (hR 36 47 rfl) (by decide) dX12_endOf_72 ?_
          refine lv_iload_n hx hb dX12_endOf_75 rfl (lv_at hl 2 rfl) ?_
          refine h_iald hx hb hK hH (by decide) (rfl : kd 407 = 13) (s_vin (N := 64) (rfl : x.toInt = _) (rfl : ln 407 = 64) (by omega) (by omega)) dX12_endOf_76 ?_
          have ek_63 : x.toNatClampNeg = (x.toInt).toNat := (s_cl (show x.toInt = x.toInt by omega))
          refine sj_i (y := (i 407 (x.toInt).toNat)) (by rw [ek_63]) ?_
          refine lv_iload_n hx hb dX12_endOf_77 rfl (lv_at hl 3 rfl) ?_
          refine x_calli (va_runV (As := [.int (i 407 (x.toInt).toNat), .int y]) (rest := []) ⟨hx, hb, hml, hown, hts⟩ (m_stands l D g ka ad i r L d (i 407 (x.toInt).toNat) y hO hR s.heap.size (by first | omega | decide) (by first | omega | decide) (by first | omega | decide) (by first | omega | decide) (by first | omega | decide)) (cwV 2 hts gX12_endOf_X12_stands rfl rfl rfl (by decide +kernel) ⟨(Nat.le_of_ble_eq_true rfl), (Nat.le_of_ble_eq_true rfl)⟩) (x_preV (q := (RX12, TX12, 86)) hH hK (q_obj (by decide) (rfl : kd 36 = 12) (by decide)) rfl gxb (gxw hE hS (x_F hH hS hA))) rfl rfl hl.1 rfl (lv_room (Nat.le_of_ble_eq_true rfl)) dX12_endOf_78 ⟨(Nat.le_of_ble_eq_true rfl), (Nat.le_of_ble_eq_true rfl)⟩) hH hS hA rfl rfl (fun r_64 _ H locs hw_65 hH hS => ?_)
          obtain ⟨hr_67, hx2_68⟩ := hw_65
          have hr_67 : (0 : Int) ≤ r_64.toInt ∧ r_64.toInt ≤ 1 := hr_67
          refine lv_if_eq (tgt := 100) hx hb dX12_endOf_81 (by decide) (fun c_69 => ?_) (fun c_69 => ?_)
          · skip
            have h_70 := s_eq (rfl : r_64.toInt = _) (show (0 : Int32).toInt = 0 from rfl) c_69
            refine lv_iconst (v := (-1)) hx hb dX12_endOf_100 (by decide) ?_
            have hlv_71 : ((-1) : Int32).toInt = -1 := rfl
            have hV_72 : endR i x.toInt y.toInt z.toInt ((-1) : Int32).toInt := (Or.inr (Or.inl ⟨by omega, Or.inr (Or.inr (Or.inr ⟨by omega, (by have h9 := (hx2_68.resolve_left (fun q9 => by have := q9.1; omega)).2; rw [show (i 407 (x.toInt).toNat).toInt = (i 407 x.toInt.toNat).toInt by omega] at h9; exact h9), by omega⟩))⟩))
            exact sj_zret hx hb hr hlocks rfl hS () ⟨⟨by decide, by decide⟩, hV_72⟩ hH (sj_Knil hK) (Nat.le_of_ble_eq_true rfl) (Nat.le_of_ble_eq_true rfl) dX12_endOf_101
          · skip
            have h_73 := s_ne (rfl : r_64.toInt = _) (show (0 : Int32).toInt = 0 from rfl) c_69
            refine lv_iload_n hx hb dX12_endOf_84 rfl (lv_at hl 3 rfl) ?_
            refine lv_aload_n hx hb dX12_endOf_85 rfl (lv_at hl 1 rfl) ?_
            refine h_getr (ci := 12) (C := RX12) (F := TX12) (N := 86) hx hb hts in12 hown hK hH (by decide) (rfl : kd 36 = 12) (by decide) rfl 51 (by decide) wd3 (fun _ h9 => h9) (by decide) rfl (t := 410) (hR 36 51 rfl) (by decide) dX12_endOf_86 ?_
            refine lv_aload_n hx hb dX12_endOf_89 rfl (lv_at hl 1 rfl) ?_
            refine h_getr (ci := 12) (C := RX12) (F := TX12) (N := 86) hx hb hts in12 hown hK hH (by decide) (rfl : kd 36 = 12) (by decide) rfl 47 (by decide) wd1 (fun _ h9 => h9) (by decide) rfl (t := 407) (hR 36 47 rfl) (by decide) dX12_endOf_90 ?_
            refine lv_iload_n hx hb dX12_endOf_93 rfl (lv_at hl 2 rfl) ?_
            refine h_iald hx hb hK hH (by decide) (rfl : kd 407 = 13) (s_vin (N := 64) (rfl : x.toInt = _) (rfl : ln 407 = 64) (by omega) (by omega)) dX12_endOf_94 ?_
            have ek_74 : x.toNatClampNeg = (x.toInt).toNat := (s_cl (show x.toInt = x.toInt by omega))
            refine sj_i (y := (i 407 (x.toInt).toNat)) (by rw [ek_74]) ?_
            have hsd9 := (hx2_68.resolve_right (fun q9 => by have := q9.1; omega)).2.1
            have hsz9 := hszA ((i 407 (x.toInt).toNat).toInt).toNat (by omega)
            refine h_iald hx hb hK hH (by decide) (rfl : kd 410 = 13) (s_vin (N := 64) (rfl : (i 407 (x.toInt).toNat).toInt = _) (rfl : ln 410 = 64) (by omega) (by omega)) dX12_endOf_95 ?_
            have ek_75 : (i 407 (x.toInt).toNat).toNatClampNeg = ((i 407 (x.toInt).toNat).toInt).toNat := (s_cl (show (i 407 (x.toInt).toNat).toInt = (i 407 (x.toInt).toNat).toInt by omega))
            refine sj_i (y := (i 410 ((i 407 (x.toInt).toNat).toInt).toNat)) (by rw [ek_75]) ?_
            refine lv_iadd hx hb dX12_endOf_96 ?_
            obtain ⟨z_76, ez_76, hz_76⟩ := s_add (rfl : y.toInt = _) (rfl : (i 410 ((i 407 (x.toInt).toNat).toInt).toNat).toInt = _) (by omega) (by omega)
            refine sj_i ez_76 ?_
            refine lv_goto (tgt := 101) hx hb dX12_endOf_97 (by decide) ?_
            have hV_77 : endR i x.toInt y.toInt z.toInt (z_76 : Int32).toInt := (Or.inr (Or.inl ⟨by omega, Or.inr (Or.inr (Or.inl ⟨by omega, (by have h9 := (hx2_68.resolve_right (fun q9 => by have := q9.1; omega)).2; rw [show (i 407 (x.toInt).toNat).toInt = (i 407 x.toInt.toNat).toInt by omega] at h9; exact h9), by omega⟩))⟩))
            exact sj_zret hx hb hr hlocks rfl hS () ⟨⟨by omega, by omega⟩, hV_77⟩ hH (sj_Knil hK) (Nat.le_of_ble_eq_true rfl) (Nat.le_of_ble_eq_true rfl) dX12_endOf_101
        · skip
          have h_78 := s_eq (rfl : z.toInt = _) (show (1 : Int32).toInt = 1 from rfl) c_61
          refine lv_iload_n hx hb dX12_endOf_66 rfl (lv_at hl 3 rfl) ?_
          refine lv_goto (tgt := 101) hx hb dX12_endOf_67 (by decide) ?_
          have hV_79 : endR i x.toInt y.toInt z.toInt (y : Int32).toInt := (Or.inr (Or.inl ⟨by omega, Or.inr (Or.inl ⟨by omega, by omega⟩)⟩))
          exact sj_zret hx hb hr hlocks rfl hS () ⟨⟨by omega, by omega⟩, hV_79⟩ hH (sj_Knil hK) (Nat.le_of_ble_eq_true rfl) (Nat.le_of_ble_eq_true rfl) dX12_endOf_101
      · skip
        have h_80 := s_nle (rfl : z.toInt = _) (show (1 : Int32).toInt = 1 from rfl) c_59
        refine lv_bipush (v := (-2)) hx hb dX12_endOf_56 (by decide) ?_
        refine lv_goto (tgt := 101) hx hb dX12_endOf_58 (by decide) ?_
        have hlv_81 : ((-2) : Int32).toInt = -2 := rfl
        have hV_82 : endR i x.toInt y.toInt z.toInt ((-2) : Int32).toInt := (Or.inr (Or.inl ⟨by omega, Or.inl ⟨by omega, by omega⟩⟩))
        exact sj_zret hx hb hr hlocks rfl hS () ⟨⟨by decide, by decide⟩, hV_82⟩ hH (sj_Knil hK) (Nat.le_of_ble_eq_true rfl) (Nat.le_of_ble_eq_true rfl) dX12_endOf_101
  · skip
    have h_83 := s_eq (rfl : (i 406 (x.toInt).toNat).toInt = _) (show (1 : Int32).toInt = 1 from rfl) c_2
    refine lv_iload_n hx hb dX12_endOf_14 rfl (lv_at hl 4 rfl) ?_
    refine lv_if_le (tgt := 23) hx hb dX12_endOf_15 (by decide) (fun c_84 => ?_) (fun c_84 => ?_)
    · skip
      have h_85 := s_le (rfl : z.toInt = _) (show (0 : Int32).toInt = 0 from rfl) c_84
      refine lv_aload_n hx hb dX12_endOf_23 rfl (lv_at hl 1 rfl) ?_
      refine lv_iload_n hx hb dX12_endOf_24 rfl (lv_at hl 3 rfl) ?_
      refine x_calli (va_runV (As := [.int y]) (rest := []) ⟨hx, hb, hml, hown, hts⟩ (m_in l D g ka ad i r L d y hO hR s.heap.size (by first | omega | decide)) (cwV 1 hts gX12_endOf_X12_in rfl rfl rfl (by decide +kernel) ⟨(Nat.le_of_ble_eq_true rfl), (Nat.le_of_ble_eq_true rfl)⟩) (x_preV (q := (RX12, TX12, 86)) hH hK (q_obj (by decide) (rfl : kd 36 = 12) (by decide)) rfl gxb (gxw hE hS (x_F hH hS hA))) rfl rfl hl.1 rfl (lv_room (Nat.le_of_ble_eq_true rfl)) dX12_endOf_25 ⟨(Nat.le_of_ble_eq_true rfl), (Nat.le_of_ble_eq_true rfl)⟩) hH hS hA rfl rfl (fun r_86 _ H locs hw_87 hH hS => ?_)
      obtain ⟨hr_89, he_90⟩ := hw_87
      have hr_89 : (0 : Int) ≤ r_86.toInt ∧ r_86.toInt ≤ 65535 := hr_89
      refine lv_aload_n hx hb dX12_endOf_28 rfl (lv_at hl 1 rfl) ?_
      refine h_getr (ci := 12) (C := RX12) (F := TX12) (N := 86) hx hb hts in12 hown hK hH (by decide) (rfl : kd 36 = 12) (by decide) rfl 47 (by decide) wd1 (fun _ h9 => h9) (by decide) rfl (t := 407) (hR 36 47 rfl) (by decide) dX12_endOf_29 ?_
      refine lv_iload_n hx hb dX12_endOf_32 rfl (lv_at hl 2 rfl) ?_
      refine h_iald hx hb hK hH (by decide) (rfl : kd 407 = 13) (s_vin (N := 64) (rfl : x.toInt = _) (rfl : ln 407 = 64) (by omega) (by omega)) dX12_endOf_33 ?_
      have ek_91 : x.toNatClampNeg = (x.toInt).toNat := (s_cl (show x.toInt = x.toInt by omega))
      refine sj_i (y := (i 407 (x.toInt).toNat)) (by rw [ek_91]) ?_
      refine lv_icmp_ne (tgt := 43) hx hb dX12_endOf_34 (by decide) (fun c_92 => ?_) (fun c_92 => ?_)
      · skip
        have h_93 := s_ne (rfl : r_86.toInt = _) (rfl : (i 407 (x.toInt).toNat).toInt = _) c_92
        refine lv_iconst (v := (-1)) hx hb dX12_endOf_43 (by decide) ?_
        have hlv_94 : ((-1) : Int32).toInt = -1 := rfl
        have hV_95 : endR i x.toInt y.toInt z.toInt ((-1) : Int32).toInt := (Or.inl ⟨by omega, Or.inr (Or.inr ⟨by omega, by omega, by omega⟩)⟩)
        exact sj_zret hx hb hr hlocks rfl hS () ⟨⟨by decide, by decide⟩, hV_95⟩ hH (sj_Knil hK) (Nat.le_of_ble_eq_true rfl) (Nat.le_of_ble_eq_true rfl) dX12_endOf_44
      · skip
        have h_96 := s_eq (rfl : r_86.toInt = _) (rfl : (i 407 (x.toInt).toNat).toInt = _) c_92
        refine lv_iload_n hx hb dX12_endOf_37 rfl (lv_at hl 3 rfl) ?_
        refine lv_iconst (v := 1) hx hb dX12_endOf_38 (by decide) ?_
        refine lv_iadd hx hb dX12_endOf_39 ?_
        obtain ⟨z_97, ez_97, hz_97⟩ := s_add (rfl : y.toInt = _) (show (1 : Int32).toInt = 1 from rfl) (by omega) (by omega)
        refine sj_i ez_97 ?_
        refine lv_goto (tgt := 44) hx hb dX12_endOf_40 (by decide) ?_
        have hV_98 : endR i x.toInt y.toInt z.toInt (z_97 : Int32).toInt := (Or.inl ⟨by omega, Or.inr (Or.inl ⟨by omega, by omega, by omega⟩)⟩)
        exact sj_zret hx hb hr hlocks rfl hS () ⟨⟨by omega, by omega⟩, hV_98⟩ hH (sj_Knil hK) (Nat.le_of_ble_eq_true rfl) (Nat.le_of_ble_eq_true rfl) dX12_endOf_44
    · skip
      have h_99 := s_nle (rfl : z.toInt = _) (show (0 : Int32).toInt = 0 from rfl) c_84
      refine lv_bipush (v := (-2)) hx hb dX12_endOf_18 (by decide) ?_
      refine lv_goto (tgt := 44) hx hb dX12_endOf_20 (by decide) ?_
      have hlv_100 : ((-2) : Int32).toInt = -2 := rfl
      have hV_101 : endR i x.toInt y.toInt z.toInt ((-2) : Int32).toInt := (Or.inl ⟨by omega, Or.inl ⟨by omega, by omega⟩⟩)
      exact sj_zret hx hb hr hlocks rfl hS () ⟨⟨by decide, by decide⟩, hV_101⟩ hH (sj_Knil hK) (Nat.le_of_ble_eq_true rfl) (Nat.le_of_ble_eq_true rfl) dX12_endOf_44
