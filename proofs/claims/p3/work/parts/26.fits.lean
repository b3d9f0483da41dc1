theorem dX2_standsAt_0 : decode cX2_standsAt 0 = .ok (.iconst 0, 1) := by decide +kernel
theorem dX2_standsAt_1 : decode cX2_standsAt 1 = .ok (.istore 4, 2) := by decide +kernel
theorem dX2_standsAt_3 : decode cX2_standsAt 3 = .ok (.iload 4, 2) := by decide +kernel
theorem dX2_standsAt_5 : decode cX2_standsAt 5 = .ok (.aload_n 0, 1) := by decide +kernel
theorem dX2_standsAt_6 : decode cX2_standsAt 6 = .ok (.iload_n 1, 1) := by decide +kernel
theorem dX2_standsAt_7 : decode cX2_standsAt 7 = .ok (.invokevirtual 88, 3) := by decide +kernel
theorem dX2_standsAt_10 : decode cX2_standsAt 10 = .ok (.if_icmp .ge 36, 3) := by decide +kernel
theorem dX2_standsAt_46 : decode cX2_standsAt 46 = .ok (.iconst 1, 1) := by decide +kernel
theorem dX2_standsAt_47 : decode cX2_standsAt 47 = .ok (.ireturn, 1) := by decide +kernel
theorem dX2_standsAt_13 : decode cX2_standsAt 13 = .ok (.aload_n 2, 1) := by decide +kernel
theorem dX2_standsAt_14 : decode cX2_standsAt 14 = .ok (.iload_n 3, 1) := by decide +kernel
theorem dX2_standsAt_15 : decode cX2_standsAt 15 = .ok (.iload 4, 2) := by decide +kernel
theorem dX2_standsAt_17 : decode cX2_standsAt 17 = .ok (.iadd, 1) := by decide +kernel
theorem dX2_standsAt_18 : decode cX2_standsAt 18 = .ok (.invokevirtual 77, 3) := by decide +kernel
theorem dX2_standsAt_21 : decode cX2_standsAt 21 = .ok (.aload_n 0, 1) := by decide +kernel
theorem dX2_standsAt_22 : decode cX2_standsAt 22 = .ok (.getfield 11, 3) := by decide +kernel
theorem dX2_standsAt_25 : decode cX2_standsAt 25 = .ok (.aload_n 0, 1) := by decide +kernel
theorem dX2_standsAt_26 : decode cX2_standsAt 26 = .ok (.getfield 15, 3) := by decide +kernel
theorem dX2_standsAt_29 : decode cX2_standsAt 29 = .ok (.iload_n 1, 1) := by decide +kernel
theorem dX2_standsAt_30 : decode cX2_standsAt 30 = .ok (.iaload, 1) := by decide +kernel
theorem dX2_standsAt_31 : decode cX2_standsAt 31 = .ok (.iload 4, 2) := by decide +kernel
theorem dX2_standsAt_33 : decode cX2_standsAt 33 = .ok (.iadd, 1) := by decide +kernel
theorem dX2_standsAt_34 : decode cX2_standsAt 34 = .ok (.caload, 1) := by decide +kernel
theorem dX2_standsAt_35 : decode cX2_standsAt 35 = .ok (.if_icmp .eq 5, 3) := by decide +kernel
theorem dX2_standsAt_40 : decode cX2_standsAt 40 = .ok (.iinc 4 1, 3) := by decide +kernel
theorem dX2_standsAt_43 : decode cX2_standsAt 43 = .ok (.goto (-40), 3) := by decide +kernel
theorem dX2_standsAt_38 : decode cX2_standsAt 38 = .ok (.iconst 0, 1) := by decide +kernel
theorem dX2_standsAt_39 : decode cX2_standsAt 39 = .ok (.ireturn, 1) := by decide +kernel
theorem dX2_places_0 : decode cX2_places 0 = .ok (.lconst 0, 1) := by decide +kernel
theorem dX2_places_1 : decode cX2_places 1 = .ok (.lstore_n 3, 1) := by decide +kernel
theorem dX2_places_2 : decode cX2_places 2 = .ok (.iconst 0, 1) := by decide +kernel
theorem dX2_places_3 : decode cX2_places 3 = .ok (.istore 5, 2) := by decide +kernel
theorem dX2_places_5 : decode cX2_places 5 = .ok (.iload 5, 2) := by decide +kernel
theorem dX2_places_7 : decode cX2_places 7 = .ok (.iload_n 2, 1) := by decide +kernel
theorem dX2_places_8 : decode cX2_places 8 = .ok (.if_icmp .ge 18, 3) := by decide +kernel
theorem dX2_places_26 : decode cX2_places 26 = .ok (.lload_n 3, 1) := by decide +kernel
theorem dX2_places_27 : decode cX2_places 27 = .ok (.lreturn, 1) := by decide +kernel
theorem dX2_places_11 : decode cX2_places 11 = .ok (.lload_n 3, 1) := by decide +kernel
theorem dX2_places_12 : decode cX2_places 12 = .ok (.lconst 1, 1) := by decide +kernel
theorem dX2_places_13 : decode cX2_places 13 = .ok (.iload_n 1, 1) := by decide +kernel
theorem dX2_places_14 : decode cX2_places 14 = .ok (.iload 5, 2) := by decide +kernel
theorem dX2_places_16 : decode cX2_places 16 = .ok (.iadd, 1) := by decide +kernel
theorem dX2_places_17 : decode cX2_places 17 = .ok (.lshl, 1) := by decide +kernel
theorem dX2_places_18 : decode cX2_places 18 = .ok (.lor, 1) := by decide +kernel
theorem dX2_places_19 : decode cX2_places 19 = .ok (.lstore_n 3, 1) := by decide +kernel
theorem dX2_places_20 : decode cX2_places 20 = .ok (.iinc 5 1, 3) := by decide +kernel
theorem dX2_places_23 : decode cX2_places 23 = .ok (.goto (-18), 3) := by decide +kernel
theorem dX2_endsOf_0 : decode cX2_endsOf 0 = .ok (.aload_n 2, 1) := by decide +kernel
theorem dX2_endsOf_1 : decode cX2_endsOf 1 = .ok (.iload_n 3, 1) := by decide +kernel
theorem dX2_endsOf_2 : decode cX2_endsOf 2 = .ok (.invokevirtual 77, 3) := by decide +kernel
theorem dX2_endsOf_5 : decode cX2_endsOf 5 = .ok (.bipush 45, 2) := by decide +kernel
theorem dX2_endsOf_7 : decode cX2_endsOf 7 = .ok (.if_icmp .ne 9, 3) := by decide +kernel
theorem dX2_endsOf_16 : decode cX2_endsOf 16 = .ok (.iload_n 3, 1) := by decide +kernel
theorem dX2_endsOf_17 : decode cX2_endsOf 17 = .ok (.istore 4, 2) := by decide +kernel
theorem dX2_endsOf_19 : decode cX2_endsOf 19 = .ok (.iload_n 1, 1) := by decide +kernel
theorem dX2_endsOf_20 : decode cX2_endsOf 20 = .ok (.lookupswitch 121 #[(100, 53), (105, 36), (119, 106)], 36) := by decide +kernel
theorem dX2_endsOf_73 : decode cX2_endsOf 73 = .ok (.iload 4, 2) := by decide +kernel
theorem dX2_endsOf_75 : decode cX2_endsOf 75 = .ok (.aload_n 2, 1) := by decide +kernel
theorem dX2_endsOf_76 : decode cX2_endsOf 76 = .ok (.iload 4, 2) := by decide +kernel
theorem dX2_endsOf_78 : decode cX2_endsOf 78 = .ok (.bipush 6, 2) := by decide +kernel
theorem dX2_endsOf_80 : decode cX2_endsOf 80 = .ok (.invokevirtual 110, 3) := by decide +kernel
theorem dX2_endsOf_83 : decode cX2_endsOf 83 = .ok (.iadd, 1) := by decide +kernel
theorem dX2_endsOf_84 : decode cX2_endsOf 84 = .ok (.istore 5, 2) := by decide +kernel
theorem dX2_endsOf_86 : decode cX2_endsOf 86 = .ok (.iload 5, 2) := by decide +kernel
theorem dX2_endsOf_88 : decode cX2_endsOf 88 = .ok (.iload 4, 2) := by decide +kernel
theorem dX2_endsOf_90 : decode cX2_endsOf 90 = .ok (.if_icmp .le 34, 3) := by decide +kernel
theorem dX2_endsOf_124 : decode cX2_endsOf 124 = .ok (.lconst 0, 1) := by decide +kernel
theorem dX2_endsOf_125 : decode cX2_endsOf 125 = .ok (.lreturn, 1) := by decide +kernel
theorem dX2_endsOf_93 : decode cX2_endsOf 93 = .ok (.aload_n 2, 1) := by decide +kernel
theorem dX2_endsOf_94 : decode cX2_endsOf 94 = .ok (.iload 5, 2) := by decide +kernel
theorem dX2_endsOf_96 : decode cX2_endsOf 96 = .ok (.invokevirtual 77, 3) := by decide +kernel
theorem dX2_endsOf_99 : decode cX2_endsOf 99 = .ok (.bipush 46, 2) := by decide +kernel
theorem dX2_endsOf_101 : decode cX2_endsOf 101 = .ok (.if_icmp .ne 23, 3) := by decide +kernel
theorem dX2_endsOf_104 : decode cX2_endsOf 104 = .ok (.aload_n 0, 1) := by decide +kernel
theorem dX2_endsOf_105 : decode cX2_endsOf 105 = .ok (.iload 5, 2) := by decide +kernel
theorem dX2_endsOf_107 : decode cX2_endsOf 107 = .ok (.iconst 2, 1) := by decide +kernel
theorem dX2_endsOf_108 : decode cX2_endsOf 108 = .ok (.iadd, 1) := by decide +kernel
theorem dX2_endsOf_109 : decode cX2_endsOf 109 = .ok (.aload_n 2, 1) := by decide +kernel
theorem dX2_endsOf_110 : decode cX2_endsOf 110 = .ok (.iload 5, 2) := by decide +kernel
theorem dX2_endsOf_112 : decode cX2_endsOf 112 = .ok (.iconst 1, 1) := by decide +kernel
theorem dX2_endsOf_113 : decode cX2_endsOf 113 = .ok (.iadd, 1) := by decide +kernel
theorem dX2_endsOf_114 : decode cX2_endsOf 114 = .ok (.iconst 3, 1) := by decide +kernel
theorem dX2_endsOf_115 : decode cX2_endsOf 115 = .ok (.invokevirtual 110, 3) := by decide +kernel
theorem dX2_endsOf_118 : decode cX2_endsOf 118 = .ok (.invokevirtual 114, 3) := by decide +kernel
theorem dX2_endsOf_121 : decode cX2_endsOf 121 = .ok (.goto 4, 3) := by decide +kernel
theorem dX2_endsOf_56 : decode cX2_endsOf 56 = .ok (.aload_n 0, 1) := by decide +kernel
theorem dX2_endsOf_57 : decode cX2_endsOf 57 = .ok (.iload 4, 2) := by decide +kernel
theorem dX2_endsOf_59 : decode cX2_endsOf 59 = .ok (.iconst 1, 1) := by decide +kernel
theorem dX2_endsOf_60 : decode cX2_endsOf 60 = .ok (.iadd, 1) := by decide +kernel
theorem dX2_endsOf_61 : decode cX2_endsOf 61 = .ok (.aload_n 2, 1) := by decide +kernel
theorem dX2_endsOf_62 : decode cX2_endsOf 62 = .ok (.iload 4, 2) := by decide +kernel
theorem dX2_endsOf_64 : decode cX2_endsOf 64 = .ok (.bipush 9, 2) := by decide +kernel
theorem dX2_endsOf_66 : decode cX2_endsOf 66 = .ok (.invokevirtual 110, 3) := by decide +kernel
theorem dX2_endsOf_69 : decode cX2_endsOf 69 = .ok (.invokevirtual 114, 3) := by decide +kernel
theorem dX2_endsOf_72 : decode cX2_endsOf 72 = .ok (.lreturn, 1) := by decide +kernel
theorem dX2_endsOf_126 : decode cX2_endsOf 126 = .ok (.aload_n 0, 1) := by decide +kernel
theorem dX2_endsOf_127 : decode cX2_endsOf 127 = .ok (.iload_n 3, 1) := by decide +kernel
theorem dX2_endsOf_128 : decode cX2_endsOf 128 = .ok (.iconst 1, 1) := by decide +kernel
theorem dX2_endsOf_129 : decode cX2_endsOf 129 = .ok (.iadd, 1) := by decide +kernel
theorem dX2_endsOf_130 : decode cX2_endsOf 130 = .ok (.aload_n 2, 1) := by decide +kernel
theorem dX2_endsOf_131 : decode cX2_endsOf 131 = .ok (.bipush 32, 2) := by decide +kernel
theorem dX2_endsOf_133 : decode cX2_endsOf 133 = .ok (.iload_n 3, 1) := by decide +kernel
theorem dX2_endsOf_134 : decode cX2_endsOf 134 = .ok (.invokevirtual 118, 3) := by decide +kernel
theorem dX2_endsOf_137 : decode cX2_endsOf 137 = .ok (.invokevirtual 114, 3) := by decide +kernel
theorem dX2_endsOf_140 : decode cX2_endsOf 140 = .ok (.lreturn, 1) := by decide +kernel
theorem dX2_endsOf_141 : decode cX2_endsOf 141 = .ok (.iload_n 3, 1) := by decide +kernel
theorem dX2_endsOf_142 : decode cX2_endsOf 142 = .ok (.iconst 1, 1) := by decide +kernel
theorem dX2_endsOf_143 : decode cX2_endsOf 143 = .ok (.iadd, 1) := by decide +kernel
theorem dX2_endsOf_144 : decode cX2_endsOf 144 = .ok (.aload_n 2, 1) := by decide +kernel
theorem dX2_endsOf_145 : decode cX2_endsOf 145 = .ok (.bipush 34, 2) := by decide +kernel
theorem dX2_endsOf_147 : decode cX2_endsOf 147 = .ok (.iload_n 3, 1) := by decide +kernel
theorem dX2_endsOf_148 : decode cX2_endsOf 148 = .ok (.iconst 1, 1) := by decide +kernel
theorem dX2_endsOf_149 : decode cX2_endsOf 149 = .ok (.iadd, 1) := by decide +kernel
theorem dX2_endsOf_150 : decode cX2_endsOf 150 = .ok (.invokevirtual 118, 3) := by decide +kernel
theorem dX2_endsOf_153 : decode cX2_endsOf 153 = .ok (.iadd, 1) := by decide +kernel
theorem dX2_endsOf_154 : decode cX2_endsOf 154 = .ok (.istore 6, 2) := by decide +kernel
theorem dX2_endsOf_156 : decode cX2_endsOf 156 = .ok (.aload_n 2, 1) := by decide +kernel
theorem dX2_endsOf_157 : decode cX2_endsOf 157 = .ok (.iload_n 3, 1) := by decide +kernel
theorem dX2_endsOf_158 : decode cX2_endsOf 158 = .ok (.invokevirtual 77, 3) := by decide +kernel
theorem dX2_endsOf_161 : decode cX2_endsOf 161 = .ok (.bipush 34, 2) := by decide +kernel
theorem dX2_endsOf_163 : decode cX2_endsOf 163 = .ok (.if_icmp .ne 26, 3) := by decide +kernel
theorem dX2_endsOf_189 : decode cX2_endsOf 189 = .ok (.lconst 0, 1) := by decide +kernel
theorem dX2_endsOf_190 : decode cX2_endsOf 190 = .ok (.lreturn, 1) := by decide +kernel
theorem dX2_endsOf_166 : decode cX2_endsOf 166 = .ok (.aload_n 2, 1) := by decide +kernel
theorem dX2_endsOf_167 : decode cX2_endsOf 167 = .ok (.iload 6, 2) := by decide +kernel
theorem dX2_endsOf_169 : decode cX2_endsOf 169 = .ok (.invokevirtual 77, 3) := by decide +kernel
theorem dX2_endsOf_172 : decode cX2_endsOf 172 = .ok (.bipush 34, 2) := by decide +kernel
theorem dX2_endsOf_174 : decode cX2_endsOf 174 = .ok (.if_icmp .ne 15, 3) := by decide +kernel
theorem dX2_endsOf_177 : decode cX2_endsOf 177 = .ok (.aload_n 0, 1) := by decide +kernel
theorem dX2_endsOf_178 : decode cX2_endsOf 178 = .ok (.iload 6, 2) := by decide +kernel
theorem dX2_endsOf_180 : decode cX2_endsOf 180 = .ok (.iconst 1, 1) := by decide +kernel
theorem dX2_endsOf_181 : decode cX2_endsOf 181 = .ok (.iadd, 1) := by decide +kernel
theorem dX2_endsOf_182 : decode cX2_endsOf 182 = .ok (.iconst 1, 1) := by decide +kernel
theorem dX2_endsOf_183 : decode cX2_endsOf 183 = .ok (.invokevirtual 114, 3) := by decide +kernel
theorem dX2_endsOf_186 : decode cX2_endsOf 186 = .ok (.goto 4, 3) := by decide +kernel
theorem dX2_endsOf_10 : decode cX2_endsOf 10 = .ok (.iload_n 3, 1) := by decide +kernel
theorem dX2_endsOf_11 : decode cX2_endsOf 11 = .ok (.iconst 1, 1) := by decide +kernel
theorem dX2_endsOf_12 : decode cX2_endsOf 12 = .ok (.iadd, 1) := by decide +kernel
theorem dX2_endsOf_13 : decode cX2_endsOf 13 = .ok (.goto 4, 3) := by decide +kernel
theorem dX2_openBeforeChoice_0 : decode cX2_openBeforeChoice 0 = .ok (.lconst 0, 1) := by decide +kernel
theorem dX2_openBeforeChoice_1 : decode cX2_openBeforeChoice 1 = .ok (.lstore_n 3, 1) := by decide +kernel
theorem dX2_openBeforeChoice_2 : decode cX2_openBeforeChoice 2 = .ok (.aload_n 0, 1) := by decide +kernel
theorem dX2_openBeforeChoice_3 : decode cX2_openBeforeChoice 3 = .ok (.getfield 22, 3) := by decide +kernel
theorem dX2_openBeforeChoice_6 : decode cX2_openBeforeChoice 6 = .ok (.iload_n 1, 1) := by decide +kernel
theorem dX2_openBeforeChoice_7 : decode cX2_openBeforeChoice 7 = .ok (.iaload, 1) := by decide +kernel
theorem dX2_openBeforeChoice_8 : decode cX2_openBeforeChoice 8 = .ok (.istore 5, 2) := by decide +kernel
theorem dX2_openBeforeChoice_10 : decode cX2_openBeforeChoice 10 = .ok (.iload 5, 2) := by decide +kernel
theorem dX2_openBeforeChoice_12 : decode cX2_openBeforeChoice 12 = .ok (.aload_n 0, 1) := by decide +kernel
theorem dX2_openBeforeChoice_13 : decode cX2_openBeforeChoice 13 = .ok (.getfield 22, 3) := by decide +kernel
theorem dX2_openBeforeChoice_16 : decode cX2_openBeforeChoice 16 = .ok (.iload_n 1, 1) := by decide +kernel
theorem dX2_openBeforeChoice_17 : decode cX2_openBeforeChoice 17 = .ok (.iconst 1, 1) := by decide +kernel
theorem dX2_openBeforeChoice_18 : decode cX2_openBeforeChoice 18 = .ok (.iadd, 1) := by decide +kernel
theorem dX2_openBeforeChoice_19 : decode cX2_openBeforeChoice 19 = .ok (.iaload, 1) := by decide +kernel
theorem dX2_openBeforeChoice_20 : decode cX2_openBeforeChoice 20 = .ok (.if_icmp .ge 87, 3) := by decide +kernel
theorem dX2_openBeforeChoice_107 : decode cX2_openBeforeChoice 107 = .ok (.lload_n 3, 1) := by decide +kernel
theorem dX2_openBeforeChoice_108 : decode cX2_openBeforeChoice 108 = .ok (.lreturn, 1) := by decide +kernel
theorem dX2_openBeforeChoice_23 : decode cX2_openBeforeChoice 23 = .ok (.aload_n 0, 1) := by decide +kernel
theorem dX2_openBeforeChoice_24 : decode cX2_openBeforeChoice 24 = .ok (.getfield 25, 3) := by decide +kernel
theorem dX2_openBeforeChoice_27 : decode cX2_openBeforeChoice 27 = .ok (.iload_n 1, 1) := by decide +kernel
theorem dX2_openBeforeChoice_28 : decode cX2_openBeforeChoice 28 = .ok (.iconst 1, 1) := by decide +kernel
theorem dX2_openBeforeChoice_29 : decode cX2_openBeforeChoice 29 = .ok (.iadd, 1) := by decide +kernel
theorem dX2_openBeforeChoice_30 : decode cX2_openBeforeChoice 30 = .ok (.laload, 1) := by decide +kernel
theorem dX2_openBeforeChoice_31 : decode cX2_openBeforeChoice 31 = .ok (.aload_n 0, 1) := by decide +kernel
theorem dX2_openBeforeChoice_32 : decode cX2_openBeforeChoice 32 = .ok (.iload 5, 2) := by decide +kernel
theorem dX2_openBeforeChoice_34 : decode cX2_openBeforeChoice 34 = .ok (.invokevirtual 88, 3) := by decide +kernel
theorem dX2_openBeforeChoice_37 : decode cX2_openBeforeChoice 37 = .ok (.lushr, 1) := by decide +kernel
theorem dX2_openBeforeChoice_38 : decode cX2_openBeforeChoice 38 = .ok (.lstore 6, 2) := by decide +kernel
theorem dX2_openBeforeChoice_40 : decode cX2_openBeforeChoice 40 = .ok (.iconst 0, 1) := by decide +kernel
theorem dX2_openBeforeChoice_41 : decode cX2_openBeforeChoice 41 = .ok (.istore 8, 2) := by decide +kernel
theorem dX2_openBeforeChoice_43 : decode cX2_openBeforeChoice 43 = .ok (.iload 8, 2) := by decide +kernel
theorem dX2_openBeforeChoice_45 : decode cX2_openBeforeChoice 45 = .ok (.aload_n 2, 1) := by decide +kernel
theorem dX2_openBeforeChoice_46 : decode cX2_openBeforeChoice 46 = .ok (.getfield 48, 3) := by decide +kernel
theorem dX2_openBeforeChoice_49 : decode cX2_openBeforeChoice 49 = .ok (.iconst 1, 1) := by decide +kernel
theorem dX2_openBeforeChoice_50 : decode cX2_openBeforeChoice 50 = .ok (.iadd, 1) := by decide +kernel
theorem dX2_openBeforeChoice_51 : decode cX2_openBeforeChoice 51 = .ok (.if_icmp .ge 50, 3) := by decide +kernel
theorem dX2_openBeforeChoice_101 : decode cX2_openBeforeChoice 101 = .ok (.iinc 5 1, 3) := by decide +kernel
theorem dX2_openBeforeChoice_104 : decode cX2_openBeforeChoice 104 = .ok (.goto (-94), 3) := by decide +kernel
theorem dX2_openBeforeChoice_54 : decode cX2_openBeforeChoice 54 = .ok (.lload 6, 2) := by decide +kernel
theorem dX2_openBeforeChoice_56 : decode cX2_openBeforeChoice 56 = .ok (.iload 8, 2) := by decide +kernel
theorem dX2_openBeforeChoice_58 : decode cX2_openBeforeChoice 58 = .ok (.lushr, 1) := by decide +kernel
theorem dX2_openBeforeChoice_59 : decode cX2_openBeforeChoice 59 = .ok (.lconst 0, 1) := by decide +kernel
theorem dX2_openBeforeChoice_60 : decode cX2_openBeforeChoice 60 = .ok (.lcmp, 1) := by decide +kernel
theorem dX2_openBeforeChoice_61 : decode cX2_openBeforeChoice 61 = .ok (.ifCond .eq 40, 3) := by decide +kernel
theorem dX2_openBeforeChoice_64 : decode cX2_openBeforeChoice 64 = .ok (.lload 6, 2) := by decide +kernel
theorem dX2_openBeforeChoice_66 : decode cX2_openBeforeChoice 66 = .ok (.iload 8, 2) := by decide +kernel
theorem dX2_openBeforeChoice_68 : decode cX2_openBeforeChoice 68 = .ok (.lushr, 1) := by decide +kernel
theorem dX2_openBeforeChoice_69 : decode cX2_openBeforeChoice 69 = .ok (.lconst 1, 1) := by decide +kernel
theorem dX2_openBeforeChoice_70 : decode cX2_openBeforeChoice 70 = .ok (.land, 1) := by decide +kernel
theorem dX2_openBeforeChoice_71 : decode cX2_openBeforeChoice 71 = .ok (.lconst 1, 1) := by decide +kernel
theorem dX2_openBeforeChoice_72 : decode cX2_openBeforeChoice 72 = .ok (.lcmp, 1) := by decide +kernel
theorem dX2_openBeforeChoice_73 : decode cX2_openBeforeChoice 73 = .ok (.ifCond .ne 22, 3) := by decide +kernel
theorem dX2_openBeforeChoice_95 : decode cX2_openBeforeChoice 95 = .ok (.iinc 8 1, 3) := by decide +kernel
theorem dX2_openBeforeChoice_98 : decode cX2_openBeforeChoice 98 = .ok (.goto (-55), 3) := by decide +kernel
theorem dX2_openBeforeChoice_76 : decode cX2_openBeforeChoice 76 = .ok (.aload_n 0, 1) := by decide +kernel
theorem dX2_openBeforeChoice_77 : decode cX2_openBeforeChoice 77 = .ok (.iload 5, 2) := by decide +kernel
theorem dX2_openBeforeChoice_79 : decode cX2_openBeforeChoice 79 = .ok (.aload_n 2, 1) := by decide +kernel
theorem dX2_openBeforeChoice_80 : decode cX2_openBeforeChoice 80 = .ok (.iload 8, 2) := by decide +kernel
theorem dX2_openBeforeChoice_82 : decode cX2_openBeforeChoice 82 = .ok (.invokevirtual 102, 3) := by decide +kernel
theorem dX2_openBeforeChoice_85 : decode cX2_openBeforeChoice 85 = .ok (.ifCond .eq 10, 3) := by decide +kernel
theorem dX2_openBeforeChoice_88 : decode cX2_openBeforeChoice 88 = .ok (.lload_n 3, 1) := by decide +kernel
theorem dX2_openBeforeChoice_89 : decode cX2_openBeforeChoice 89 = .ok (.lconst 1, 1) := by decide +kernel
theorem dX2_openBeforeChoice_90 : decode cX2_openBeforeChoice 90 = .ok (.iload 8, 2) := by decide +kernel
theorem dX2_openBeforeChoice_92 : decode cX2_openBeforeChoice 92 = .ok (.lshl, 1) := by decide +kernel
theorem dX2_openBeforeChoice_93 : decode cX2_openBeforeChoice 93 = .ok (.lor, 1) := by decide +kernel
theorem dX2_openBeforeChoice_94 : decode cX2_openBeforeChoice 94 = .ok (.lstore_n 3, 1) := by decide +kernel
theorem dX2_openBeforeParameter_0 : decode cX2_openBeforeParameter 0 = .ok (.lconst 0, 1) := by decide +kernel
theorem dX2_openBeforeParameter_1 : decode cX2_openBeforeParameter 1 = .ok (.lstore_n 3, 1) := by decide +kernel
theorem dX2_openBeforeParameter_2 : decode cX2_openBeforeParameter 2 = .ok (.iconst 0, 1) := by decide +kernel
theorem dX2_openBeforeParameter_3 : decode cX2_openBeforeParameter 3 = .ok (.istore 5, 2) := by decide +kernel
theorem dX2_openBeforeParameter_5 : decode cX2_openBeforeParameter 5 = .ok (.iload 5, 2) := by decide +kernel
theorem dX2_openBeforeParameter_7 : decode cX2_openBeforeParameter 7 = .ok (.aload_n 2, 1) := by decide +kernel
theorem dX2_openBeforeParameter_8 : decode cX2_openBeforeParameter 8 = .ok (.getfield 48, 3) := by decide +kernel
theorem dX2_openBeforeParameter_11 : decode cX2_openBeforeParameter 11 = .ok (.if_icmp .ge 43, 3) := by decide +kernel
theorem dX2_openBeforeParameter_54 : decode cX2_openBeforeParameter 54 = .ok (.lload_n 3, 1) := by decide +kernel
theorem dX2_openBeforeParameter_55 : decode cX2_openBeforeParameter 55 = .ok (.lreturn, 1) := by decide +kernel
theorem dX2_openBeforeParameter_14 : decode cX2_openBeforeParameter 14 = .ok (.aload_n 0, 1) := by decide +kernel
theorem dX2_openBeforeParameter_15 : decode cX2_openBeforeParameter 15 = .ok (.aload_n 0, 1) := by decide +kernel
theorem dX2_openBeforeParameter_16 : decode cX2_openBeforeParameter 16 = .ok (.getfield 19, 3) := by decide +kernel
theorem dX2_openBeforeParameter_19 : decode cX2_openBeforeParameter 19 = .ok (.iload_n 1, 1) := by decide +kernel
theorem dX2_openBeforeParameter_20 : decode cX2_openBeforeParameter 20 = .ok (.caload, 1) := by decide +kernel
theorem dX2_openBeforeParameter_21 : decode cX2_openBeforeParameter 21 = .ok (.aload_n 2, 1) := by decide +kernel
theorem dX2_openBeforeParameter_22 : decode cX2_openBeforeParameter 22 = .ok (.iload 5, 2) := by decide +kernel
theorem dX2_openBeforeParameter_24 : decode cX2_openBeforeParameter 24 = .ok (.invokevirtual 106, 3) := by decide +kernel
theorem dX2_openBeforeParameter_27 : decode cX2_openBeforeParameter 27 = .ok (.aload_n 0, 1) := by decide +kernel
theorem dX2_openBeforeParameter_28 : decode cX2_openBeforeParameter 28 = .ok (.getfield 25, 3) := by decide +kernel
theorem dX2_openBeforeParameter_31 : decode cX2_openBeforeParameter 31 = .ok (.iload_n 1, 1) := by decide +kernel
theorem dX2_openBeforeParameter_32 : decode cX2_openBeforeParameter 32 = .ok (.iconst 1, 1) := by decide +kernel
theorem dX2_openBeforeParameter_33 : decode cX2_openBeforeParameter 33 = .ok (.iadd, 1) := by decide +kernel
theorem dX2_openBeforeParameter_34 : decode cX2_openBeforeParameter 34 = .ok (.laload, 1) := by decide +kernel
theorem dX2_openBeforeParameter_35 : decode cX2_openBeforeParameter 35 = .ok (.land, 1) := by decide +kernel
theorem dX2_openBeforeParameter_36 : decode cX2_openBeforeParameter 36 = .ok (.lconst 0, 1) := by decide +kernel
theorem dX2_openBeforeParameter_37 : decode cX2_openBeforeParameter 37 = .ok (.lcmp, 1) := by decide +kernel
theorem dX2_openBeforeParameter_38 : decode cX2_openBeforeParameter 38 = .ok (.ifCond .eq 10, 3) := by decide +kernel
theorem dX2_openBeforeParameter_48 : decode cX2_openBeforeParameter 48 = .ok (.iinc 5 1, 3) := by decide +kernel
theorem dX2_openBeforeParameter_51 : decode cX2_openBeforeParameter 51 = .ok (.goto (-46), 3) := by decide +kernel
theorem dX2_openBeforeParameter_41 : decode cX2_openBeforeParameter 41 = .ok (.lload_n 3, 1) := by decide +kernel
theorem dX2_openBeforeParameter_42 : decode cX2_openBeforeParameter 42 = .ok (.lconst 1, 1) := by decide +kernel
theorem dX2_openBeforeParameter_43 : decode cX2_openBeforeParameter 43 = .ok (.iload 5, 2) := by decide +kernel
theorem dX2_openBeforeParameter_45 : decode cX2_openBeforeParameter 45 = .ok (.lshl, 1) := by decide +kernel
theorem dX2_openBeforeParameter_46 : decode cX2_openBeforeParameter 46 = .ok (.lor, 1) := by decide +kernel
theorem dX2_openBeforeParameter_47 : decode cX2_openBeforeParameter 47 = .ok (.lstore_n 3, 1) := by decide +kernel
theorem dX2_fits_0 : decode cX2_fits 0 = .ok (.aload_n 0, 1) := by decide +kernel
theorem dX2_fits_1 : decode cX2_fits 1 = .ok (.getfield 25, 3) := by decide +kernel
theorem dX2_fits_4 : decode cX2_fits 4 = .ok (.aload_n 0, 1) := by decide +kernel
theorem dX2_fits_5 : decode cX2_fits 5 = .ok (.getfield 38, 3) := by decide +kernel
theorem dX2_fits_8 : decode cX2_fits 8 = .ok (.lconst 1, 1) := by decide +kernel
theorem dX2_fits_9 : decode cX2_fits 9 = .ok (.aload_n 1, 1) := by decide +kernel
theorem dX2_fits_10 : decode cX2_fits 10 = .ok (.getfield 48, 3) := by decide +kernel
theorem dX2_fits_13 : decode cX2_fits 13 = .ok (.lshl, 1) := by decide +kernel
theorem dX2_fits_14 : decode cX2_fits 14 = .ok (.lastore, 1) := by decide +kernel
theorem dX2_fits_15 : decode cX2_fits 15 = .ok (.aload_n 0, 1) := by decide +kernel
theorem dX2_fits_16 : decode cX2_fits 16 = .ok (.getfield 38, 3) := by decide +kernel
theorem dX2_fits_19 : decode cX2_fits 19 = .ok (.iconst 1, 1) := by decide +kernel
theorem dX2_fits_20 : decode cX2_fits 20 = .ok (.isub, 1) := by decide +kernel
theorem dX2_fits_21 : decode cX2_fits 21 = .ok (.istore_n 2, 1) := by decide +kernel
theorem dX2_fits_22 : decode cX2_fits 22 = .ok (.iload_n 2, 1) := by decide +kernel
theorem dX2_fits_23 : decode cX2_fits 23 = .ok (.ifCond .lt 54, 3) := by decide +kernel
theorem dX2_fits_77 : decode cX2_fits 77 = .ok (.aload_n 0, 1) := by decide +kernel
theorem dX2_fits_78 : decode cX2_fits 78 = .ok (.getfield 25, 3) := by decide +kernel
theorem dX2_fits_81 : decode cX2_fits 81 = .ok (.iconst 0, 1) := by decide +kernel
theorem dX2_fits_82 : decode cX2_fits 82 = .ok (.laload, 1) := by decide +kernel
theorem dX2_fits_83 : decode cX2_fits 83 = .ok (.lconst 1, 1) := by decide +kernel
theorem dX2_fits_84 : decode cX2_fits 84 = .ok (.land, 1) := by decide +kernel
theorem dX2_fits_85 : decode cX2_fits 85 = .ok (.lconst 1, 1) := by decide +kernel
theorem dX2_fits_86 : decode cX2_fits 86 = .ok (.lcmp, 1) := by decide +kernel
theorem dX2_fits_87 : decode cX2_fits 87 = .ok (.ifCond .ne 7, 3) := by decide +kernel
theorem dX2_fits_94 : decode cX2_fits 94 = .ok (.iconst 0, 1) := by decide +kernel
theorem dX2_fits_95 : decode cX2_fits 95 = .ok (.ireturn, 1) := by decide +kernel
theorem dX2_fits_90 : decode cX2_fits 90 = .ok (.iconst 1, 1) := by decide +kernel
theorem dX2_fits_91 : decode cX2_fits 91 = .ok (.goto 4, 3) := by decide +kernel
theorem dX2_fits_26 : decode cX2_fits 26 = .ok (.aload_n 0, 1) := by decide +kernel
theorem dX2_fits_27 : decode cX2_fits 27 = .ok (.getfield 25, 3) := by decide +kernel
theorem dX2_fits_30 : decode cX2_fits 30 = .ok (.iload_n 2, 1) := by decide +kernel
theorem dX2_fits_31 : decode cX2_fits 31 = .ok (.aload_n 0, 1) := by decide +kernel
theorem dX2_fits_32 : decode cX2_fits 32 = .ok (.getfield 19, 3) := by decide +kernel
theorem dX2_fits_35 : decode cX2_fits 35 = .ok (.iload_n 2, 1) := by decide +kernel
theorem dX2_fits_36 : decode cX2_fits 36 = .ok (.caload, 1) := by decide +kernel
theorem dX2_fits_37 : decode cX2_fits 37 = .ok (.bipush 47, 2) := by decide +kernel
theorem dX2_fits_39 : decode cX2_fits 39 = .ok (.if_icmp .ne 12, 3) := by decide +kernel
theorem dX2_fits_51 : decode cX2_fits 51 = .ok (.aload_n 0, 1) := by decide +kernel
theorem dX2_fits_52 : decode cX2_fits 52 = .ok (.iload_n 2, 1) := by decide +kernel
theorem dX2_fits_53 : decode cX2_fits 53 = .ok (.aload_n 1, 1) := by decide +kernel
theorem dX2_fits_54 : decode cX2_fits 54 = .ok (.invokevirtual 99, 3) := by decide +kernel
theorem dX2_fits_57 : decode cX2_fits 57 = .ok (.lastore, 1) := by decide +kernel
theorem dX2_fits_58 : decode cX2_fits 58 = .ok (.aload_n 0, 1) := by decide +kernel
theorem dX2_fits_59 : decode cX2_fits 59 = .ok (.getfield 25, 3) := by decide +kernel
theorem dX2_fits_62 : decode cX2_fits 62 = .ok (.iload_n 2, 1) := by decide +kernel
theorem dX2_fits_63 : decode cX2_fits 63 = .ok (.laload, 1) := by decide +kernel
theorem dX2_fits_64 : decode cX2_fits 64 = .ok (.lconst 0, 1) := by decide +kernel
theorem dX2_fits_65 : decode cX2_fits 65 = .ok (.lcmp, 1) := by decide +kernel
theorem dX2_fits_66 : decode cX2_fits 66 = .ok (.ifCond .ne 5, 3) := by decide +kernel
theorem dX2_fits_71 : decode cX2_fits 71 = .ok (.iinc 2 (-1), 3) := by decide +kernel
theorem dX2_fits_74 : decode cX2_fits 74 = .ok (.goto (-52), 3) := by decide +kernel
theorem dX2_fits_69 : decode cX2_fits 69 = .ok (.iconst 0, 1) := by decide +kernel
theorem dX2_fits_70 : decode cX2_fits 70 = .ok (.ireturn, 1) := by decide +kernel
theorem dX2_fits_42 : decode cX2_fits 42 = .ok (.aload_n 0, 1) := by decide +kernel
theorem dX2_fits_43 : decode cX2_fits 43 = .ok (.iload_n 2, 1) := by decide +kernel
theorem dX2_fits_44 : decode cX2_fits 44 = .ok (.aload_n 1, 1) := by decide +kernel
theorem dX2_fits_45 : decode cX2_fits 45 = .ok (.invokevirtual 95, 3) := by decide +kernel
theorem dX2_fits_48 : decode cX2_fits 48 = .ok (.goto 9, 3) := by decide +kernel
theorem dX2_endOfChoice_0 : decode cX2_endOfChoice 0 = .ok (.aload_n 0, 1) := by decide +kernel
theorem dX2_endOfChoice_1 : decode cX2_endOfChoice 1 = .ok (.getfield 22, 3) := by decide +kernel
theorem dX2_endOfChoice_4 : decode cX2_endOfChoice 4 = .ok (.iload_n 1, 1) := by decide +kernel
theorem dX2_endOfChoice_5 : decode cX2_endOfChoice 5 = .ok (.iaload, 1) := by decide +kernel
theorem dX2_endOfChoice_6 : decode cX2_endOfChoice 6 = .ok (.istore 4, 2) := by decide +kernel
theorem dX2_endOfChoice_8 : decode cX2_endOfChoice 8 = .ok (.iload 4, 2) := by decide +kernel
theorem dX2_endOfChoice_10 : decode cX2_endOfChoice 10 = .ok (.aload_n 0, 1) := by decide +kernel
theorem dX2_endOfChoice_11 : decode cX2_endOfChoice 11 = .ok (.getfield 22, 3) := by decide +kernel
theorem dX2_endOfChoice_14 : decode cX2_endOfChoice 14 = .ok (.iload_n 1, 1) := by decide +kernel
theorem dX2_endOfChoice_15 : decode cX2_endOfChoice 15 = .ok (.iconst 1, 1) := by decide +kernel
theorem dX2_endOfChoice_16 : decode cX2_endOfChoice 16 = .ok (.iadd, 1) := by decide +kernel
theorem dX2_endOfChoice_17 : decode cX2_endOfChoice 17 = .ok (.iaload, 1) := by decide +kernel
theorem dX2_endOfChoice_18 : decode cX2_endOfChoice 18 = .ok (.if_icmp .ge 60, 3) := by decide +kernel
theorem dX2_endOfChoice_78 : decode cX2_endOfChoice 78 = .ok (.iload_n 3, 1) := by decide +kernel
theorem dX2_endOfChoice_79 : decode cX2_endOfChoice 79 = .ok (.ireturn, 1) := by decide +kernel
theorem dX2_endOfChoice_21 : decode cX2_endOfChoice 21 = .ok (.iload_n 3, 1) := by decide +kernel
theorem dX2_endOfChoice_22 : decode cX2_endOfChoice 22 = .ok (.aload_n 0, 1) := by decide +kernel
theorem dX2_endOfChoice_23 : decode cX2_endOfChoice 23 = .ok (.iload 4, 2) := by decide +kernel
theorem dX2_endOfChoice_25 : decode cX2_endOfChoice 25 = .ok (.invokevirtual 88, 3) := by decide +kernel
theorem dX2_endOfChoice_28 : decode cX2_endOfChoice 28 = .ok (.iadd, 1) := by decide +kernel
theorem dX2_endOfChoice_29 : decode cX2_endOfChoice 29 = .ok (.istore 5, 2) := by decide +kernel
theorem dX2_endOfChoice_31 : decode cX2_endOfChoice 31 = .ok (.iload 5, 2) := by decide +kernel
theorem dX2_endOfChoice_33 : decode cX2_endOfChoice 33 = .ok (.aload_n 2, 1) := by decide +kernel
theorem dX2_endOfChoice_34 : decode cX2_endOfChoice 34 = .ok (.getfield 48, 3) := by decide +kernel
theorem dX2_endOfChoice_37 : decode cX2_endOfChoice 37 = .ok (.if_icmp .gt 35, 3) := by decide +kernel
theorem dX2_endOfChoice_72 : decode cX2_endOfChoice 72 = .ok (.iinc 4 1, 3) := by decide +kernel
theorem dX2_endOfChoice_75 : decode cX2_endOfChoice 75 = .ok (.goto (-67), 3) := by decide +kernel
theorem dX2_endOfChoice_40 : decode cX2_endOfChoice 40 = .ok (.aload_n 0, 1) := by decide +kernel
theorem dX2_endOfChoice_41 : decode cX2_endOfChoice 41 = .ok (.getfield 25, 3) := by decide +kernel
theorem dX2_endOfChoice_44 : decode cX2_endOfChoice 44 = .ok (.iload_n 1, 1) := by decide +kernel
theorem dX2_endOfChoice_45 : decode cX2_endOfChoice 45 = .ok (.iconst 1, 1) := by decide +kernel
theorem dX2_endOfChoice_46 : decode cX2_endOfChoice 46 = .ok (.iadd, 1) := by decide +kernel
theorem dX2_endOfChoice_47 : decode cX2_endOfChoice 47 = .ok (.laload, 1) := by decide +kernel
theorem dX2_endOfChoice_48 : decode cX2_endOfChoice 48 = .ok (.iload 5, 2) := by decide +kernel
theorem dX2_endOfChoice_50 : decode cX2_endOfChoice 50 = .ok (.lushr, 1) := by decide +kernel
theorem dX2_endOfChoice_51 : decode cX2_endOfChoice 51 = .ok (.lconst 1, 1) := by decide +kernel
theorem dX2_endOfChoice_52 : decode cX2_endOfChoice 52 = .ok (.land, 1) := by decide +kernel
theorem dX2_endOfChoice_53 : decode cX2_endOfChoice 53 = .ok (.lconst 1, 1) := by decide +kernel
theorem dX2_endOfChoice_54 : decode cX2_endOfChoice 54 = .ok (.lcmp, 1) := by decide +kernel
theorem dX2_endOfChoice_55 : decode cX2_endOfChoice 55 = .ok (.ifCond .ne 17, 3) := by decide +kernel
theorem dX2_endOfChoice_58 : decode cX2_endOfChoice 58 = .ok (.aload_n 0, 1) := by decide +kernel
theorem dX2_endOfChoice_59 : decode cX2_endOfChoice 59 = .ok (.iload 4, 2) := by decide +kernel
theorem dX2_endOfChoice_61 : decode cX2_endOfChoice 61 = .ok (.aload_n 2, 1) := by decide +kernel
theorem dX2_endOfChoice_62 : decode cX2_endOfChoice 62 = .ok (.iload_n 3, 1) := by decide +kernel
theorem dX2_endOfChoice_63 : decode cX2_endOfChoice 63 = .ok (.invokevirtual 102, 3) := by decide +kernel
theorem dX2_endOfChoice_66 : decode cX2_endOfChoice 66 = .ok (.ifCond .eq 6, 3) := by decide +kernel
theorem dX2_endOfChoice_69 : decode cX2_endOfChoice 69 = .ok (.iload 5, 2) := by decide +kernel
theorem dX2_endOfChoice_71 : decode cX2_endOfChoice 71 = .ok (.ireturn, 1) := by decide +kernel
theorem dX2_last_0 : decode cX2_last 0 = .ok (.bipush 60, 2) := by decide +kernel
theorem dX2_last_2 : decode cX2_last 2 = .ok (.istore_n 3, 1) := by decide +kernel
theorem dX2_last_3 : decode cX2_last 3 = .ok (.iload_n 3, 1) := by decide +kernel
theorem dX2_last_4 : decode cX2_last 4 = .ok (.ifCond .le 21, 3) := by decide +kernel
theorem dX2_last_25 : decode cX2_last 25 = .ok (.iconst 0, 1) := by decide +kernel
theorem dX2_last_26 : decode cX2_last 26 = .ok (.ireturn, 1) := by decide +kernel
theorem dX2_last_7 : decode cX2_last 7 = .ok (.lload_n 1, 1) := by decide +kernel
theorem dX2_last_8 : decode cX2_last 8 = .ok (.iload_n 3, 1) := by decide +kernel
theorem dX2_last_9 : decode cX2_last 9 = .ok (.lushr, 1) := by decide +kernel
theorem dX2_last_10 : decode cX2_last 10 = .ok (.lconst 1, 1) := by decide +kernel
theorem dX2_last_11 : decode cX2_last 11 = .ok (.land, 1) := by decide +kernel
theorem dX2_last_12 : decode cX2_last 12 = .ok (.lconst 1, 1) := by decide +kernel
theorem dX2_last_13 : decode cX2_last 13 = .ok (.lcmp, 1) := by decide +kernel
theorem dX2_last_14 : decode cX2_last 14 = .ok (.ifCond .ne 5, 3) := by decide +kernel
theorem dX2_last_19 : decode cX2_last 19 = .ok (.iinc 3 (-1), 3) := by decide +kernel
theorem dX2_last_22 : decode cX2_last 22 = .ok (.goto (-19), 3) := by decide +kernel
theorem dX2_last_17 : decode cX2_last 17 = .ok (.iload_n 3, 1) := by decide +kernel
theorem dX2_last_18 : decode cX2_last 18 = .ok (.ireturn, 1) := by decide +kernel
theorem dX2_hasArgument_0 : decode cX2_hasArgument 0 = .ok (.iload_n 1, 1) := by decide +kernel
theorem dX2_hasArgument_1 : decode cX2_hasArgument 1 = .ok (.ifCond .lt 15, 3) := by decide +kernel
theorem dX2_hasArgument_16 : decode cX2_hasArgument 16 = .ok (.iconst 0, 1) := by decide +kernel
theorem dX2_hasArgument_17 : decode cX2_hasArgument 17 = .ok (.ireturn, 1) := by decide +kernel
theorem dX2_hasArgument_4 : decode cX2_hasArgument 4 = .ok (.iload_n 1, 1) := by decide +kernel
theorem dX2_hasArgument_5 : decode cX2_hasArgument 5 = .ok (.aload_n 0, 1) := by decide +kernel
theorem dX2_hasArgument_6 : decode cX2_hasArgument 6 = .ok (.getfield 45, 3) := by decide +kernel
theorem dX2_hasArgument_9 : decode cX2_hasArgument 9 = .ok (.if_icmp .ge 7, 3) := by decide +kernel
theorem dX2_hasArgument_12 : decode cX2_hasArgument 12 = .ok (.iconst 1, 1) := by decide +kernel
theorem dX2_hasArgument_13 : decode cX2_hasArgument 13 = .ok (.goto 4, 3) := by decide +kernel
theorem dX2_hasNumber_0 : decode cX2_hasNumber 0 = .ok (.aload_n 0, 1) := by decide +kernel
theorem dX2_hasNumber_1 : decode cX2_hasNumber 1 = .ok (.iload_n 1, 1) := by decide +kernel
theorem dX2_hasNumber_2 : decode cX2_hasNumber 2 = .ok (.invokevirtual 134, 3) := by decide +kernel
theorem dX2_hasNumber_5 : decode cX2_hasNumber 5 = .ok (.ifCond .eq 29, 3) := by decide +kernel
theorem dX2_hasNumber_34 : decode cX2_hasNumber 34 = .ok (.iconst 0, 1) := by decide +kernel
theorem dX2_hasNumber_35 : decode cX2_hasNumber 35 = .ok (.ireturn, 1) := by decide +kernel
theorem dX2_hasNumber_8 : decode cX2_hasNumber 8 = .ok (.aload_n 0, 1) := by decide +kernel
theorem dX2_hasNumber_9 : decode cX2_hasNumber 9 = .ok (.getfield 35, 3) := by decide +kernel
theorem dX2_hasNumber_12 : decode cX2_hasNumber 12 = .ok (.iload_n 1, 1) := by decide +kernel
theorem dX2_hasNumber_13 : decode cX2_hasNumber 13 = .ok (.caload, 1) := by decide +kernel
theorem dX2_hasNumber_14 : decode cX2_hasNumber 14 = .ok (.bipush 105, 2) := by decide +kernel
theorem dX2_hasNumber_16 : decode cX2_hasNumber 16 = .ok (.if_icmp .eq 14, 3) := by decide +kernel
theorem dX2_hasNumber_30 : decode cX2_hasNumber 30 = .ok (.iconst 1, 1) := by decide +kernel
theorem dX2_hasNumber_31 : decode cX2_hasNumber 31 = .ok (.goto 4, 3) := by decide +kernel
theorem dX2_hasNumber_19 : decode cX2_hasNumber 19 = .ok (.aload_n 0, 1) := by decide +kernel
theorem dX2_hasNumber_20 : decode cX2_hasNumber 20 = .ok (.getfield 35, 3) := by decide +kernel
theorem dX2_hasNumber_23 : decode cX2_hasNumber 23 = .ok (.iload_n 1, 1) := by decide +kernel
theorem dX2_hasNumber_24 : decode cX2_hasNumber 24 = .ok (.caload, 1) := by decide +kernel
theorem dX2_hasNumber_25 : decode cX2_hasNumber 25 = .ok (.bipush 100, 2) := by decide +kernel
theorem dX2_hasNumber_27 : decode cX2_hasNumber 27 = .ok (.if_icmp .ne 7, 3) := by decide +kernel
theorem dX2_placeArguments_0 : decode cX2_placeArguments 0 = .ok (.aload_n 0, 1) := by decide +kernel
theorem dX2_placeArguments_1 : decode cX2_placeArguments 1 = .ok (.aload_n 1, 1) := by decide +kernel
theorem dX2_placeArguments_2 : decode cX2_placeArguments 2 = .ok (.invokevirtual 122, 3) := by decide +kernel
theorem dX2_placeArguments_5 : decode cX2_placeArguments 5 = .ok (.ifCond .ne 4, 3) := by decide +kernel
theorem dX2_placeArguments_9 : decode cX2_placeArguments 9 = .ok (.iconst 0, 1) := by decide +kernel
theorem dX2_placeArguments_10 : decode cX2_placeArguments 10 = .ok (.istore_n 2, 1) := by decide +kernel
theorem dX2_placeArguments_11 : decode cX2_placeArguments 11 = .ok (.iconst 0, 1) := by decide +kernel
theorem dX2_placeArguments_12 : decode cX2_placeArguments 12 = .ok (.istore_n 3, 1) := by decide +kernel
theorem dX2_placeArguments_13 : decode cX2_placeArguments 13 = .ok (.iconst 0, 1) := by decide +kernel
theorem dX2_placeArguments_14 : decode cX2_placeArguments 14 = .ok (.istore 4, 2) := by decide +kernel
theorem dX2_placeArguments_16 : decode cX2_placeArguments 16 = .ok (.iload 4, 2) := by decide +kernel
theorem dX2_placeArguments_18 : decode cX2_placeArguments 18 = .ok (.aload_n 0, 1) := by decide +kernel
theorem dX2_placeArguments_19 : decode cX2_placeArguments 19 = .ok (.getfield 38, 3) := by decide +kernel
theorem dX2_placeArguments_22 : decode cX2_placeArguments 22 = .ok (.if_icmp .ge 112, 3) := by decide +kernel
theorem dX2_placeArguments_134 : decode cX2_placeArguments 134 = .ok (.return_, 1) := by decide +kernel
theorem dX2_placeArguments_25 : decode cX2_placeArguments 25 = .ok (.aload_n 0, 1) := by decide +kernel
theorem dX2_placeArguments_26 : decode cX2_placeArguments 26 = .ok (.getfield 19, 3) := by decide +kernel
theorem dX2_placeArguments_29 : decode cX2_placeArguments 29 = .ok (.iload 4, 2) := by decide +kernel
theorem dX2_placeArguments_31 : decode cX2_placeArguments 31 = .ok (.caload, 1) := by decide +kernel
theorem dX2_placeArguments_32 : decode cX2_placeArguments 32 = .ok (.bipush 47, 2) := by decide +kernel
theorem dX2_placeArguments_34 : decode cX2_placeArguments 34 = .ok (.if_icmp .ne 15, 3) := by decide +kernel
theorem dX2_placeArguments_49 : decode cX2_placeArguments 49 = .ok (.aload_n 0, 1) := by decide +kernel
theorem dX2_placeArguments_50 : decode cX2_placeArguments 50 = .ok (.aload_n 0, 1) := by decide +kernel
theorem dX2_placeArguments_51 : decode cX2_placeArguments 51 = .ok (.aload_n 0, 1) := by decide +kernel
theorem dX2_placeArguments_52 : decode cX2_placeArguments 52 = .ok (.getfield 19, 3) := by decide +kernel
theorem dX2_placeArguments_55 : decode cX2_placeArguments 55 = .ok (.iload 4, 2) := by decide +kernel
theorem dX2_placeArguments_57 : decode cX2_placeArguments 57 = .ok (.caload, 1) := by decide +kernel
theorem dX2_placeArguments_58 : decode cX2_placeArguments 58 = .ok (.aload_n 1, 1) := by decide +kernel
theorem dX2_placeArguments_59 : decode cX2_placeArguments 59 = .ok (.iload_n 2, 1) := by decide +kernel
theorem dX2_placeArguments_60 : decode cX2_placeArguments 60 = .ok (.invokevirtual 106, 3) := by decide +kernel
theorem dX2_placeArguments_63 : decode cX2_placeArguments 63 = .ok (.aload_n 0, 1) := by decide +kernel
theorem dX2_placeArguments_64 : decode cX2_placeArguments 64 = .ok (.getfield 25, 3) := by decide +kernel
theorem dX2_placeArguments_67 : decode cX2_placeArguments 67 = .ok (.iload 4, 2) := by decide +kernel
theorem dX2_placeArguments_69 : decode cX2_placeArguments 69 = .ok (.iconst 1, 1) := by decide +kernel
theorem dX2_placeArguments_70 : decode cX2_placeArguments 70 = .ok (.iadd, 1) := by decide +kernel
theorem dX2_placeArguments_71 : decode cX2_placeArguments 71 = .ok (.laload, 1) := by decide +kernel
theorem dX2_placeArguments_72 : decode cX2_placeArguments 72 = .ok (.land, 1) := by decide +kernel
theorem dX2_placeArguments_73 : decode cX2_placeArguments 73 = .ok (.invokevirtual 130, 3) := by decide +kernel
theorem dX2_placeArguments_76 : decode cX2_placeArguments 76 = .ok (.istore 5, 2) := by decide +kernel
theorem dX2_placeArguments_78 : decode cX2_placeArguments 78 = .ok (.aload_n 0, 1) := by decide +kernel
theorem dX2_placeArguments_79 : decode cX2_placeArguments 79 = .ok (.getfield 19, 3) := by decide +kernel
theorem dX2_placeArguments_82 : decode cX2_placeArguments 82 = .ok (.iload 4, 2) := by decide +kernel
theorem dX2_placeArguments_84 : decode cX2_placeArguments 84 = .ok (.caload, 1) := by decide +kernel
theorem dX2_placeArguments_85 : decode cX2_placeArguments 85 = .ok (.bipush 115, 2) := by decide +kernel
theorem dX2_placeArguments_87 : decode cX2_placeArguments 87 = .ok (.if_icmp .ne 7, 3) := by decide +kernel
theorem dX2_placeArguments_94 : decode cX2_placeArguments 94 = .ok (.iconst 0, 1) := by decide +kernel
theorem dX2_placeArguments_95 : decode cX2_placeArguments 95 = .ok (.istore 6, 2) := by decide +kernel
theorem dX2_placeArguments_97 : decode cX2_placeArguments 97 = .ok (.aload_n 0, 1) := by decide +kernel
theorem dX2_placeArguments_98 : decode cX2_placeArguments 98 = .ok (.getfield 29, 3) := by decide +kernel
theorem dX2_placeArguments_101 : decode cX2_placeArguments 101 = .ok (.iload_n 3, 1) := by decide +kernel
theorem dX2_placeArguments_102 : decode cX2_placeArguments 102 = .ok (.iload_n 2, 1) := by decide +kernel
theorem dX2_placeArguments_103 : decode cX2_placeArguments 103 = .ok (.iload 6, 2) := by decide +kernel
theorem dX2_placeArguments_105 : decode cX2_placeArguments 105 = .ok (.iadd, 1) := by decide +kernel
theorem dX2_placeArguments_106 : decode cX2_placeArguments 106 = .ok (.iastore, 1) := by decide +kernel
theorem dX2_placeArguments_107 : decode cX2_placeArguments 107 = .ok (.aload_n 0, 1) := by decide +kernel
theorem dX2_placeArguments_108 : decode cX2_placeArguments 108 = .ok (.getfield 32, 3) := by decide +kernel
theorem dX2_placeArguments_111 : decode cX2_placeArguments 111 = .ok (.iload_n 3, 1) := by decide +kernel
theorem dX2_placeArguments_112 : decode cX2_placeArguments 112 = .ok (.iload 5, 2) := by decide +kernel
theorem dX2_placeArguments_114 : decode cX2_placeArguments 114 = .ok (.iload_n 2, 1) := by decide +kernel
theorem dX2_placeArguments_115 : decode cX2_placeArguments 115 = .ok (.isub, 1) := by decide +kernel
theorem dX2_placeArguments_116 : decode cX2_placeArguments 116 = .ok (.iconst 2, 1) := by decide +kernel
theorem dX2_placeArguments_117 : decode cX2_placeArguments 117 = .ok (.iload 6, 2) := by decide +kernel
theorem dX2_placeArguments_119 : decode cX2_placeArguments 119 = .ok (.imul, 1) := by decide +kernel
theorem dX2_placeArguments_120 : decode cX2_placeArguments 120 = .ok (.isub, 1) := by decide +kernel
theorem dX2_placeArguments_121 : decode cX2_placeArguments 121 = .ok (.iastore, 1) := by decide +kernel
theorem dX2_placeArguments_122 : decode cX2_placeArguments 122 = .ok (.iinc 3 1, 3) := by decide +kernel
theorem dX2_placeArguments_125 : decode cX2_placeArguments 125 = .ok (.iload 5, 2) := by decide +kernel
theorem dX2_placeArguments_127 : decode cX2_placeArguments 127 = .ok (.istore_n 2, 1) := by decide +kernel
theorem dX2_placeArguments_128 : decode cX2_placeArguments 128 = .ok (.iinc 4 1, 3) := by decide +kernel
theorem dX2_placeArguments_131 : decode cX2_placeArguments 131 = .ok (.goto (-115), 3) := by decide +kernel
theorem dX2_placeArguments_90 : decode cX2_placeArguments 90 = .ok (.iconst 1, 1) := by decide +kernel
theorem dX2_placeArguments_91 : decode cX2_placeArguments 91 = .ok (.goto 4, 3) := by decide +kernel
theorem dX2_placeArguments_37 : decode cX2_placeArguments 37 = .ok (.aload_n 0, 1) := by decide +kernel
theorem dX2_placeArguments_38 : decode cX2_placeArguments 38 = .ok (.iload 4, 2) := by decide +kernel
theorem dX2_placeArguments_40 : decode cX2_placeArguments 40 = .ok (.aload_n 1, 1) := by decide +kernel
theorem dX2_placeArguments_41 : decode cX2_placeArguments 41 = .ok (.iload_n 2, 1) := by decide +kernel
theorem dX2_placeArguments_42 : decode cX2_placeArguments 42 = .ok (.invokevirtual 126, 3) := by decide +kernel
theorem dX2_placeArguments_45 : decode cX2_placeArguments 45 = .ok (.istore_n 2, 1) := by decide +kernel
theorem dX2_placeArguments_46 : decode cX2_placeArguments 46 = .ok (.goto 82, 3) := by decide +kernel
theorem dX2_placeArguments_8 : decode cX2_placeArguments 8 = .ok (.return_, 1) := by decide +kernel
theorem gX2_standsAt_X2_choiceLength : GoodIn wsX2_standsAt (wsV RX2 88 RX2 yX2_choiceLength wsX2_choiceLength) := goodIn_app (goodIn_sub (List.forall_mem_cons.mpr ⟨(List.mem_cons_of_mem _ (List.mem_append_left _ (List.mem_append_left _ lm2))), List.forall_mem_cons.mpr ⟨(List.mem_cons_of_mem _ (List.mem_append_left _ (List.mem_append_left _ lm3))), List.forall_mem_cons.mpr ⟨(List.mem_cons_of_mem _ (List.mem_append_left _ (List.mem_append_left _ lm4))), List.forall_mem_cons.mpr ⟨(List.mem_cons_of_mem _ (List.mem_append_left _ (List.mem_append_left _ lm5))), (fun _ h => absurd h List.not_mem_nil)⟩⟩⟩⟩) (by decide +kernel)) (goodIn_sub (by unfold wsX2_choiceLength; exact List.forall_mem_cons.mpr ⟨(List.mem_cons_of_mem _ (List.mem_append_left _ (List.mem_append_left _ lm6))), List.forall_mem_append.mpr ⟨List.forall_mem_cons.mpr ⟨(List.mem_cons_of_mem _ (List.mem_append_left _ (List.mem_append_left _ lm1))), (fun _ h => absurd h List.not_mem_nil)⟩, (fun _ h => (List.mem_cons_of_mem _ (List.mem_append_left _ (List.mem_append_right _ h))))⟩⟩) gw_X2_choiceLength)
theorem gX2_standsAt_X3_at : GoodIn wsX2_standsAt (wsV RX2 77 RX3 yX3_at wsX3_at) := goodIn_app (goodIn_sub (List.forall_mem_cons.mpr ⟨(List.mem_cons_of_mem _ (List.mem_append_left _ (List.mem_append_left _ lm7))), List.forall_mem_cons.mpr ⟨(List.mem_cons_of_mem _ (List.mem_append_left _ (List.mem_append_left _ lm8))), List.forall_mem_cons.mpr ⟨(List.mem_cons_of_mem _ (List.mem_append_left _ (List.mem_append_left _ lm9))), List.forall_mem_cons.mpr ⟨(List.mem_cons_of_mem _ (List.mem_append_left _ (List.mem_append_left _ lm10))), (fun _ h => absurd h List.not_mem_nil)⟩⟩⟩⟩) (by decide +kernel)) (goodIn_sub (by unfold wsX3_at; exact List.forall_mem_cons.mpr ⟨(List.mem_cons_of_mem _ (List.mem_append_left _ (List.mem_append_left _ lm11))), List.forall_mem_append.mpr ⟨List.forall_mem_cons.mpr ⟨(List.mem_cons_of_mem _ (List.mem_append_left _ (List.mem_append_left _ lm12))), List.forall_mem_cons.mpr ⟨(List.mem_cons_of_mem _ (List.mem_append_left _ (List.mem_append_left _ lm13))), (fun _ h => absurd h List.not_mem_nil)⟩⟩, (fun _ h => (List.mem_cons_of_mem _ (List.mem_append_right _ h)))⟩⟩) gw_X3_at)
theorem gX2_endsOf_X3_at : GoodIn wsX2_endsOf (wsV RX2 77 RX3 yX3_at wsX3_at) := goodIn_app (goodIn_sub (List.forall_mem_cons.mpr ⟨(List.mem_cons_of_mem _ (List.mem_append_left _ lm0)), List.forall_mem_cons.mpr ⟨(List.mem_cons_of_mem _ (List.mem_append_left _ lm1)), List.forall_mem_cons.mpr ⟨(List.mem_cons_of_mem _ (List.mem_append_left _ lm2)), List.forall_mem_cons.mpr ⟨(List.mem_cons_of_mem _ (List.mem_append_left _ lm3)), (fun _ h => absurd h List.not_mem_nil)⟩⟩⟩⟩) (by decide +kernel)) (goodIn_sub (by unfold wsX3_at; exact List.forall_mem_cons.mpr ⟨(List.mem_cons_of_mem _ (List.mem_append_left _ lm4)), List.forall_mem_append.mpr ⟨List.forall_mem_cons.mpr ⟨(List.mem_cons_of_mem _ (List.mem_append_left _ lm5)), List.forall_mem_cons.mpr ⟨(List.mem_cons_of_mem _ (List.mem_append_left _ lm6)), (fun _ h => absurd h List.not_mem_nil)⟩⟩, (fun _ h => (List.mem_cons_of_mem _ (List.mem_append_right _ h)))⟩⟩) gw_X3_at)
theorem gX2_endsOf_X3_digits : GoodIn wsX2_endsOf (wsV RX2 110 RX3 yX3_digits wsX3_digits) := goodIn_app (goodIn_sub (List.forall_mem_cons.mpr ⟨(List.mem_cons_of_mem _ (List.mem_append_left _ lm7)), List.forall_mem_cons.mpr ⟨(List.mem_cons_of_mem _ (List.mem_append_left _ lm8)), List.forall_mem_cons.mpr ⟨(List.mem_cons_of_mem _ (List.mem_append_left _ lm9)), List.forall_mem_cons.mpr ⟨(List.mem_cons_of_mem _ (List.mem_append_left _ lm3)), (fun _ h => absurd h List.not_mem_nil)⟩⟩⟩⟩) (by decide +kernel)) (goodIn_sub (by unfold wsX3_digits; exact List.forall_mem_cons.mpr ⟨(List.mem_cons_of_mem _ (List.mem_append_left _ lm10)), List.forall_mem_append.mpr ⟨List.forall_mem_cons.mpr ⟨(List.mem_cons_of_mem _ (List.mem_append_left _ lm5)), List.forall_mem_cons.mpr ⟨(List.mem_cons_of_mem _ (List.mem_append_left _ lm6)), (fun _ h => absurd h List.not_mem_nil)⟩⟩, (fun _ h => (List.mem_cons_of_mem _ (List.mem_append_right _ h)))⟩⟩) gw_X3_digits)
theorem gw_X2_places : wsX2_places.all goodWord = true := by decide +kernel
theorem gX2_endsOf_X2_places : GoodIn wsX2_endsOf (wsV RX2 114 RX2 yX2_places wsX2_places) := goodIn_app (goodIn_sub (List.forall_mem_cons.mpr ⟨(List.mem_cons_of_mem _ (List.mem_append_left _ lm11)), List.forall_mem_cons.mpr ⟨(List.mem_cons_of_mem _ (List.mem_append_left _ lm12)), List.forall_mem_cons.mpr ⟨(List.mem_cons_of_mem _ (List.mem_append_left _ lm13)), List.forall_mem_cons.mpr ⟨(List.mem_cons_of_mem _ (List.mem_append_left _ lm14)), (fun _ h => absurd h List.not_mem_nil)⟩⟩⟩⟩) (by decide +kernel)) (goodIn_sub (by unfold wsX2_places; exact List.forall_mem_cons.mpr ⟨(List.mem_cons_of_mem _ (List.mem_append_left _ lm15)), (fun _ h => absurd h List.not_mem_nil)⟩) gw_X2_places)
theorem gw_X3_before : wsX3_before.all goodWord = true := by decide +kernel
theorem gX2_endsOf_X3_before : GoodIn wsX2_endsOf (wsV RX2 118 RX3 yX3_before wsX3_before) := goodIn_app (goodIn_sub (List.forall_mem_cons.mpr ⟨(List.mem_cons_of_mem _ (List.mem_append_left _ lm16)), List.forall_mem_cons.mpr ⟨(List.mem_cons_of_mem _ (List.mem_append_left _ lm17)), List.forall_mem_cons.mpr ⟨(List.mem_cons_of_mem _ (List.mem_append_left _ lm18)), List.forall_mem_cons.mpr ⟨(List.mem_cons_of_mem _ (List.mem_append_left _ lm3)), (fun _ h => absurd h List.not_mem_nil)⟩⟩⟩⟩) (by decide +kernel)) (goodIn_sub (by unfold wsX3_before; exact List.forall_mem_cons.mpr ⟨(List.mem_cons_of_mem _ (List.mem_append_left _ lm19)), List.forall_mem_append.mpr ⟨List.forall_mem_cons.mpr ⟨(List.mem_cons_of_mem _ (List.mem_append_left _ lm5)), List.forall_mem_cons.mpr ⟨(List.mem_cons_of_mem _ (List.mem_append_left _ lm6)), (fun _ h => absurd h List.not_mem_nil)⟩⟩, (fun _ h => (List.mem_cons_of_mem _ (List.mem_append_right _ h)))⟩⟩) gw_X3_before)
theorem gX2_openBeforeChoice_X2_choiceLength : GoodIn wsX2_openBeforeChoice (wsV RX2 88 RX2 yX2_choiceLength wsX2_choiceLength) := goodIn_app (goodIn_sub (List.forall_mem_cons.mpr ⟨(List.mem_cons_of_mem _ (List.mem_append_left _ (List.mem_append_left _ lm3))), List.forall_mem_cons.mpr ⟨(List.mem_cons_of_mem _ (List.mem_append_left _ (List.mem_append_left _ lm4))), List.forall_mem_cons.mpr ⟨(List.mem_cons_of_mem _ (List.mem_append_left _ (List.mem_append_left _ lm5))), List.forall_mem_cons.mpr ⟨(List.mem_cons_of_mem _ (List.mem_append_left _ (List.mem_append_left _ lm6))), (fun _ h => absurd h List.not_mem_nil)⟩⟩⟩⟩) (by decide +kernel)) (goodIn_sub (by unfold wsX2_choiceLength; exact List.forall_mem_cons.mpr ⟨(List.mem_cons_of_mem _ (List.mem_append_left _ (List.mem_append_left _ lm7))), List.forall_mem_append.mpr ⟨List.forall_mem_cons.mpr ⟨(List.mem_cons_of_mem _ (List.mem_append_left _ (List.mem_append_left _ lm8))), (fun _ h => absurd h List.not_mem_nil)⟩, (fun _ h => (List.mem_cons_of_mem _ (List.mem_append_left _ (List.mem_append_right _ h))))⟩⟩) gw_X2_choiceLength)
theorem gw_X2_standsAt : wsX2_standsAt.all goodWord = true := by decide +kernel
theorem gX2_openBeforeChoice_X2_standsAt : GoodIn wsX2_openBeforeChoice (wsV RX2 102 RX2 yX2_standsAt wsX2_standsAt) := goodIn_app (goodIn_sub (List.forall_mem_cons.mpr ⟨(List.mem_cons_of_mem _ (List.mem_append_left _ (List.mem_append_left _ lm9))), List.forall_mem_cons.mpr ⟨(List.mem_cons_of_mem _ (List.mem_append_left _ (List.mem_append_left _ lm10))), List.forall_mem_cons.mpr ⟨(List.mem_cons_of_mem _ (List.mem_append_left _ (List.mem_append_left _ lm11))), List.forall_mem_cons.mpr ⟨(List.mem_cons_of_mem _ (List.mem_append_left _ (List.mem_append_left _ lm6))), (fun _ h => absurd h List.not_mem_nil)⟩⟩⟩⟩) (by decide +kernel)) (goodIn_sub (by unfold wsX2_standsAt; exact List.forall_mem_cons.mpr ⟨(List.mem_cons_of_mem _ (List.mem_append_left _ (List.mem_append_left _ lm12))), List.forall_mem_append.mpr ⟨List.forall_mem_append.mpr ⟨List.forall_mem_cons.mpr ⟨(List.mem_cons_of_mem _ (List.mem_append_left _ (List.mem_append_left _ lm13))), List.forall_mem_cons.mpr ⟨(List.mem_cons_of_mem _ (List.mem_append_left _ (List.mem_append_left _ lm8))), List.forall_mem_cons.mpr ⟨(List.mem_cons_of_mem _ (List.mem_append_left _ (List.mem_append_left _ lm3))), List.forall_mem_cons.mpr ⟨(List.mem_cons_of_mem _ (List.mem_append_left _ (List.mem_append_left _ lm4))), List.forall_mem_cons.mpr ⟨(List.mem_cons_of_mem _ (List.mem_append_left _ (List.mem_append_left _ lm5))), List.forall_mem_cons.mpr ⟨(List.mem_cons_of_mem _ (List.mem_append_left _ (List.mem_append_left _ lm6))), List.forall_mem_cons.mpr ⟨(List.mem_cons_of_mem _ (List.mem_append_left _ (List.mem_append_left _ lm7))), List.forall_mem_cons.mpr ⟨(List.mem_cons_of_mem _ (List.mem_append_left _ (List.mem_append_left _ lm14))), List.forall_mem_cons.mpr ⟨(List.mem_cons_of_mem _ (List.mem_append_left _ (List.mem_append_left _ lm15))), List.forall_mem_cons.mpr ⟨(List.mem_cons_of_mem _ (List.mem_append_left _ (List.mem_append_left _ lm16))), List.forall_mem_cons.mpr ⟨(List.mem_cons_of_mem _ (List.mem_append_left _ (List.mem_append_left _ lm17))), List.forall_mem_cons.mpr ⟨(List.mem_cons_of_mem _ (List.mem_append_left _ (List.mem_append_left _ lm18))), List.forall_mem_cons.mpr ⟨(List.mem_cons_of_mem _ (List.mem_append_left _ (List.mem_append_left _ lm19))), List.forall_mem_cons.mpr ⟨(List.mem_cons_of_mem _ (List.mem_append_left _ (List.mem_append_left _ lm20))), (fun _ h => absurd h List.not_mem_nil)⟩⟩⟩⟩⟩⟩⟩⟩⟩⟩⟩⟩⟩⟩, (fun _ h => (List.mem_cons_of_mem _ (List.mem_append_left _ (List.mem_append_right _ h))))⟩, (fun _ h => (List.mem_cons_of_mem _ (List.mem_append_right _ h)))⟩⟩) gw_X2_standsAt)
theorem gw_X2_endsOf : wsX2_endsOf.all goodWord = true := by decide +kernel
theorem gX2_openBeforeParameter_X2_endsOf : GoodIn wsX2_openBeforeParameter (wsV RX2 106 RX2 yX2_endsOf wsX2_endsOf) := goodIn_app (goodIn_sub (List.forall_mem_cons.mpr ⟨(List.mem_cons_of_mem _ (List.mem_append_left _ (List.mem_append_left _ (List.mem_append_left _ lm3)))), List.forall_mem_cons.mpr ⟨(List.mem_cons_of_mem _ (List.mem_append_left _ (List.mem_append_left _ (List.mem_append_left _ lm4)))), List.forall_mem_cons.mpr ⟨(List.mem_cons_of_mem _ (List.mem_append_left _ (List.mem_append_left _ (List.mem_append_left _ lm5)))), List.forall_mem_cons.mpr ⟨(List.mem_cons_of_mem _ (List.mem_append_left _ (List.mem_append_left _ (List.mem_append_left _ lm6)))), (fun _ h => absurd h List.not_mem_nil)⟩⟩⟩⟩) (by decide +kernel)) (goodIn_sub (by unfold wsX2_endsOf; exact List.forall_mem_cons.mpr ⟨(List.mem_cons_of_mem _ (List.mem_append_left _ (List.mem_append_left _ (List.mem_append_left _ lm7)))), List.forall_mem_append.mpr ⟨List.forall_mem_cons.mpr ⟨(List.mem_cons_of_mem _ (List.mem_append_left _ (List.mem_append_left _ (List.mem_append_left _ lm8)))), List.forall_mem_cons.mpr ⟨(List.mem_cons_of_mem _ (List.mem_append_left _ (List.mem_append_left _ (List.mem_append_left _ lm9)))), List.forall_mem_cons.mpr ⟨(List.mem_cons_of_mem _ (List.mem_append_left _ (List.mem_append_left _ (List.mem_append_left _ lm10)))), List.forall_mem_cons.mpr ⟨(List.mem_cons_of_mem _ (List.mem_append_left _ (List.mem_append_left _ (List.mem_append_left _ lm11)))), List.forall_mem_cons.mpr ⟨(List.mem_cons_of_mem _ (List.mem_append_left _ (List.mem_append_left _ (List.mem_append_left _ lm12)))), List.forall_mem_cons.mpr ⟨(List.mem_cons_of_mem _ (List.mem_append_left _ (List.mem_append_left _ (List.mem_append_left _ lm13)))), List.forall_mem_cons.mpr ⟨(List.mem_cons_of_mem _ (List.mem_append_left _ (List.mem_append_left _ (List.mem_append_left _ lm14)))), List.forall_mem_cons.mpr ⟨(List.mem_cons_of_mem _ (List.mem_append_left _ (List.mem_append_left _ (List.mem_append_left _ lm15)))), List.forall_mem_cons.mpr ⟨(List.mem_cons_of_mem _ (List.mem_append_left _ (List.mem_append_left _ (List.mem_append_left _ lm16)))), List.forall_mem_cons.mpr ⟨(List.mem_cons_of_mem _ (List.mem_append_left _ (List.mem_append_left _ (List.mem_append_left _ lm17)))), List.forall_mem_cons.mpr ⟨(List.mem_cons_of_mem _ (List.mem_append_left _ (List.mem_append_left _ (List.mem_append_left _ lm18)))), List.forall_mem_cons.mpr ⟨(List.mem_cons_of_mem _ (List.mem_append_left _ (List.mem_append_left _ (List.mem_append_left _ lm19)))), List.forall_mem_cons.mpr ⟨(List.mem_cons_of_mem _ (List.mem_append_left _ (List.mem_append_left _ (List.mem_append_left _ lm20)))), List.forall_mem_cons.mpr ⟨(List.mem_cons_of_mem _ (List.mem_append_left _ (List.mem_append_left _ (List.mem_append_left _ lm21)))), List.forall_mem_cons.mpr ⟨(List.mem_cons_of_mem _ (List.mem_append_left _ (List.mem_append_left _ (List.mem_append_left _ lm6)))), List.forall_mem_cons.mpr ⟨(List.mem_cons_of_mem _ (List.mem_append_left _ (List.mem_append_left _ (List.mem_append_left _ lm22)))), List.forall_mem_cons.mpr ⟨(List.mem_cons_of_mem _ (List.mem_append_left _ (List.mem_append_left _ (List.mem_append_left _ lm23)))), List.forall_mem_cons.mpr ⟨(List.mem_cons_of_mem _ (List.mem_append_left _ (List.mem_append_left _ (List.mem_append_right _ lm0)))), List.forall_mem_cons.mpr ⟨(List.mem_cons_of_mem _ (List.mem_append_left _ (List.mem_append_left _ (List.mem_append_right _ lm1)))), List.forall_mem_cons.mpr ⟨(List.mem_cons_of_mem _ (List.mem_append_left _ (List.mem_append_left _ (List.mem_append_right _ lm2)))), (fun _ h => absurd h List.not_mem_nil)⟩⟩⟩⟩⟩⟩⟩⟩⟩⟩⟩⟩⟩⟩⟩⟩⟩⟩⟩⟩, (fun _ h => (List.mem_cons_of_mem _ (List.mem_append_left _ (List.mem_append_right _ h))))⟩⟩) gw_X2_endsOf)
theorem gw_X2_openBeforeParameter : wsX2_openBeforeParameter.all goodWord = true := by decide +kernel
theorem gX2_fits_X2_openBeforeParameter : GoodIn wsX2_fits (wsV RX2 99 RX2 yX2_openBeforeParameter wsX2_openBeforeParameter) := goodIn_app (goodIn_sub (List.forall_mem_cons.mpr ⟨(List.mem_cons_of_mem _ (List.mem_append_left _ (List.mem_append_left _ (List.mem_append_right _ lm3)))), List.forall_mem_cons.mpr ⟨(List.mem_cons_of_mem _ (List.mem_append_left _ (List.mem_append_left _ (List.mem_append_right _ lm4)))), List.forall_mem_cons.mpr ⟨(List.mem_cons_of_mem _ (List.mem_append_left _ (List.mem_append_left _ (List.mem_append_right _ lm5)))), List.forall_mem_cons.mpr ⟨(List.mem_cons_of_mem _ (List.mem_append_left _ (List.mem_append_left _ (List.mem_append_left _ lm7)))), (fun _ h => absurd h List.not_mem_nil)⟩⟩⟩⟩) (by decide +kernel)) (goodIn_sub (by unfold wsX2_openBeforeParameter; exact List.forall_mem_cons.mpr ⟨(List.mem_cons_of_mem _ (List.mem_append_left _ (List.mem_append_left _ (List.mem_append_right _ lm6)))), List.forall_mem_append.mpr ⟨List.forall_mem_append.mpr ⟨List.forall_mem_append.mpr ⟨List.forall_mem_cons.mpr ⟨(List.mem_cons_of_mem _ (List.mem_append_left _ (List.mem_append_left _ (List.mem_append_left _ lm2)))), List.forall_mem_cons.mpr ⟨(List.mem_cons_of_mem _ (List.mem_append_left _ (List.mem_append_left _ (List.mem_append_left _ lm3)))), List.forall_mem_cons.mpr ⟨(List.mem_cons_of_mem _ (List.mem_append_left _ (List.mem_append_left _ (List.mem_append_left _ lm0)))), List.forall_mem_cons.mpr ⟨(List.mem_cons_of_mem _ (List.mem_append_left _ (List.mem_append_left _ (List.mem_append_right _ lm7)))), List.forall_mem_cons.mpr ⟨(List.mem_cons_of_mem _ (List.mem_append_left _ (List.mem_append_left _ (List.mem_append_right _ lm8)))), List.forall_mem_cons.mpr ⟨(List.mem_cons_of_mem _ (List.mem_append_left _ (List.mem_append_left _ (List.mem_append_right _ lm9)))), List.forall_mem_cons.mpr ⟨(List.mem_cons_of_mem _ (List.mem_append_left _ (List.mem_append_left _ (List.mem_append_left _ lm7)))), List.forall_mem_cons.mpr ⟨(List.mem_cons_of_mem _ (List.mem_append_left _ (List.mem_append_left _ (List.mem_append_right _ lm10)))), List.forall_mem_cons.mpr ⟨(List.mem_cons_of_mem _ (List.mem_append_left _ (List.mem_append_left _ (List.mem_append_left _ lm20)))), List.forall_mem_cons.mpr ⟨(List.mem_cons_of_mem _ (List.mem_append_left _ (List.mem_append_left _ (List.mem_append_left _ lm21)))), List.forall_mem_cons.mpr ⟨(List.mem_cons_of_mem _ (List.mem_append_left _ (List.mem_append_left _ (List.mem_append_left _ lm22)))), List.forall_mem_cons.mpr ⟨(List.mem_cons_of_mem _ (List.mem_append_left _ (List.mem_append_left _ (List.mem_append_left _ lm23)))), List.forall_mem_cons.mpr ⟨(List.mem_cons_of_mem _ (List.mem_append_left _ (List.mem_append_left _ (List.mem_append_right _ lm0)))), List.forall_mem_cons.mpr ⟨(List.mem_cons_of_mem _ (List.mem_append_left _ (List.mem_append_left _ (List.mem_append_right _ lm1)))), List.forall_mem_cons.mpr ⟨(List.mem_cons_of_mem _ (List.mem_append_left _ (List.mem_append_left _ (List.mem_append_right _ lm2)))), List.forall_mem_cons.mpr ⟨(List.mem_cons_of_mem _ (List.mem_append_left _ (List.mem_append_left _ (List.mem_append_right _ lm11)))), List.forall_mem_cons.mpr ⟨(List.mem_cons_of_mem _ (List.mem_append_left _ (List.mem_append_left _ (List.mem_append_right _ lm12)))), List.forall_mem_cons.mpr ⟨(List.mem_cons_of_mem _ (List.mem_append_left _ (List.mem_append_left _ (List.mem_append_right _ lm13)))), List.forall_mem_cons.mpr ⟨(List.mem_cons_of_mem _ (List.mem_append_left _ (List.mem_append_left _ (List.mem_append_right _ lm14)))), List.forall_mem_cons.mpr ⟨(List.mem_cons_of_mem _ (List.mem_append_left _ (List.mem_append_left _ (List.mem_append_right _ lm15)))), List.forall_mem_cons.mpr ⟨(List.mem_cons_of_mem _ (List.mem_append_left _ (List.mem_append_left _ (List.mem_append_right _ lm16)))), List.forall_mem_cons.mpr ⟨(List.mem_cons_of_mem _ (List.mem_append_left _ (List.mem_append_left _ (List.mem_append_right _ lm17)))), List.forall_mem_cons.mpr ⟨(List.mem_cons_of_mem _ (List.mem_append_left _ (List.mem_append_left _ (List.mem_append_right _ lm18)))), List.forall_mem_cons.mpr ⟨(List.mem_cons_of_mem _ (List.mem_append_left _ (List.mem_append_left _ (List.mem_append_right _ lm19)))), (fun _ h => absurd h List.not_mem_nil)⟩⟩⟩⟩⟩⟩⟩⟩⟩⟩⟩⟩⟩⟩⟩⟩⟩⟩⟩⟩⟩⟩⟩⟩, List.forall_mem_cons.mpr ⟨(List.mem_cons_of_mem _ (List.mem_append_left _ (List.mem_append_left _ (List.mem_append_right _ lm20)))), List.forall_mem_cons.mpr ⟨(List.mem_cons_of_mem _ (List.mem_append_left _ (List.mem_append_left _ (List.mem_append_right _ lm21)))), List.forall_mem_cons.mpr ⟨(List.mem_cons_of_mem _ (List.mem_append_left _ (List.mem_append_left _ (List.mem_append_right _ lm22)))), (fun _ h => absurd h List.not_mem_nil)⟩⟩⟩⟩, (fun _ h => (List.mem_cons_of_mem _ (List.mem_append_right _ h)))⟩, (fun _ h => (List.mem_cons_of_mem _ (List.mem_append_left _ (List.mem_append_right _ h))))⟩⟩) gw_X2_openBeforeParameter)
theorem gw_X2_openBeforeChoice : wsX2_openBeforeChoice.all goodWord = true := by decide +kernel
theorem gX2_fits_X2_openBeforeChoice : GoodIn wsX2_fits (wsV RX2 95 RX2 yX2_openBeforeChoice wsX2_openBeforeChoice) := goodIn_app (goodIn_sub (List.forall_mem_cons.mpr ⟨(List.mem_cons_of_mem _ (List.mem_append_left _ (List.mem_append_left _ (List.mem_append_left _ lm4)))), List.forall_mem_cons.mpr ⟨(List.mem_cons_of_mem _ (List.mem_append_left _ (List.mem_append_left _ (List.mem_append_left _ lm5)))), List.forall_mem_cons.mpr ⟨(List.mem_cons_of_mem _ (List.mem_append_left _ (List.mem_append_left _ (List.mem_append_left _ lm6)))), List.forall_mem_cons.mpr ⟨(List.mem_cons_of_mem _ (List.mem_append_left _ (List.mem_append_left _ (List.mem_append_left _ lm7)))), (fun _ h => absurd h List.not_mem_nil)⟩⟩⟩⟩) (by decide +kernel)) (goodIn_sub (by unfold wsX2_openBeforeChoice; exact List.forall_mem_cons.mpr ⟨(List.mem_cons_of_mem _ (List.mem_append_left _ (List.mem_append_left _ (List.mem_append_left _ lm8)))), List.forall_mem_append.mpr ⟨List.forall_mem_append.mpr ⟨List.forall_mem_cons.mpr ⟨(List.mem_cons_of_mem _ (List.mem_append_left _ (List.mem_append_left _ (List.mem_append_left _ lm9)))), List.forall_mem_cons.mpr ⟨(List.mem_cons_of_mem _ (List.mem_append_left _ (List.mem_append_left _ (List.mem_append_left _ lm0)))), List.forall_mem_cons.mpr ⟨(List.mem_cons_of_mem _ (List.mem_append_left _ (List.mem_append_left _ (List.mem_append_left _ lm2)))), List.forall_mem_cons.mpr ⟨(List.mem_cons_of_mem _ (List.mem_append_left _ (List.mem_append_left _ (List.mem_append_left _ lm10)))), List.forall_mem_cons.mpr ⟨(List.mem_cons_of_mem _ (List.mem_append_left _ (List.mem_append_left _ (List.mem_append_left _ lm11)))), List.forall_mem_cons.mpr ⟨(List.mem_cons_of_mem _ (List.mem_append_left _ (List.mem_append_left _ (List.mem_append_left _ lm12)))), List.forall_mem_cons.mpr ⟨(List.mem_cons_of_mem _ (List.mem_append_left _ (List.mem_append_left _ (List.mem_append_left _ lm7)))), List.forall_mem_cons.mpr ⟨(List.mem_cons_of_mem _ (List.mem_append_left _ (List.mem_append_left _ (List.mem_append_left _ lm13)))), List.forall_mem_cons.mpr ⟨(List.mem_cons_of_mem _ (List.mem_append_left _ (List.mem_append_left _ (List.mem_append_left _ lm14)))), List.forall_mem_cons.mpr ⟨(List.mem_cons_of_mem _ (List.mem_append_left _ (List.mem_append_left _ (List.mem_append_left _ lm15)))), List.forall_mem_cons.mpr ⟨(List.mem_cons_of_mem _ (List.mem_append_left _ (List.mem_append_left _ (List.mem_append_left _ lm16)))), List.forall_mem_cons.mpr ⟨(List.mem_cons_of_mem _ (List.mem_append_left _ (List.mem_append_left _ (List.mem_append_left _ lm17)))), List.forall_mem_cons.mpr ⟨(List.mem_cons_of_mem _ (List.mem_append_left _ (List.mem_append_left _ (List.mem_append_left _ lm18)))), List.forall_mem_cons.mpr ⟨(List.mem_cons_of_mem _ (List.mem_append_left _ (List.mem_append_left _ (List.mem_append_left _ lm19)))), List.forall_mem_cons.mpr ⟨(List.mem_cons_of_mem _ (List.mem_append_left _ (List.mem_append_left _ (List.mem_append_left _ lm20)))), List.forall_mem_cons.mpr ⟨(List.mem_cons_of_mem _ (List.mem_append_left _ (List.mem_append_left _ (List.mem_append_left _ lm21)))), List.forall_mem_cons.mpr ⟨(List.mem_cons_of_mem _ (List.mem_append_left _ (List.mem_append_left _ (List.mem_append_left _ lm22)))), List.forall_mem_cons.mpr ⟨(List.mem_cons_of_mem _ (List.mem_append_left _ (List.mem_append_left _ (List.mem_append_left _ lm23)))), List.forall_mem_cons.mpr ⟨(List.mem_cons_of_mem _ (List.mem_append_left _ (List.mem_append_left _ (List.mem_append_right _ lm0)))), List.forall_mem_cons.mpr ⟨(List.mem_cons_of_mem _ (List.mem_append_left _ (List.mem_append_left _ (List.mem_append_right _ lm1)))), List.forall_mem_cons.mpr ⟨(List.mem_cons_of_mem _ (List.mem_append_left _ (List.mem_append_left _ (List.mem_append_right _ lm2)))), (fun _ h => absurd h List.not_mem_nil)⟩⟩⟩⟩⟩⟩⟩⟩⟩⟩⟩⟩⟩⟩⟩⟩⟩⟩⟩⟩⟩, (fun _ h => (List.mem_cons_of_mem _ (List.mem_append_left _ (List.mem_append_right _ h))))⟩, (fun _ h => (List.mem_cons_of_mem _ (List.mem_append_right _ h)))⟩⟩) gw_X2_openBeforeChoice)
theorem gX2_endOfChoice_X2_choiceLength : GoodIn wsX2_endOfChoice (wsV RX2 88 RX2 yX2_choiceLength wsX2_choiceLength) := goodIn_app (goodIn_sub (List.forall_mem_cons.mpr ⟨(List.mem_cons_of_mem _ (List.mem_append_left _ (List.mem_append_left _ lm3))), List.forall_mem_cons.mpr ⟨(List.mem_cons_of_mem _ (List.mem_append_left _ (List.mem_append_left _ lm4))), List.forall_mem_cons.mpr ⟨(List.mem_cons_of_mem _ (List.mem_append_left _ (List.mem_append_left _ lm5))), List.forall_mem_cons.mpr ⟨(List.mem_cons_of_mem _ (List.mem_append_left _ (List.mem_append_left _ lm6))), (fun _ h => absurd h List.not_mem_nil)⟩⟩⟩⟩) (by decide +kernel)) (goodIn_sub (by unfold wsX2_choiceLength; exact List.forall_mem_cons.mpr ⟨(List.mem_cons_of_mem _ (List.mem_append_left _ (List.mem_append_left _ lm7))), List.forall_mem_append.mpr ⟨List.forall_mem_cons.mpr ⟨(List.mem_cons_of_mem _ (List.mem_append_left _ (List.mem_append_left _ lm8))), (fun _ h => absurd h List.not_mem_nil)⟩, (fun _ h => (List.mem_cons_of_mem _ (List.mem_append_left _ (List.mem_append_right _ h))))⟩⟩) gw_X2_choiceLength)
theorem gX2_endOfChoice_X2_standsAt : GoodIn wsX2_endOfChoice (wsV RX2 102 RX2 yX2_standsAt wsX2_standsAt) := goodIn_app (goodIn_sub (List.forall_mem_cons.mpr ⟨(List.mem_cons_of_mem _ (List.mem_append_left _ (List.mem_append_left _ lm9))), List.forall_mem_cons.mpr ⟨(List.mem_cons_of_mem _ (List.mem_append_left _ (List.mem_append_left _ lm10))), List.forall_mem_cons.mpr ⟨(List.mem_cons_of_mem _ (List.mem_append_left _ (List.mem_append_left _ lm11))), List.forall_mem_cons.mpr ⟨(List.mem_cons_of_mem _ (List.mem_append_left _ (List.mem_append_left _ lm6))), (fun _ h => absurd h List.not_mem_nil)⟩⟩⟩⟩) (by decide +kernel)) (goodIn_sub (by unfold wsX2_standsAt; exact List.forall_mem_cons.mpr ⟨(List.mem_cons_of_mem _ (List.mem_append_left _ (List.mem_append_left _ lm12))), List.forall_mem_append.mpr ⟨List.forall_mem_append.mpr ⟨List.forall_mem_cons.mpr ⟨(List.mem_cons_of_mem _ (List.mem_append_left _ (List.mem_append_left _ lm13))), List.forall_mem_cons.mpr ⟨(List.mem_cons_of_mem _ (List.mem_append_left _ (List.mem_append_left _ lm8))), List.forall_mem_cons.mpr ⟨(List.mem_cons_of_mem _ (List.mem_append_left _ (List.mem_append_left _ lm3))), List.forall_mem_cons.mpr ⟨(List.mem_cons_of_mem _ (List.mem_append_left _ (List.mem_append_left _ lm4))), List.forall_mem_cons.mpr ⟨(List.mem_cons_of_mem _ (List.mem_append_left _ (List.mem_append_left _ lm5))), List.forall_mem_cons.mpr ⟨(List.mem_cons_of_mem _ (List.mem_append_left _ (List.mem_append_left _ lm6))), List.forall_mem_cons.mpr ⟨(List.mem_cons_of_mem _ (List.mem_append_left _ (List.mem_append_left _ lm7))), List.forall_mem_cons.mpr ⟨(List.mem_cons_of_mem _ (List.mem_append_left _ (List.mem_append_left _ lm14))), List.forall_mem_cons.mpr ⟨(List.mem_cons_of_mem _ (List.mem_append_left _ (List.mem_append_left _ lm15))), List.forall_mem_cons.mpr ⟨(List.mem_cons_of_mem _ (List.mem_append_left _ (List.mem_append_left _ lm16))), List.forall_mem_cons.mpr ⟨(List.mem_cons_of_mem _ (List.mem_append_left _ (List.mem_append_left _ lm17))), List.forall_mem_cons.mpr ⟨(List.mem_cons_of_mem _ (List.mem_append_left _ (List.mem_append_left _ lm18))), List.forall_mem_cons.mpr ⟨(List.mem_cons_of_mem _ (List.mem_append_left _ (List.mem_append_left _ lm19))), List.forall_mem_cons.mpr ⟨(List.mem_cons_of_mem _ (List.mem_append_left _ (List.mem_append_left _ lm20))), (fun _ h => absurd h List.not_mem_nil)⟩⟩⟩⟩⟩⟩⟩⟩⟩⟩⟩⟩⟩⟩, (fun _ h => (List.mem_cons_of_mem _ (List.mem_append_left _ (List.mem_append_right _ h))))⟩, (fun _ h => (List.mem_cons_of_mem _ (List.mem_append_right _ h)))⟩⟩) gw_X2_standsAt)
theorem gw_X2_hasArgument : wsX2_hasArgument.all goodWord = true := by decide +kernel
theorem gX2_hasNumber_X2_hasArgument : GoodIn wsX2_hasNumber (wsV RX2 134 RX2 yX2_hasArgument wsX2_hasArgument) := goodIn_app (goodIn_sub (List.forall_mem_cons.mpr ⟨(List.mem_cons_of_mem _ (List.mem_append_left _ lm1)), List.forall_mem_cons.mpr ⟨(List.mem_cons_of_mem _ (List.mem_append_left _ lm2)), List.forall_mem_cons.mpr ⟨(List.mem_cons_of_mem _ (List.mem_append_left _ lm3)), List.forall_mem_cons.mpr ⟨(List.mem_cons_of_mem _ (List.mem_append_left _ lm4)), (fun _ h => absurd h List.not_mem_nil)⟩⟩⟩⟩) (by decide +kernel)) (goodIn_sub (by unfold wsX2_hasArgument; exact List.forall_mem_cons.mpr ⟨(List.mem_cons_of_mem _ (List.mem_append_left _ lm5)), List.forall_mem_append.mpr ⟨List.forall_mem_cons.mpr ⟨(List.mem_cons_of_mem _ (List.mem_append_left _ lm6)), (fun _ h => absurd h List.not_mem_nil)⟩, (fun _ h => (List.mem_cons_of_mem _ (List.mem_append_right _ h)))⟩⟩) gw_X2_hasArgument)
theorem gw_X2_fits : wsX2_fits.all goodWord = true := by decide +kernel
theorem gX2_placeArguments_X2_fits : GoodIn wsX2_placeArguments (wsV RX2 122 RX2 yX2_fits wsX2_fits) := goodIn_app (goodIn_sub (List.forall_mem_cons.mpr ⟨(List.mem_cons_of_mem _ (List.mem_append_left _ (List.mem_append_left _ (List.mem_append_left _ lm5)))), List.forall_mem_cons.mpr ⟨(List.mem_cons_of_mem _ (List.mem_append_left _ (List.mem_append_left _ (List.mem_append_left _ lm6)))), List.forall_mem_cons.mpr ⟨(List.mem_cons_of_mem _ (List.mem_append_left _ (List.mem_append_left _ (List.mem_append_left _ lm7)))), List.forall_mem_cons.mpr ⟨(List.mem_cons_of_mem _ (List.mem_append_left _ (List.mem_append_left _ (List.mem_append_left _ lm8)))), (fun _ h => absurd h List.not_mem_nil)⟩⟩⟩⟩) (by decide +kernel)) (goodIn_sub (by unfold wsX2_fits; exact List.forall_mem_cons.mpr ⟨(List.mem_cons_of_mem _ (List.mem_append_left _ (List.mem_append_left _ (List.mem_append_left _ lm9)))), List.forall_mem_append.mpr ⟨List.forall_mem_append.mpr ⟨List.forall_mem_append.mpr ⟨List.forall_mem_cons.mpr ⟨(List.mem_cons_of_mem _ (List.mem_append_left _ (List.mem_append_left _ (List.mem_append_left _ lm2)))), List.forall_mem_cons.mpr ⟨(List.mem_cons_of_mem _ (List.mem_append_left _ (List.mem_append_left _ (List.mem_append_left _ lm0)))), List.forall_mem_cons.mpr ⟨(List.mem_cons_of_mem _ (List.mem_append_left _ (List.mem_append_left _ (List.mem_append_left _ lm10)))), List.forall_mem_cons.mpr ⟨(List.mem_cons_of_mem _ (List.mem_append_left _ (List.mem_append_left _ (List.mem_append_left _ lm1)))), List.forall_mem_cons.mpr ⟨(List.mem_cons_of_mem _ (List.mem_append_left _ (List.mem_append_left _ (List.mem_append_left _ lm11)))), List.forall_mem_cons.mpr ⟨(List.mem_cons_of_mem _ (List.mem_append_left _ (List.mem_append_left _ (List.mem_append_left _ lm12)))), List.forall_mem_cons.mpr ⟨(List.mem_cons_of_mem _ (List.mem_append_left _ (List.mem_append_left _ (List.mem_append_left _ lm13)))), List.forall_mem_cons.mpr ⟨(List.mem_cons_of_mem _ (List.mem_append_left _ (List.mem_append_left _ (List.mem_append_left _ lm8)))), List.forall_mem_cons.mpr ⟨(List.mem_cons_of_mem _ (List.mem_append_left _ (List.mem_append_left _ (List.mem_append_left _ lm14)))), List.forall_mem_cons.mpr ⟨(List.mem_cons_of_mem _ (List.mem_append_left _ (List.mem_append_left _ (List.mem_append_left _ lm15)))), List.forall_mem_cons.mpr ⟨(List.mem_cons_of_mem _ (List.mem_append_left _ (List.mem_append_left _ (List.mem_append_left _ lm16)))), List.forall_mem_cons.mpr ⟨(List.mem_cons_of_mem _ (List.mem_append_left _ (List.mem_append_left _ (List.mem_append_left _ lm17)))), List.forall_mem_cons.mpr ⟨(List.mem_cons_of_mem _ (List.mem_append_left _ (List.mem_append_left _ (List.mem_append_left _ lm18)))), List.forall_mem_cons.mpr ⟨(List.mem_cons_of_mem _ (List.mem_append_left _ (List.mem_append_left _ (List.mem_append_left _ lm19)))), List.forall_mem_cons.mpr ⟨(List.mem_cons_of_mem _ (List.mem_append_left _ (List.mem_append_left _ (List.mem_append_left _ lm20)))), List.forall_mem_cons.mpr ⟨(List.mem_cons_of_mem _ (List.mem_append_left _ (List.mem_append_left _ (List.mem_append_left _ lm21)))), List.forall_mem_cons.mpr ⟨(List.mem_cons_of_mem _ (List.mem_append_left _ (List.mem_append_left _ (List.mem_append_left _ lm22)))), List.forall_mem_cons.mpr ⟨(List.mem_cons_of_mem _ (List.mem_append_left _ (List.mem_append_left _ (List.mem_append_left _ lm23)))), List.forall_mem_cons.mpr ⟨(List.mem_cons_of_mem _ (List.mem_append_left _ (List.mem_append_left _ (List.mem_append_right _ (List.mem_append_left _ lm0))))), List.forall_mem_cons.mpr ⟨(List.mem_cons_of_mem _ (List.mem_append_left _ (List.mem_append_left _ (List.mem_append_right _ (List.mem_append_left _ lm1))))), List.forall_mem_cons.mpr ⟨(List.mem_cons_of_mem _ (List.mem_append_left _ (List.mem_append_left _ (List.mem_append_right _ (List.mem_append_left _ lm2))))), List.forall_mem_cons.mpr ⟨(List.mem_cons_of_mem _ (List.mem_append_left _ (List.mem_append_left _ (List.mem_append_right _ (List.mem_append_left _ lm3))))), List.forall_mem_cons.mpr ⟨(List.mem_cons_of_mem _ (List.mem_append_left _ (List.mem_append_left _ (List.mem_append_right _ (List.mem_append_left _ lm4))))), List.forall_mem_cons.mpr ⟨(List.mem_cons_of_mem _ (List.mem_append_left _ (List.mem_append_left _ (List.mem_append_right _ (List.mem_append_left _ lm5))))), (fun _ h => absurd h List.not_mem_nil)⟩⟩⟩⟩⟩⟩⟩⟩⟩⟩⟩⟩⟩⟩⟩⟩⟩⟩⟩⟩⟩⟩⟩⟩, List.forall_mem_cons.mpr ⟨(List.mem_cons_of_mem _ (List.mem_append_left _ (List.mem_append_left _ (List.mem_append_right _ (List.mem_append_left _ lm6))))), List.forall_mem_cons.mpr ⟨(List.mem_cons_of_mem _ (List.mem_append_left _ (List.mem_append_left _ (List.mem_append_right _ (List.mem_append_left _ lm7))))), List.forall_mem_cons.mpr ⟨(List.mem_cons_of_mem _ (List.mem_append_left _ (List.mem_append_left _ (List.mem_append_right _ (List.mem_append_left _ lm8))))), List.forall_mem_cons.mpr ⟨(List.mem_cons_of_mem _ (List.mem_append_left _ (List.mem_append_left _ (List.mem_append_right _ (List.mem_append_left _ lm9))))), List.forall_mem_cons.mpr ⟨(List.mem_cons_of_mem _ (List.mem_append_left _ (List.mem_append_left _ (List.mem_append_right _ (List.mem_append_left _ lm10))))), List.forall_mem_cons.mpr ⟨(List.mem_cons_of_mem _ (List.mem_append_left _ (List.mem_append_left _ (List.mem_append_right _ (List.mem_append_left _ lm11))))), List.forall_mem_cons.mpr ⟨(List.mem_cons_of_mem _ (List.mem_append_left _ (List.mem_append_left _ (List.mem_append_right _ (List.mem_append_left _ lm12))))), List.forall_mem_cons.mpr ⟨(List.mem_cons_of_mem _ (List.mem_append_left _ (List.mem_append_left _ (List.mem_append_right _ (List.mem_append_left _ lm13))))), List.forall_mem_cons.mpr ⟨(List.mem_cons_of_mem _ (List.mem_append_left _ (List.mem_append_left _ (List.mem_append_right _ (List.mem_append_left _ lm14))))), List.forall_mem_cons.mpr ⟨(List.mem_cons_of_mem _ (List.mem_append_left _ (List.mem_append_left _ (List.mem_append_right _ (List.mem_append_left _ lm15))))), List.forall_mem_cons.mpr ⟨(List.mem_cons_of_mem _ (List.mem_append_left _ (List.mem_append_left _ (List.mem_append_right _ (List.mem_append_left _ lm16))))), List.forall_mem_cons.mpr ⟨(List.mem_cons_of_mem _ (List.mem_append_left _ (List.mem_append_left _ (List.mem_append_right _ (List.mem_append_left _ lm17))))), List.forall_mem_cons.mpr ⟨(List.mem_cons_of_mem _ (List.mem_append_left _ (List.mem_append_left _ (List.mem_append_right _ (List.mem_append_left _ lm18))))), List.forall_mem_cons.mpr ⟨(List.mem_cons_of_mem _ (List.mem_append_left _ (List.mem_append_left _ (List.mem_append_right _ (List.mem_append_left _ lm19))))), List.forall_mem_cons.mpr ⟨(List.mem_cons_of_mem _ (List.mem_append_left _ (List.mem_append_left _ (List.mem_append_right _ (List.mem_append_left _ lm20))))), List.forall_mem_cons.mpr ⟨(List.mem_cons_of_mem _ (List.mem_append_left _ (List.mem_append_left _ (List.mem_append_right _ (List.mem_append_left _ lm21))))), List.forall_mem_cons.mpr ⟨(List.mem_cons_of_mem _ (List.mem_append_left _ (List.mem_append_left _ (List.mem_append_right _ (List.mem_append_left _ lm22))))), List.forall_mem_cons.mpr ⟨(List.mem_cons_of_mem _ (List.mem_append_left _ (List.mem_append_left _ (List.mem_append_right _ (List.mem_append_left _ lm23))))), List.forall_mem_cons.mpr ⟨(List.mem_cons_of_mem _ (List.mem_append_left _ (List.mem_append_left _ (List.mem_append_right _ (List.mem_append_right _ lm0))))), List.forall_mem_cons.mpr ⟨(List.mem_cons_of_mem _ (List.mem_append_left _ (List.mem_append_left _ (List.mem_append_right _ (List.mem_append_right _ lm1))))), List.forall_mem_cons.mpr ⟨(List.mem_cons_of_mem _ (List.mem_append_left _ (List.mem_append_left _ (List.mem_append_right _ (List.mem_append_right _ lm2))))), List.forall_mem_cons.mpr ⟨(List.mem_cons_of_mem _ (List.mem_append_left _ (List.mem_append_left _ (List.mem_append_right _ (List.mem_append_right _ lm3))))), List.forall_mem_cons.mpr ⟨(List.mem_cons_of_mem _ (List.mem_append_left _ (List.mem_append_left _ (List.mem_append_right _ (List.mem_append_right _ lm4))))), (fun _ h => absurd h List.not_mem_nil)⟩⟩⟩⟩⟩⟩⟩⟩⟩⟩⟩⟩⟩⟩⟩⟩⟩⟩⟩⟩⟩⟩⟩⟩, (fun _ h => (List.mem_cons_of_mem _ (List.mem_append_left _ (List.mem_append_right _ h))))⟩, (fun _ h => (List.mem_cons_of_mem _ (List.mem_append_right _ h)))⟩⟩) gw_X2_fits)
theorem gX2_placeArguments_X2_endsOf : GoodIn wsX2_placeArguments (wsV RX2 106 RX2 yX2_endsOf wsX2_endsOf) := goodIn_app (goodIn_sub (List.forall_mem_cons.mpr ⟨(List.mem_cons_of_mem _ (List.mem_append_left _ (List.mem_append_left _ (List.mem_append_right _ (List.mem_append_left _ lm13))))), List.forall_mem_cons.mpr ⟨(List.mem_cons_of_mem _ (List.mem_append_left _ (List.mem_append_left _ (List.mem_append_right _ (List.mem_append_left _ lm14))))), List.forall_mem_cons.mpr ⟨(List.mem_cons_of_mem _ (List.mem_append_left _ (List.mem_append_left _ (List.mem_append_right _ (List.mem_append_left _ lm15))))), List.forall_mem_cons.mpr ⟨(List.mem_cons_of_mem _ (List.mem_append_left _ (List.mem_append_left _ (List.mem_append_left _ lm8)))), (fun _ h => absurd h List.not_mem_nil)⟩⟩⟩⟩) (by decide +kernel)) (goodIn_sub (by unfold wsX2_endsOf; exact List.forall_mem_cons.mpr ⟨(List.mem_cons_of_mem _ (List.mem_append_left _ (List.mem_append_left _ (List.mem_append_right _ (List.mem_append_left _ lm16))))), List.forall_mem_append.mpr ⟨List.forall_mem_cons.mpr ⟨(List.mem_cons_of_mem _ (List.mem_append_left _ (List.mem_append_left _ (List.mem_append_right _ (List.mem_append_left _ lm2))))), List.forall_mem_cons.mpr ⟨(List.mem_cons_of_mem _ (List.mem_append_left _ (List.mem_append_left _ (List.mem_append_right _ (List.mem_append_left _ lm3))))), List.forall_mem_cons.mpr ⟨(List.mem_cons_of_mem _ (List.mem_append_left _ (List.mem_append_left _ (List.mem_append_right _ (List.mem_append_left _ lm4))))), List.forall_mem_cons.mpr ⟨(List.mem_cons_of_mem _ (List.mem_append_left _ (List.mem_append_left _ (List.mem_append_right _ (List.mem_append_left _ lm5))))), List.forall_mem_cons.mpr ⟨(List.mem_cons_of_mem _ (List.mem_append_left _ (List.mem_append_left _ (List.mem_append_right _ (List.mem_append_left _ lm6))))), List.forall_mem_cons.mpr ⟨(List.mem_cons_of_mem _ (List.mem_append_left _ (List.mem_append_left _ (List.mem_append_right _ (List.mem_append_left _ lm7))))), List.forall_mem_cons.mpr ⟨(List.mem_cons_of_mem _ (List.mem_append_left _ (List.mem_append_left _ (List.mem_append_right _ (List.mem_append_left _ lm8))))), List.forall_mem_cons.mpr ⟨(List.mem_cons_of_mem _ (List.mem_append_left _ (List.mem_append_left _ (List.mem_append_right _ (List.mem_append_left _ lm17))))), List.forall_mem_cons.mpr ⟨(List.mem_cons_of_mem _ (List.mem_append_left _ (List.mem_append_left _ (List.mem_append_right _ (List.mem_append_left _ lm18))))), List.forall_mem_cons.mpr ⟨(List.mem_cons_of_mem _ (List.mem_append_left _ (List.mem_append_left _ (List.mem_append_right _ (List.mem_append_left _ lm19))))), List.forall_mem_cons.mpr ⟨(List.mem_cons_of_mem _ (List.mem_append_left _ (List.mem_append_left _ (List.mem_append_right _ (List.mem_append_left _ lm20))))), List.forall_mem_cons.mpr ⟨(List.mem_cons_of_mem _ (List.mem_append_left _ (List.mem_append_left _ (List.mem_append_right _ (List.mem_append_left _ lm21))))), List.forall_mem_cons.mpr ⟨(List.mem_cons_of_mem _ (List.mem_append_left _ (List.mem_append_left _ (List.mem_append_right _ (List.mem_append_left _ lm22))))), List.forall_mem_cons.mpr ⟨(List.mem_cons_of_mem _ (List.mem_append_left _ (List.mem_append_left _ (List.mem_append_right _ (List.mem_append_left _ lm23))))), List.forall_mem_cons.mpr ⟨(List.mem_cons_of_mem _ (List.mem_append_left _ (List.mem_append_left _ (List.mem_append_left _ lm8)))), List.forall_mem_cons.mpr ⟨(List.mem_cons_of_mem _ (List.mem_append_left _ (List.mem_append_left _ (List.mem_append_right _ (List.mem_append_right _ lm0))))), List.forall_mem_cons.mpr ⟨(List.mem_cons_of_mem _ (List.mem_append_left _ (List.mem_append_left _ (List.mem_append_right _ (List.mem_append_right _ lm1))))), List.forall_mem_cons.mpr ⟨(List.mem_cons_of_mem _ (List.mem_append_left _ (List.mem_append_left _ (List.mem_append_right _ (List.mem_append_right _ lm2))))), List.forall_mem_cons.mpr ⟨(List.mem_cons_of_mem _ (List.mem_append_left _ (List.mem_append_left _ (List.mem_append_right _ (List.mem_append_right _ lm3))))), List.forall_mem_cons.mpr ⟨(List.mem_cons_of_mem _ (List.mem_append_left _ (List.mem_append_left _ (List.mem_append_right _ (List.mem_append_right _ lm4))))), (fun _ h => absurd h List.not_mem_nil)⟩⟩⟩⟩⟩⟩⟩⟩⟩⟩⟩⟩⟩⟩⟩⟩⟩⟩⟩⟩, (fun _ h => (List.mem_cons_of_mem _ (List.mem_append_right _ h)))⟩⟩) gw_X2_endsOf)
theorem gw_X2_last : wsX2_last.all goodWord = true := by decide +kernel
theorem gX2_placeArguments_X2_last : GoodIn wsX2_placeArguments (wsV RX2 130 RX2 yX2_last wsX2_last) := goodIn_app (goodIn_sub (List.forall_mem_cons.mpr ⟨(List.mem_cons_of_mem _ (List.mem_append_left _ (List.mem_append_left _ (List.mem_append_right _ (List.mem_append_right _ lm9))))), List.forall_mem_cons.mpr ⟨(List.mem_cons_of_mem _ (List.mem_append_left _ (List.mem_append_left _ (List.mem_append_right _ (List.mem_append_right _ lm10))))), List.forall_mem_cons.mpr ⟨(List.mem_cons_of_mem _ (List.mem_append_left _ (List.mem_append_left _ (List.mem_append_right _ (List.mem_append_right _ lm11))))), List.forall_mem_cons.mpr ⟨(List.mem_cons_of_mem _ (List.mem_append_left _ (List.mem_append_left _ (List.mem_append_left _ lm8)))), (fun _ h => absurd h List.not_mem_nil)⟩⟩⟩⟩) (by decide +kernel)) (goodIn_sub (by unfold wsX2_last; exact List.forall_mem_cons.mpr ⟨(List.mem_cons_of_mem _ (List.mem_append_left _ (List.mem_append_left _ (List.mem_append_right _ (List.mem_append_right _ lm12))))), (fun _ h => absurd h List.not_mem_nil)⟩) gw_X2_last)
theorem gw_X2_endOfChoice : wsX2_endOfChoice.all goodWord = true := by decide +kernel
theorem gX2_placeArguments_X2_endOfChoice : GoodIn wsX2_placeArguments (wsV RX2 126 RX2 yX2_endOfChoice wsX2_endOfChoice) := goodIn_app (goodIn_sub (List.forall_mem_cons.mpr ⟨(List.mem_cons_of_mem _ (List.mem_append_left _ (List.mem_append_left _ (List.mem_append_right _ (List.mem_append_right _ lm5))))), List.forall_mem_cons.mpr ⟨(List.mem_cons_of_mem _ (List.mem_append_left _ (List.mem_append_left _ (List.mem_append_right _ (List.mem_append_right _ lm6))))), List.forall_mem_cons.mpr ⟨(List.mem_cons_of_mem _ (List.mem_append_left _ (List.mem_append_left _ (List.mem_append_right _ (List.mem_append_right _ lm7))))), List.forall_mem_cons.mpr ⟨(List.mem_cons_of_mem _ (List.mem_append_left _ (List.mem_append_left _ (List.mem_append_left _ lm8)))), (fun _ h => absurd h List.not_mem_nil)⟩⟩⟩⟩) (by decide +kernel)) (goodIn_sub (by unfold wsX2_endOfChoice; exact List.forall_mem_cons.mpr ⟨(List.mem_cons_of_mem _ (List.mem_append_left _ (List.mem_append_left _ (List.mem_append_right _ (List.mem_append_right _ lm8))))), List.forall_mem_append.mpr ⟨List.forall_mem_append.mpr ⟨List.forall_mem_cons.mpr ⟨(List.mem_cons_of_mem _ (List.mem_append_left _ (List.mem_append_left _ (List.mem_append_left _ lm15)))), List.forall_mem_cons.mpr ⟨(List.mem_cons_of_mem _ (List.mem_append_left _ (List.mem_append_left _ (List.mem_append_left _ lm10)))), List.forall_mem_cons.mpr ⟨(List.mem_cons_of_mem _ (List.mem_append_left _ (List.mem_append_left _ (List.mem_append_left _ lm2)))), List.forall_mem_cons.mpr ⟨(List.mem_cons_of_mem _ (List.mem_append_left _ (List.mem_append_left _ (List.mem_append_left _ lm16)))), List.forall_mem_cons.mpr ⟨(List.mem_cons_of_mem _ (List.mem_append_left _ (List.mem_append_left _ (List.mem_append_left _ lm17)))), List.forall_mem_cons.mpr ⟨(List.mem_cons_of_mem _ (List.mem_append_left _ (List.mem_append_left _ (List.mem_append_left _ lm18)))), List.forall_mem_cons.mpr ⟨(List.mem_cons_of_mem _ (List.mem_append_left _ (List.mem_append_left _ (List.mem_append_left _ lm8)))), List.forall_mem_cons.mpr ⟨(List.mem_cons_of_mem _ (List.mem_append_left _ (List.mem_append_left _ (List.mem_append_left _ lm19)))), List.forall_mem_cons.mpr ⟨(List.mem_cons_of_mem _ (List.mem_append_left _ (List.mem_append_left _ (List.mem_append_left _ lm20)))), List.forall_mem_cons.mpr ⟨(List.mem_cons_of_mem _ (List.mem_append_left _ (List.mem_append_left _ (List.mem_append_left _ lm21)))), List.forall_mem_cons.mpr ⟨(List.mem_cons_of_mem _ (List.mem_append_left _ (List.mem_append_left _ (List.mem_append_left _ lm22)))), List.forall_mem_cons.mpr ⟨(List.mem_cons_of_mem _ (List.mem_append_left _ (List.mem_append_left _ (List.mem_append_left _ lm23)))), List.forall_mem_cons.mpr ⟨(List.mem_cons_of_mem _ (List.mem_append_left _ (List.mem_append_left _ (List.mem_append_right _ (List.mem_append_left _ lm0))))), List.forall_mem_cons.mpr ⟨(List.mem_cons_of_mem _ (List.mem_append_left _ (List.mem_append_left _ (List.mem_append_right _ (List.mem_append_left _ lm1))))), List.forall_mem_cons.mpr ⟨(List.mem_cons_of_mem _ (List.mem_append_left _ (List.mem_append_left _ (List.mem_append_right _ (List.mem_append_left _ lm2))))), List.forall_mem_cons.mpr ⟨(List.mem_cons_of_mem _ (List.mem_append_left _ (List.mem_append_left _ (List.mem_append_right _ (List.mem_append_left _ lm3))))), List.forall_mem_cons.mpr ⟨(List.mem_cons_of_mem _ (List.mem_append_left _ (List.mem_append_left _ (List.mem_append_right _ (List.mem_append_left _ lm4))))), List.forall_mem_cons.mpr ⟨(List.mem_cons_of_mem _ (List.mem_append_left _ (List.mem_append_left _ (List.mem_append_right _ (List.mem_append_left _ lm5))))), List.forall_mem_cons.mpr ⟨(List.mem_cons_of_mem _ (List.mem_append_left _ (List.mem_append_left _ (List.mem_append_right _ (List.mem_append_left _ lm6))))), List.forall_mem_cons.mpr ⟨(List.mem_cons_of_mem _ (List.mem_append_left _ (List.mem_append_left _ (List.mem_append_right _ (List.mem_append_left _ lm7))))), List.forall_mem_cons.mpr ⟨(List.mem_cons_of_mem _ (List.mem_append_left _ (List.mem_append_left _ (List.mem_append_right _ (List.mem_append_left _ lm8))))), (fun _ h => absurd h List.not_mem_nil)⟩⟩⟩⟩⟩⟩⟩⟩⟩⟩⟩⟩⟩⟩⟩⟩⟩⟩⟩⟩⟩, (fun _ h => (List.mem_cons_of_mem _ (List.mem_append_left _ (List.mem_append_right _ h))))⟩, (fun _ h => (List.mem_cons_of_mem _ (List.mem_append_right _ h)))⟩⟩) gw_X2_endOfChoice)
set_option maxHeartbeats 2000000 in
set_option maxRecDepth 100000 in
theorem k_standsAt (l : Launch) (D : va_G) (g : Nat → Nat) (ka : Nat → ClassId) (ad : Nat → Nat) (i : Nat → Nat → Int32) (r : Nat → Nat → Nat) (L : Nat → Nat → Int64) (d : Nat → Nat → UInt64) (j : Nat) (x : Int32) (y : Int32) (hO : OkI i) (hR : RS r) (sz : Nat) (hj : j < 13) (hx0 : 0 ≤ x.toInt) (hx1 : x.toInt ≤ 60) (hy0 : -1000 ≤ y.toInt) (hy1 : y.toInt ≤ 1000) : Met l yX2_standsAt wsX2_standsAt ({ frames := 1, cells := 0, slots := 0, locals := 21 }) (va_Pc [.ref (g (240 + 9 * j)), .int x, .ref (g 14), .int y] (sj_B D (hwc g ka i r L d) (hT ka) sz (gx ad (va_A (hwc g ka i r L d) sz)))) (sj_Qi (S := Unit) D (fun v u => ((0 : Int) ≤ v.toInt ∧ v.toInt ≤ 1)) (fun _ => hwc g ka i r L d) (fun _ => []) (va_A (hwc g ka i r L d) sz)) 0 0 (va_A (hwc g ka i r L d) sz) := by
  refine x_met (Ex := gx ad) (cc := cX2_standsAt) (maxL := 5) (ret := (some .boolean)) (by decide) rfl (Nat.le_of_ble_eq_true rfl) ?_
  intro p e s m below meth c A ls hx hb hr hml hts hown hlocks hA hS hH hK hE hl
  have hown : s.vm.findClass RX2 = some m.cls := hown
  have in2 : ∀ w ∈ wsX20, w ∈ wsX2_standsAt := (fun _ h => (List.mem_cons_of_mem _ (List.mem_append_left _ (List.mem_append_right _ h))))
  have wd0 := hts (.fieldLink RX2 11 "StoryDesk$Expression" "chars" "[C") (List.mem_cons_of_mem _ (List.mem_append_left _ (List.mem_append_left _ lm0)))
  have wd1 := hts (.fieldLink RX2 15 "StoryDesk$Expression" "choiceStarts" "[I") (List.mem_cons_of_mem _ (List.mem_append_left _ (List.mem_append_left _ lm1)))
  have hl : lv_has ls 5 [(0, .ref (g (240 + 9 * j))), (1, .int x), (2, .ref (g 14)), (3, .int y)] := hl
  have hK : va_K D vwCl (hT ka) s := hK
  refine lv_iconst (v := 0) hx hb dX2_standsAt_0 (by decide) ?_
  refine lv_istore (lv' := [(4, .int 0), (0, .ref (g (240 + 9 * j))), (1, .int x), (2, .ref (g 14)), (3, .int y)]) hx hb dX2_standsAt_1 hl (by decide) rfl (fun ls hl => ?_)
  -- loop at 3
  have lp_1 : ∀ (fuel_lp_1 : Nat) (f : Int32) (H : Heap) (locs : List Loc) (ls : Array Slot), (60 - f.toInt).toNat < fuel_lp_1 → (0 : Int) ≤ f.toInt ∧ f.toInt ≤ 60 → lv_has ls 5 [(4, .int f), (0, .ref (g (240 + 9 * j))), (1, .int x), (2, .ref (g 14)), (3, .int y)] → sj_H D A (hwc g ka i r L d) H → va_S A s.heap H locs → W p l e (headSpec wsX2_standsAt ({ frames := 1, cells := 0, slots := 0, locals := 21 })).room s m ([.ref (g (240 + 9 * j)), .int x, .ref (g 14), .int y] : List Value).toArray below meth c H locs 0 0 (MQ below (sj_Qi (S := Unit) D (fun v u => ((0 : Int) ≤ v.toInt ∧ v.toInt ≤ 1)) (fun _ => hwc g ka i r L d) (fun _ => []) A) ([.ref (g (240 + 9 * j)), .int x, .ref (g 14), .int y] : List Value).toArray s 0 0 A) (F0 m 3 ls []) := by
    intro fuel_lp_1
    induction fuel_lp_1 with
    | zero => intros; omega
    | succ fuel_lp_1 ih_lp_1 =>
      intro f H locs ls hm hr_f hl hH hS
      refine lv_iload hx hb dX2_standsAt_3 (lv_at hl 0 rfl) ?_
      refine lv_aload_n hx hb dX2_standsAt_5 rfl (lv_at hl 1 rfl) ?_
      refine lv_iload_n hx hb dX2_standsAt_6 rfl (lv_at hl 2 rfl) ?_
      refine x_calli (va_runV (As := [.int x]) (rest := [.int f]) ⟨hx, hb, hml, hown, hts⟩ (k_choiceLength l D g ka ad i r L d j x hO hR H.size (by first | omega | decide) (by first | omega | decide) (by first | omega | decide)) (cwV 1 hts gX2_standsAt_X2_choiceLength rfl rfl rfl (by decide +kernel) ⟨(Nat.le_of_ble_eq_true rfl), (Nat.le_of_ble_eq_true rfl)⟩) (x_preV (q := (RX2, TX2, 11)) hH hK (q_obj (lt_nK (by omega)) (kd_expr (t := 0) hj (by decide)) (by decide)) rfl gxb (gxw hE hS (x_F hH hS hA))) rfl rfl hl.1 rfl (lv_room (Nat.le_of_ble_eq_true rfl)) dX2_standsAt_7 ⟨(Nat.le_of_ble_eq_true rfl), (Nat.le_of_ble_eq_true rfl)⟩) hH hS hA rfl rfl (fun r_2 _ H locs hw_3 hH hS => ?_)
      obtain ⟨hr_5, he_6⟩ := hw_3
      have hr_5 : (-60 : Int) ≤ r_2.toInt ∧ r_2.toInt ≤ 60 := hr_5
      refine lv_icmp_ge (tgt := 46) hx hb dX2_standsAt_10 (by decide) (fun c_7 => ?_) (fun c_7 => ?_)
      · skip
        have h_8 := s_le (rfl : r_2.toInt = _) (rfl : f.toInt = _) c_7
        refine lv_iconst (v := 1) hx hb dX2_standsAt_46 (by decide) ?_
        exact sj_zret hx hb hr hlocks (by decide +kernel) hS () ⟨by decide, by decide⟩ hH (sj_Knil hK) (Nat.le_of_ble_eq_true rfl) (Nat.le_of_ble_eq_true rfl) dX2_standsAt_47
      · skip
        have h_9 := s_nle (rfl : r_2.toInt = _) (rfl : f.toInt = _) c_7
        refine lv_aload_n hx hb dX2_standsAt_13 rfl (lv_at hl 3 rfl) ?_
        refine lv_iload_n hx hb dX2_standsAt_14 rfl (lv_at hl 4 rfl) ?_
        refine lv_iload hx hb dX2_standsAt_15 (lv_at hl 0 rfl) ?_
        refine lv_iadd hx hb dX2_standsAt_17 ?_
        obtain ⟨z_10, ez_10, hz_10⟩ := s_add (rfl : y.toInt = _) (rfl : f.toInt = _) (by omega) (by omega)
        refine sj_i ez_10 ?_
        refine x_calli (va_runV (As := [.int z_10]) (rest := []) ⟨hx, hb, hml, hown, hts⟩ (k_at_stepText l D g ka ad i r L d z_10 hO hR H.size ) (cwV 1 hts gX2_standsAt_X3_at rfl rfl rfl (by decide +kernel) ⟨(Nat.le_of_ble_eq_true rfl), (Nat.le_of_ble_eq_true rfl)⟩) (x_preV (q := (RX3, TX3, 2)) hH hK (q_obj (by decide) (rfl : kd 14 = 3) (by decide)) rfl gxb (gxw hE hS (x_F hH hS hA))) rfl rfl hl.1 rfl (lv_room (Nat.le_of_ble_eq_true rfl)) dX2_standsAt_18 ⟨(Nat.le_of_ble_eq_true rfl), (Nat.le_of_ble_eq_true rfl)⟩) hH hS hA rfl rfl (fun r_11 _ H locs hw_12 hH hS => ?_)
        obtain ⟨hr_14, he_15⟩ := hw_12
        have hr_14 : (-1 : Int) ≤ r_11.toInt ∧ r_11.toInt ≤ 65535 := hr_14
        refine lv_aload_n hx hb dX2_standsAt_21 rfl (lv_at hl 1 rfl) ?_
        refine h_getr (ci := 2) (C := RX2) (F := TX2) (N := 11) hx hb hts in2 hown hK hH (lt_nK (by omega)) (kd_expr (t := 0) hj (by decide)) (by decide) rfl 0 (by decide) wd0 (fun _ h9 => h9) (by decide) rfl (t := (240 + 9 * j + 1)) ((hR _ _ (by unfold dyn; simp <;> omega)).trans (sr_expr (by omega) (by omega))) (lt_nK (by omega)) dX2_standsAt_22 ?_
        refine lv_aload_n hx hb dX2_standsAt_25 rfl (lv_at hl 1 rfl) ?_
        refine h_getr (ci := 2) (C := RX2) (F := TX2) (N := 11) hx hb hts in2 hown hK hH (lt_nK (by omega)) (kd_expr (t := 0) hj (by decide)) (by decide) rfl 1 (by decide) wd1 (fun _ h9 => h9) (by decide) rfl (t := (240 + 9 * j + 2)) ((hR _ _ (by unfold dyn; simp <;> omega)).trans (sr_expr (by omega) (by omega))) (lt_nK (by omega)) dX2_standsAt_26 ?_
        refine lv_iload_n hx hb dX2_standsAt_29 rfl (lv_at hl 2 rfl) ?_
        have bx_16 : (0 : Int) ≤ (i (240 + 9 * j + 2) (x.toInt).toNat).toInt ∧ (i (240 + 9 * j + 2) (x.toInt).toNat).toInt ≤ 60 := by have h9 := hO (240 + 9 * j + 2) (x.toInt).toNat; rw [bx_expr (t := 2) hj (by decide) (by decide) (x.toInt).toNat] at h9; exact h9
        refine h_iald hx hb hK hH (lt_nK (by omega)) (kd_expr (t := 2) hj (by decide)) (s_vin (N := 62) (rfl : x.toInt = _) (ln_expr (t := 2) hj (by decide)) (by omega) (by omega)) dX2_standsAt_30 ?_
        have ek_17 : x.toNatClampNeg = (x.toInt).toNat := (s_cl (show x.toInt = x.toInt by omega))
        refine sj_i (y := (i (240 + 9 * j + 2) (x.toInt).toNat)) (by rw [ek_17]) ?_
        refine lv_iload hx hb dX2_standsAt_31 (lv_at hl 0 rfl) ?_
        refine lv_iadd hx hb dX2_standsAt_33 ?_
        obtain ⟨z_18, ez_18, hz_18⟩ := s_add (rfl : (i (240 + 9 * j + 2) (x.toInt).toNat).toInt = _) (rfl : f.toInt = _) (by omega) (by omega)
        refine sj_i ez_18 ?_
        have bx_19 : (0 : Int) ≤ (i (240 + 9 * j + 1) ((i (240 + 9 * j + 2) (x.toInt).toNat).toInt + f.toInt).toNat).toInt ∧ (i (240 + 9 * j + 1) ((i (240 + 9 * j + 2) (x.toInt).toNat).toInt + f.toInt).toNat).toInt ≤ 65535 := by have h9 := hO (240 + 9 * j + 1) ((i (240 + 9 * j + 2) (x.toInt).toNat).toInt + f.toInt).toNat; rw [bx_expr (t := 1) hj (by decide) (by decide) ((i (240 + 9 * j + 2) (x.toInt).toNat).toInt + f.toInt).toNat] at h9; exact h9
        refine h_cald hx hb hK hH (lt_nK (by omega)) (kd_expr (t := 1) hj (by decide)) (s_vin (N := 60) (rfl : z_18.toInt = _) (ln_expr (t := 1) hj (by decide)) (by omega) (by omega)) dX2_standsAt_34 ?_
        have ek_20 : z_18.toNatClampNeg = ((i (240 + 9 * j + 2) (x.toInt).toNat).toInt + f.toInt).toNat := (s_cl (show z_18.toInt = (i (240 + 9 * j + 2) (x.toInt).toNat).toInt + f.toInt by omega))
        refine sj_i (y := (i (240 + 9 * j + 1) ((i (240 + 9 * j + 2) (x.toInt).toNat).toInt + f.toInt).toNat)) (by rw [ek_20]) ?_
        refine lv_icmp_eq (tgt := 40) hx hb dX2_standsAt_35 (by decide) (fun c_21 => ?_) (fun c_21 => ?_)
        · skip
          have h_22 := s_eq (rfl : r_11.toInt = _) (rfl : (i (240 + 9 * j + 1) ((i (240 + 9 * j + 2) (x.toInt).toNat).toInt + f.toInt).toNat).toInt = _) c_21
          obtain ⟨z_23, ez_23, hz_23⟩ := s_add (rfl : f.toInt = _) (show (1 : Int32).toInt = 1 from rfl) (by omega) (by omega)
          refine lv_iinc (v := z_23) (lv' := [(4, .int z_23), (0, .ref (g (240 + 9 * j))), (1, .int x), (2, .ref (g 14)), (3, .int y)]) hx hb dX2_standsAt_40 hl (k := 0) rfl ez_23 (by decide) rfl (fun ls hl => ?_)
          refine lv_goto (tgt := 3) hx hb dX2_standsAt_43 (by decide) ?_
          exact ih_lp_1 z_23 _ _ ls (by omega) (by omega) (lv_sub hl [0, 1, 2, 3, 4] rfl) hH hS
        · skip
          have h_24 := s_ne (rfl : r_11.toInt = _) (rfl : (i (240 + 9 * j + 1) ((i (240 + 9 * j + 2) (x.toInt).toNat).toInt + f.toInt).toNat).toInt = _) c_21
          refine lv_iconst (v := 0) hx hb dX2_standsAt_38 (by decide) ?_
          exact sj_zret hx hb hr hlocks (by decide +kernel) hS () ⟨by decide, by decide⟩ hH (sj_Knil hK) (Nat.le_of_ble_eq_true rfl) (Nat.le_of_ble_eq_true rfl) dX2_standsAt_39
  have hl_25 : (0 : Int32).toInt = 0 := rfl
  exact lp_1 _ 0 _ _ ls (Nat.lt_succ_self _) (by omega) (lv_sub hl [0, 1, 2, 3, 4] rfl) hH hS
set_option maxHeartbeats 2000000 in
set_option maxRecDepth 100000 in
theorem k_places (l : Launch) (D : va_G) (g : Nat → Nat) (ka : Nat → ClassId) (ad : Nat → Nat) (i : Nat → Nat → Int32) (r : Nat → Nat → Nat) (L : Nat → Nat → Int64) (d : Nat → Nat → UInt64) (j : Nat) (x : Int32) (y : Int32) (hO : OkI i) (hR : RS r) (sz : Nat) (hj : j < 13) (hx0 : 0 ≤ x.toInt) (hx1 : x.toInt ≤ 1000) (hy1 : y.toInt ≤ 1000) : Met l yX2_places wsX2_places ({ frames := 0, cells := 0, slots := 0, locals := 0 }) (va_Pc [.ref (g (240 + 9 * j)), .int x, .int y] (sj_B D (hwc g ka i r L d) (hT ka) sz (gx ad (va_A (hwc g ka i r L d) sz)))) (sj_Ql (S := Unit) D (fun v u => True) (fun _ => hwc g ka i r L d) (fun _ => []) (va_A (hwc g ka i r L d) sz)) 0 0 (va_A (hwc g ka i r L d) sz) := by
  refine x_met (Ex := gx ad) (cc := cX2_places) (maxL := 6) (ret := (some .long)) (by decide) rfl (Nat.le_of_ble_eq_true rfl) ?_
  intro p e s m below meth c A ls hx hb hr hml hts hown hlocks hA hS hH hK hE hl
  have hown : s.vm.findClass RX2 = some m.cls := hown
  have hl : lv_has ls 6 [(0, .ref (g (240 + 9 * j))), (1, .int x), (2, .int y)] := hl
  have hK : va_K D vwCl (hT ka) s := hK
  refine lv_lconst (v := 0) hx hb dX2_places_0 (by decide) ?_
  refine lv_lstore_n (lv' := [(3, .long 0), (0, .ref (g (240 + 9 * j))), (1, .int x), (2, .int y)]) hx hb dX2_places_1 rfl hl (by decide) rfl (fun ls hl => ?_)
  refine lv_iconst (v := 0) hx hb dX2_places_2 (by decide) ?_
  refine lv_istore (lv' := [(5, .int 0), (3, .long 0), (0, .ref (g (240 + 9 * j))), (1, .int x), (2, .int y)]) hx hb dX2_places_3 hl (by decide) rfl (fun ls hl => ?_)
  -- loop at 5
  have lp_1 : ∀ (fuel_lp_1 : Nat) (f : Int32) (b3 : Int64) (H : Heap) (locs : List Loc) (ls : Array Slot), (1000 - f.toInt).toNat < fuel_lp_1 → (0 : Int) ≤ f.toInt ∧ f.toInt ≤ 1000 → lv_has ls 6 [(5, .int f), (3, .long b3), (0, .ref (g (240 + 9 * j))), (1, .int x), (2, .int y)] → sj_H D A (hwc g ka i r L d) H → va_S A s.heap H locs → W p l e (headSpec wsX2_places ({ frames := 0, cells := 0, slots := 0, locals := 0 })).room s m ([.ref (g (240 + 9 * j)), .int x, .int y] : List Value).toArray below meth c H locs 0 0 (MQ below (sj_Ql (S := Unit) D (fun v u => True) (fun _ => hwc g ka i r L d) (fun _ => []) A) ([.ref (g (240 + 9 * j)), .int x, .int y] : List Value).toArray s 0 0 A) (F0 m 5 ls []) := by
    intro fuel_lp_1
    induction fuel_lp_1 with
    | zero => intros; omega
    | succ fuel_lp_1 ih_lp_1 =>
      intro f b3 H locs ls hm hr_f hl hH hS
      refine lv_iload hx hb dX2_places_5 (lv_at hl 0 rfl) ?_
      refine lv_iload_n hx hb dX2_places_7 rfl (lv_at hl 4 rfl) ?_
      refine lv_icmp_ge (tgt := 26) hx hb dX2_places_8 (by decide) (fun c_2 => ?_) (fun c_2 => ?_)
      · skip
        have h_3 := s_le (rfl : y.toInt = _) (rfl : f.toInt = _) c_2
        refine lv_lload_n hx hb dX2_places_26 rfl (lv_at hl 1 rfl) ?_
        exact sj_lret hx hb hr hlocks hS () trivial hH (sj_Knil hK) (Nat.le_of_ble_eq_true rfl) (Nat.le_of_ble_eq_true rfl) dX2_places_27
      · skip
        have h_4 := s_nle (rfl : y.toInt = _) (rfl : f.toInt = _) c_2
        refine lv_lload_n hx hb dX2_places_11 rfl (lv_at hl 1 rfl) ?_
        refine lv_lconst (v := 1) hx hb dX2_places_12 (by decide) ?_
        refine lv_iload_n hx hb dX2_places_13 rfl (lv_at hl 3 rfl) ?_
        refine lv_iload hx hb dX2_places_14 (lv_at hl 0 rfl) ?_
        refine lv_iadd hx hb dX2_places_16 ?_
        obtain ⟨z_5, ez_5, hz_5⟩ := s_add (rfl : x.toInt = _) (rfl : f.toInt = _) (by omega) (by omega)
        refine sj_i ez_5 ?_
        refine lv_lshl hx hb dX2_places_17 rfl ?_
        refine lv_topl (fun z_6 ez_6 => ?_)
        refine lv_lor hx hb dX2_places_18 ?_
        refine lv_topl (fun z_7 ez_7 => ?_)
        refine lv_lstore_n (lv' := [(3, .long z_7), (5, .int f), (0, .ref (g (240 + 9 * j))), (1, .int x), (2, .int y)]) hx hb dX2_places_19 rfl hl (by decide) rfl (fun ls hl => ?_)
        obtain ⟨z_8, ez_8, hz_8⟩ := s_add (rfl : f.toInt = _) (show (1 : Int32).toInt = 1 from rfl) (by omega) (by omega)
        refine lv_iinc (v := z_8) (lv' := [(5, .int z_8), (3, .long z_7), (0, .ref (g (240 + 9 * j))), (1, .int x), (2, .int y)]) hx hb dX2_places_20 hl (k := 1) rfl ez_8 (by decide) rfl (fun ls hl => ?_)
        refine lv_goto (tgt := 5) hx hb dX2_places_23 (by decide) ?_
        exact ih_lp_1 z_8 z_7 _ _ ls (by omega) (by omega) (lv_sub hl [0, 1, 2, 3, 4] rfl) hH hS
  have hl_9 : (0 : Int32).toInt = 0 := rfl
  exact lp_1 _ 0 0 _ _ ls (Nat.lt_succ_self _) (by omega) (lv_sub hl [0, 1, 2, 3, 4] rfl) hH hS
set_option maxHeartbeats 2000000 in
set_option maxRecDepth 100000 in
theorem k_endsOf (l : Launch) (D : va_G) (g : Nat → Nat) (ka : Nat → ClassId) (ad : Nat → Nat) (i : Nat → Nat → Int32) (r : Nat → Nat → Nat) (L : Nat → Nat → Int64) (d : Nat → Nat → UInt64) (j : Nat) (z : Int32) (x : Int32) (hO : OkI i) (hR : RS r) (sz : Nat) (hj : j < 13) (hx0 : 0 ≤ x.toInt) (hx1 : x.toInt ≤ 60) : Met l yX2_endsOf wsX2_endsOf ({ frames := 1, cells := 0, slots := 0, locals := 25 }) (va_Pc [.ref (g (240 + 9 * j)), .int z, .ref (g 14), .int x] (sj_B D (hwc g ka i r L d) (hT ka) sz (gx ad (va_A (hwc g ka i r L d) sz)))) (sj_Ql (S := Unit) D (fun v u => True) (fun _ => hwc g ka i r L d) (fun _ => []) (va_A (hwc g ka i r L d) sz)) 0 0 (va_A (hwc g ka i r L d) sz) := by
  refine x_met (Ex := gx ad) (cc := cX2_endsOf) (maxL := 7) (ret := (some .long)) (by decide) rfl (Nat.le_of_ble_eq_true rfl) ?_
  intro p e s m below meth c A ls hx hb hr hml hts hown hlocks hA hS hH hK hE hl
  have hown : s.vm.findClass RX2 = some m.cls := hown
  have hl : lv_has ls 7 [(0, .ref (g (240 + 9 * j))), (1, .int z), (2, .ref (g 14)), (3, .int x)] := hl
  have hK : va_K D vwCl (hT ka) s := hK
  have hg_1 := s_rng z
  refine lv_aload_n hx hb dX2_endsOf_0 rfl (lv_at hl 2 rfl) ?_
  refine lv_iload_n hx hb dX2_endsOf_1 rfl (lv_at hl 3 rfl) ?_
  refine x_calli (va_runV (As := [.int x]) (rest := []) ⟨hx, hb, hml, hown, hts⟩ (k_at_stepText l D g ka ad i r L d x hO hR s.heap.size ) (cwV 1 hts gX2_endsOf_X3_at rfl rfl rfl (by decide +kernel) ⟨(Nat.le_of_ble_eq_true rfl), (Nat.le_of_ble_eq_true rfl)⟩) (x_preV (q := (RX3, TX3, 2)) hH hK (q_obj (by decide) (rfl : kd 14 = 3) (by decide)) rfl gxb (gxw hE hS (x_F hH hS hA))) rfl rfl hl.1 rfl (lv_room (Nat.le_of_ble_eq_true rfl)) dX2_endsOf_2 ⟨(Nat.le_of_ble_eq_true rfl), (Nat.le_of_ble_eq_true rfl)⟩) hH hS hA rfl rfl (fun r_2 _ H locs hw_3 hH hS => ?_)
  obtain ⟨hr_5, he_6⟩ := hw_3
  have hr_5 : (-1 : Int) ≤ r_2.toInt ∧ r_2.toInt ≤ 65535 := hr_5
  refine lv_bipush (v := 45) hx hb dX2_endsOf_5 (by decide) ?_
  refine lv_icmp_ne (tgt := 16) hx hb dX2_endsOf_7 (by decide) (fun c_7 => ?_) (fun c_7 => ?_)
  · skip
    have h_8 := s_ne (rfl : r_2.toInt = _) (show (45 : Int32).toInt = 45 from rfl) c_7
    refine lv_iload_n hx hb dX2_endsOf_16 rfl (lv_at hl 3 rfl) ?_
    refine lv_istore (lv' := [(4, .int x), (0, .ref (g (240 + 9 * j))), (1, .int z), (2, .ref (g 14)), (3, .int x)]) hx hb dX2_endsOf_17 hl (by decide) rfl (fun ls hl => ?_)
    refine lv_iload_n hx hb dX2_endsOf_19 rfl (lv_at hl 2 rfl) ?_
    rcases (show (z).toInt = 100 ∨ (z).toInt = 105 ∨ (z).toInt = 119 ∨ ((z).toInt ≠ 100 ∧ (z).toInt ≠ 105 ∧ (z).toInt ≠ 119) by omega) with h_9 | h_9 | h_9 | h_9
    · skip
      refine lv_lookup (off := 53) (tgt := 73) hx hb dX2_endsOf_20 (by decide +kernel) (by rw [h_9]; rfl) (by decide) ?_
      refine lv_iload hx hb dX2_endsOf_73 (lv_at hl 0 rfl) ?_
      refine lv_aload_n hx hb dX2_endsOf_75 rfl (lv_at hl 3 rfl) ?_
      refine lv_iload hx hb dX2_endsOf_76 (lv_at hl 0 rfl) ?_
      refine lv_bipush (v := 6) hx hb dX2_endsOf_78 (by decide) ?_
      have hl_10 : (6 : Int32).toInt = 6 := rfl
      refine x_calli (va_runV (As := [.int x, .int 6]) (rest := [.int x]) ⟨hx, hb, hml, hown, hts⟩ (k_digits_stepText l D g ka ad i r L d x 6 hO hR H.size (by first | omega | decide) (by first | omega | decide) (by first | omega | decide) (by first | omega | decide)) (cwV 2 hts gX2_endsOf_X3_digits rfl rfl rfl (by decide +kernel) ⟨(Nat.le_of_ble_eq_true rfl), (Nat.le_of_ble_eq_true rfl)⟩) (x_preV (q := (RX3, TX3, 2)) hH hK (q_obj (by decide) (rfl : kd 14 = 3) (by decide)) rfl gxb (gxw hE hS (x_F hH hS hA))) rfl rfl hl.1 rfl (lv_room (Nat.le_of_ble_eq_true rfl)) dX2_endsOf_80 ⟨(Nat.le_of_ble_eq_true rfl), (Nat.le_of_ble_eq_true rfl)⟩) hH hS hA rfl rfl (fun r_11 _ H locs hw_12 hH hS => ?_)
      have hr_14 := hw_12
      have hr_14 : (0 : Int) ≤ r_11.toInt ∧ r_11.toInt ≤ 9 := hr_14
      refine lv_iadd hx hb dX2_endsOf_83 ?_
      obtain ⟨z_15, ez_15, hz_15⟩ := s_add (rfl : x.toInt = _) (rfl : r_11.toInt = _) (by omega) (by omega)
      refine sj_i ez_15 ?_
      refine lv_istore (lv' := [(5, .int z_15), (4, .int x), (0, .ref (g (240 + 9 * j))), (1, .int z), (2, .ref (g 14)), (3, .int x)]) hx hb dX2_endsOf_84 hl (by decide) rfl (fun ls hl => ?_)
      refine lv_iload hx hb dX2_endsOf_86 (lv_at hl 0 rfl) ?_
      refine lv_iload hx hb dX2_endsOf_88 (lv_at hl 1 rfl) ?_
      refine lv_icmp_le (tgt := 124) hx hb dX2_endsOf_90 (by decide) (fun c_16 => ?_) (fun c_16 => ?_)
      · skip
        have h_17 := s_le (rfl : z_15.toInt = _) (rfl : x.toInt = _) c_16
        refine lv_lconst (v := 0) hx hb dX2_endsOf_124 (by decide) ?_
        exact sj_lret hx hb hr hlocks hS () trivial hH (sj_Knil hK) (Nat.le_of_ble_eq_true rfl) (Nat.le_of_ble_eq_true rfl) dX2_endsOf_125
      · skip
        have h_18 := s_nle (rfl : z_15.toInt = _) (rfl : x.toInt = _) c_16
        refine lv_aload_n hx hb dX2_endsOf_93 rfl (lv_at hl 4 rfl) ?_
        refine lv_iload hx hb dX2_endsOf_94 (lv_at hl 0 rfl) ?_
        refine x_calli (va_runV (As := [.int z_15]) (rest := []) ⟨hx, hb, hml, hown, hts⟩ (k_at_stepText l D g ka ad i r L d z_15 hO hR H.size ) (cwV 1 hts gX2_endsOf_X3_at rfl rfl rfl (by decide +kernel) ⟨(Nat.le_of_ble_eq_true rfl), (Nat.le_of_ble_eq_true rfl)⟩) (x_preV (q := (RX3, TX3, 2)) hH hK (q_obj (by decide) (rfl : kd 14 = 3) (by decide)) rfl gxb (gxw hE hS (x_F hH hS hA))) rfl rfl hl.1 rfl (lv_room (Nat.le_of_ble_eq_true rfl)) dX2_endsOf_96 ⟨(Nat.le_of_ble_eq_true rfl), (Nat.le_of_ble_eq_true rfl)⟩) hH hS hA rfl rfl (fun r_19 _ H locs hw_20 hH hS => ?_)
        obtain ⟨hr_22, he_23⟩ := hw_20
        have hr_22 : (-1 : Int) ≤ r_19.toInt ∧ r_19.toInt ≤ 65535 := hr_22
        refine lv_bipush (v := 46) hx hb dX2_endsOf_99 (by decide) ?_
        refine lv_icmp_ne (tgt := 124) hx hb dX2_endsOf_101 (by decide) (fun c_24 => ?_) (fun c_24 => ?_)
        · skip
          have h_25 := s_ne (rfl : r_19.toInt = _) (show (46 : Int32).toInt = 46 from rfl) c_24
          refine lv_lconst (v := 0) hx hb dX2_endsOf_124 (by decide) ?_
          exact sj_lret hx hb hr hlocks hS () trivial hH (sj_Knil hK) (Nat.le_of_ble_eq_true rfl) (Nat.le_of_ble_eq_true rfl) dX2_endsOf_125
        · skip
          have h_26 := s_eq (rfl : r_19.toInt = _) (show (46 : Int32).toInt = 46 from rfl) c_24
          refine lv_aload_n hx hb dX2_endsOf_104 rfl (lv_at hl 2 rfl) ?_
          refine lv_iload hx hb dX2_endsOf_105 (lv_at hl 0 rfl) ?_
          refine lv_iconst (v := 2) hx hb dX2_endsOf_107 (by decide) ?_
          refine lv_iadd hx hb dX2_endsOf_108 ?_
          obtain ⟨z_27, ez_27, hz_27⟩ := s_add (rfl : z_15.toInt = _) (show (2 : Int32).toInt = 2 from rfl) (by omega) (by omega)
          refine sj_i ez_27 ?_
          refine lv_aload_n hx hb dX2_endsOf_109 rfl (lv_at hl 4 rfl) ?_
          refine lv_iload hx hb dX2_endsOf_110 (lv_at hl 0 rfl) ?_
          refine lv_iconst (v := 1) hx hb dX2_endsOf_112 (by decide) ?_
          refine lv_iadd hx hb dX2_endsOf_113 ?_
          obtain ⟨z_28, ez_28, hz_28⟩ := s_add (rfl : z_15.toInt = _) (show (1 : Int32).toInt = 1 from rfl) (by omega) (by omega)
          refine sj_i ez_28 ?_
          refine lv_iconst (v := 3) hx hb dX2_endsOf_114 (by decide) ?_
          have hl_29 : (3 : Int32).toInt = 3 := rfl
          refine x_calli (va_runV (As := [.int z_28, .int 3]) (rest := [.int z_27, .ref (g (240 + 9 * j))]) ⟨hx, hb, hml, hown, hts⟩ (k_digits_stepText l D g ka ad i r L d z_28 3 hO hR H.size (by first | omega | decide) (by first | omega | decide) (by first | omega | decide) (by first | omega | decide)) (cwV 2 hts gX2_endsOf_X3_digits rfl rfl rfl (by decide +kernel) ⟨(Nat.le_of_ble_eq_true rfl), (Nat.le_of_ble_eq_true rfl)⟩) (x_preV (q := (RX3, TX3, 2)) hH hK (q_obj (by decide) (rfl : kd 14 = 3) (by decide)) rfl gxb (gxw hE hS (x_F hH hS hA))) rfl rfl hl.1 rfl (lv_room (Nat.le_of_ble_eq_true rfl)) dX2_endsOf_115 ⟨(Nat.le_of_ble_eq_true rfl), (Nat.le_of_ble_eq_true rfl)⟩) hH hS hA rfl rfl (fun r_30 _ H locs hw_31 hH hS => ?_)
          have hr_33 := hw_31
          have hr_33 : (0 : Int) ≤ r_30.toInt ∧ r_30.toInt ≤ 9 := hr_33
          refine x_calll (va_runV (As := [.int z_27, .int r_30]) (rest := []) ⟨hx, hb, hml, hown, hts⟩ (k_places l D g ka ad i r L d j z_27 r_30 hO hR H.size (by first | omega | decide) (by first | omega | decide) (by first | omega | decide) (by first | omega | decide)) (cwV 2 hts gX2_endsOf_X2_places rfl rfl rfl (by decide +kernel) ⟨(Nat.le_of_ble_eq_true rfl), (Nat.le_of_ble_eq_true rfl)⟩) (x_preV (q := (RX2, TX2, 11)) hH hK (q_obj (lt_nK (by omega)) (kd_expr (t := 0) hj (by decide)) (by decide)) rfl gxb (gxw hE hS (x_F hH hS hA))) rfl rfl hl.1 rfl (lv_room (Nat.le_of_ble_eq_true rfl)) dX2_endsOf_118 ⟨(Nat.le_of_ble_eq_true rfl), (Nat.le_of_ble_eq_true rfl)⟩) hH hS hA rfl rfl (fun r_34 _ H locs hw_35 hH hS => ?_)
          refine lv_goto (tgt := 125) hx hb dX2_endsOf_121 (by decide) ?_
          exact sj_lret hx hb hr hlocks hS () trivial hH (sj_Knil hK) (Nat.le_of_ble_eq_true rfl) (Nat.le_of_ble_eq_true rfl) dX2_endsOf_125
    · skip
      refine lv_lookup (off := 36) (tgt := 56) hx hb dX2_endsOf_20 (by decide +kernel) (by rw [h_9]; rfl) (by decide) ?_
      refine lv_aload_n hx hb dX2_endsOf_56 rfl (lv_at hl 1 rfl) ?_
      refine lv_iload hx hb dX2_endsOf_57 (lv_at hl 0 rfl) ?_
      refine lv_iconst (v := 1) hx hb dX2_endsOf_59 (by decide) ?_
      refine lv_iadd hx hb dX2_endsOf_60 ?_
      obtain ⟨z_37, ez_37, hz_37⟩ := s_add (rfl : x.toInt = _) (show (1 : Int32).toInt = 1 from rfl) (by omega) (by omega)
      refine sj_i ez_37 ?_
      refine lv_aload_n hx hb dX2_endsOf_61 rfl (lv_at hl 3 rfl) ?_
      refine lv_iload hx hb dX2_endsOf_62 (lv_at hl 0 rfl) ?_
      refine lv_bipush (v := 9) hx hb dX2_endsOf_64 (by decide) ?_
      have hl_38 : (9 : Int32).toInt = 9 := rfl
      refine x_calli (va_runV (As := [.int x, .int 9]) (rest := [.int z_37, .ref (g (240 + 9 * j))]) ⟨hx, hb, hml, hown, hts⟩ (k_digits_stepText l D g ka ad i r L d x 9 hO hR H.size (by first | omega | decide) (by first | omega | decide) (by first | omega | decide) (by first | omega | decide)) (cwV 2 hts gX2_endsOf_X3_digits rfl rfl rfl (by decide +kernel) ⟨(Nat.le_of_ble_eq_true rfl), (Nat.le_of_ble_eq_true rfl)⟩) (x_preV (q := (RX3, TX3, 2)) hH hK (q_obj (by decide) (rfl : kd 14 = 3) (by decide)) rfl gxb (gxw hE hS (x_F hH hS hA))) rfl rfl hl.1 rfl (lv_room (Nat.le_of_ble_eq_true rfl)) dX2_endsOf_66 ⟨(Nat.le_of_ble_eq_true rfl), (Nat.le_of_ble_eq_true rfl)⟩) hH hS hA rfl rfl (fun r_39 _ H locs hw_40 hH hS => ?_)
      have hr_42 := hw_40
      have hr_42 : (0 : Int) ≤ r_39.toInt ∧ r_39.toInt ≤ 9 := hr_42
      refine x_calll (va_runV (As := [.int z_37, .int r_39]) (rest := []) ⟨hx, hb, hml, hown, hts⟩ (k_places l D g ka ad i r L d j z_37 r_39 hO hR H.size (by first | omega | decide) (by first | omega | decide) (by first | omega | decide) (by first | omega | decide)) (cwV 2 hts gX2_endsOf_X2_places rfl rfl rfl (by decide +kernel) ⟨(Nat.le_of_ble_eq_true rfl), (Nat.le_of_ble_eq_true rfl)⟩) (x_preV (q := (RX2, TX2, 11)) hH hK (q_obj (lt_nK (by omega)) (kd_expr (t := 0) hj (by decide)) (by decide)) rfl gxb (gxw hE hS (x_F hH hS hA))) rfl rfl hl.1 rfl (lv_room (Nat.le_of_ble_eq_true rfl)) dX2_endsOf_69 ⟨(Nat.le_of_ble_eq_true rfl), (Nat.le_of_ble_eq_true rfl)⟩) hH hS hA rfl rfl (fun r_43 _ H locs hw_44 hH hS => ?_)
      exact sj_lret hx hb hr hlocks hS () trivial hH (sj_Knil hK) (Nat.le_of_ble_eq_true rfl) (Nat.le_of_ble_eq_true rfl) dX2_endsOf_72
    · skip
      refine lv_lookup (off := 106) (tgt := 126) hx hb dX2_endsOf_20 (by decide +kernel) (by rw [h_9]; rfl) (by decide) ?_
      refine lv_aload_n hx hb dX2_endsOf_126 rfl (lv_at hl 1 rfl) ?_
      refine lv_iload_n hx hb dX2_endsOf_127 rfl (lv_at hl 4 rfl) ?_
      refine lv_iconst (v := 1) hx hb dX2_endsOf_128 (by decide) ?_
      refine lv_iadd hx hb dX2_endsOf_129 ?_
      obtain ⟨z_46, ez_46, hz_46⟩ := s_add (rfl : x.toInt = _) (show (1 : Int32).toInt = 1 from rfl) (by omega) (by omega)
      refine sj_i ez_46 ?_
      refine lv_aload_n hx hb dX2_endsOf_130 rfl (lv_at hl 3 rfl) ?_
      refine lv_bipush (v := 32) hx hb dX2_endsOf_131 (by decide) ?_
      refine lv_iload_n hx hb dX2_endsOf_133 rfl (lv_at hl 4 rfl) ?_
      have hl_47 : (32 : Int32).toInt = 32 := rfl
      refine x_calli (va_runV (As := [.int 32, .int x]) (rest := [.int z_46, .ref (g (240 + 9 * j))]) ⟨hx, hb, hml, hown, hts⟩ (k_before_stepText l D g ka ad i r L d 32 x hO hR H.size (by first | omega | decide) (by first | omega | decide)) (cwV 2 hts gX2_endsOf_X3_before rfl rfl rfl (by decide +kernel) ⟨(Nat.le_of_ble_eq_true rfl), (Nat.le_of_ble_eq_true rfl)⟩) (x_preV (q := (RX3, TX3, 2)) hH hK (q_obj (by decide) (rfl : kd 14 = 3) (by decide)) rfl gxb (gxw hE hS (x_F hH hS hA))) rfl rfl hl.1 rfl (lv_room (Nat.le_of_ble_eq_true rfl)) dX2_endsOf_134 ⟨(Nat.le_of_ble_eq_true rfl), (Nat.le_of_ble_eq_true rfl)⟩) hH hS hA rfl rfl (fun r_48 _ H locs hw_49 hH hS => ?_)
      have hr_51 := hw_49
      have hr_51 : (0 : Int) ≤ r_48.toInt ∧ r_48.toInt ≤ 60 := hr_51
      refine x_calll (va_runV (As := [.int z_46, .int r_48]) (rest := []) ⟨hx, hb, hml, hown, hts⟩ (k_places l D g ka ad i r L d j z_46 r_48 hO hR H.size (by first | omega | decide) (by first | omega | decide) (by first | omega | decide) (by first | omega | decide)) (cwV 2 hts gX2_endsOf_X2_places rfl rfl rfl (by decide +kernel) ⟨(Nat.le_of_ble_eq_true rfl), (Nat.le_of_ble_eq_true rfl)⟩) (x_preV (q := (RX2, TX2, 11)) hH hK (q_obj (lt_nK (by omega)) (kd_expr (t := 0) hj (by decide)) (by decide)) rfl gxb (gxw hE hS (x_F hH hS hA))) rfl rfl hl.1 rfl (lv_room (Nat.le_of_ble_eq_true rfl)) dX2_endsOf_137 ⟨(Nat.le_of_ble_eq_true rfl), (Nat.le_of_ble_eq_true rfl)⟩) hH hS hA rfl rfl (fun r_52 _ H locs hw_53 hH hS => ?_)
      exact sj_lret hx hb hr hlocks hS () trivial hH (sj_Knil hK) (Nat.le_of_ble_eq_true rfl) (Nat.le_of_ble_eq_true rfl) dX2_endsOf_140
    · skip
      refine lv_lookup (off := 121) (tgt := 141) hx hb dX2_endsOf_20 (by decide +kernel) (by show Op.lookupswitch.offset [(100, 53), (105, 36), (119, 106)] _ _ = _; rw [Op.lookupswitch.offset_cons, if_neg (by omega)]; rw [Op.lookupswitch.offset_cons, if_neg (by omega)]; rw [Op.lookupswitch.offset_cons, if_neg (by omega)];  rw [Op.lookupswitch.offset_nil]) (by decide) ?_
      refine lv_iload_n hx hb dX2_endsOf_141 rfl (lv_at hl 4 rfl) ?_
      refine lv_iconst (v := 1) hx hb dX2_endsOf_142 (by decide) ?_
      refine lv_iadd hx hb dX2_endsOf_143 ?_
      obtain ⟨z_55, ez_55, hz_55⟩ := s_add (rfl : x.toInt = _) (show (1 : Int32).toInt = 1 from rfl) (by omega) (by omega)
      refine sj_i ez_55 ?_
      refine lv_aload_n hx hb dX2_endsOf_144 rfl (lv_at hl 3 rfl) ?_
      refine lv_bipush (v := 34) hx hb dX2_endsOf_145 (by decide) ?_
      refine lv_iload_n hx hb dX2_endsOf_147 rfl (lv_at hl 4 rfl) ?_
      refine lv_iconst (v := 1) hx hb dX2_endsOf_148 (by decide) ?_
      refine lv_iadd hx hb dX2_endsOf_149 ?_
      obtain ⟨z_56, ez_56, hz_56⟩ := s_add (rfl : x.toInt = _) (show (1 : Int32).toInt = 1 from rfl) (by omega) (by omega)
      refine sj_i ez_56 ?_
      have hl_57 : (34 : Int32).toInt = 34 := rfl
      refine x_calli (va_runV (As := [.int 34, .int z_56]) (rest := [.int z_55]) ⟨hx, hb, hml, hown, hts⟩ (k_before_stepText l D g ka ad i r L d 34 z_56 hO hR H.size (by first | omega | decide) (by first | omega | decide)) (cwV 2 hts gX2_endsOf_X3_before rfl rfl rfl (by decide +kernel) ⟨(Nat.le_of_ble_eq_true rfl), (Nat.le_of_ble_eq_true rfl)⟩) (x_preV (q := (RX3, TX3, 2)) hH hK (q_obj (by decide) (rfl : kd 14 = 3) (by decide)) rfl gxb (gxw hE hS (x_F hH hS hA))) rfl rfl hl.1 rfl (lv_room (Nat.le_of_ble_eq_true rfl)) dX2_endsOf_150 ⟨(Nat.le_of_ble_eq_true rfl), (Nat.le_of_ble_eq_true rfl)⟩) hH hS hA rfl rfl (fun r_58 _ H locs hw_59 hH hS => ?_)
      have hr_61 := hw_59
      have hr_61 : (0 : Int) ≤ r_58.toInt ∧ r_58.toInt ≤ 60 := hr_61
      refine lv_iadd hx hb dX2_endsOf_153 ?_
      obtain ⟨z_62, ez_62, hz_62⟩ := s_add (rfl : z_55.toInt = _) (rfl : r_58.toInt = _) (by omega) (by omega)
      refine sj_i ez_62 ?_
      refine lv_istore (lv' := [(6, .int z_62), (4, .int x), (0, .ref (g (240 + 9 * j))), (1, .int z), (2, .ref (g 14)), (3, .int x)]) hx hb dX2_endsOf_154 hl (by decide) rfl (fun ls hl => ?_)
      refine lv_aload_n hx hb dX2_endsOf_156 rfl (lv_at hl 4 rfl) ?_
      refine lv_iload_n hx hb dX2_endsOf_157 rfl (lv_at hl 5 rfl) ?_
      refine x_calli (va_runV (As := [.int x]) (rest := []) ⟨hx, hb, hml, hown, hts⟩ (k_at_stepText l D g ka ad i r L d x hO hR H.size ) (cwV 1 hts gX2_endsOf_X3_at rfl rfl rfl (by decide +kernel) ⟨(Nat.le_of_ble_eq_true rfl), (Nat.le_of_ble_eq_true rfl)⟩) (x_preV (q := (RX3, TX3, 2)) hH hK (q_obj (by decide) (rfl : kd 14 = 3) (by decide)) rfl gxb (gxw hE hS (x_F hH hS hA))) rfl rfl hl.1 rfl (lv_room (Nat.le_of_ble_eq_true rfl)) dX2_endsOf_158 ⟨(Nat.le_of_ble_eq_true rfl), (Nat.le_of_ble_eq_true rfl)⟩) hH hS hA rfl rfl (fun r_63 _ H locs hw_64 hH hS => ?_)
      obtain ⟨hr_66, he_67⟩ := hw_64
      have hr_66 : (-1 : Int) ≤ r_63.toInt ∧ r_63.toInt ≤ 65535 := hr_66
      refine lv_bipush (v := 34) hx hb dX2_endsOf_161 (by decide) ?_
      refine lv_icmp_ne (tgt := 189) hx hb dX2_endsOf_163 (by decide) (fun c_68 => ?_) (fun c_68 => ?_)
      · skip
        have h_69 := s_ne (rfl : r_63.toInt = _) (show (34 : Int32).toInt = 34 from rfl) c_68
        refine lv_lconst (v := 0) hx hb dX2_endsOf_189 (by decide) ?_
        exact sj_lret hx hb hr hlocks hS () trivial hH (sj_Knil hK) (Nat.le_of_ble_eq_true rfl) (Nat.le_of_ble_eq_true rfl) dX2_endsOf_190
      · skip
        have h_70 := s_eq (rfl : r_63.toInt = _) (show (34 : Int32).toInt = 34 from rfl) c_68
        refine lv_aload_n hx hb dX2_endsOf_166 rfl (lv_at hl 4 rfl) ?_
        refine lv_iload hx hb dX2_endsOf_167 (lv_at hl 0 rfl) ?_
        refine x_calli (va_runV (As := [.int z_62]) (rest := []) ⟨hx, hb, hml, hown, hts⟩ (k_at_stepText l D g ka ad i r L d z_62 hO hR H.size ) (cwV 1 hts gX2_endsOf_X3_at rfl rfl rfl (by decide +kernel) ⟨(Nat.le_of_ble_eq_true rfl), (Nat.le_of_ble_eq_true rfl)⟩) (x_preV (q := (RX3, TX3, 2)) hH hK (q_obj (by decide) (rfl : kd 14 = 3) (by decide)) rfl gxb (gxw hE hS (x_F hH hS hA))) rfl rfl hl.1 rfl (lv_room (Nat.le_of_ble_eq_true rfl)) dX2_endsOf_169 ⟨(Nat.le_of_ble_eq_true rfl), (Nat.le_of_ble_eq_true rfl)⟩) hH hS hA rfl rfl (fun r_71 _ H locs hw_72 hH hS => ?_)
        obtain ⟨hr_74, he_75⟩ := hw_72
        have hr_74 : (-1 : Int) ≤ r_71.toInt ∧ r_71.toInt ≤ 65535 := hr_74
        refine lv_bipush (v := 34) hx hb dX2_endsOf_172 (by decide) ?_
        refine lv_icmp_ne (tgt := 189) hx hb dX2_endsOf_174 (by decide) (fun c_76 => ?_) (fun c_76 => ?_)
        · skip
          have h_77 := s_ne (rfl : r_71.toInt = _) (show (34 : Int32).toInt = 34 from rfl) c_76
          refine lv_lconst (v := 0) hx hb dX2_endsOf_189 (by decide) ?_
          exact sj_lret hx hb hr hlocks hS () trivial hH (sj_Knil hK) (Nat.le_of_ble_eq_true rfl) (Nat.le_of_ble_eq_true rfl) dX2_endsOf_190
        · skip
          have h_78 := s_eq (rfl : r_71.toInt = _) (show (34 : Int32).toInt = 34 from rfl) c_76
          refine lv_aload_n hx hb dX2_endsOf_177 rfl (lv_at hl 2 rfl) ?_
          refine lv_iload hx hb dX2_endsOf_178 (lv_at hl 0 rfl) ?_
          refine lv_iconst (v := 1) hx hb dX2_endsOf_180 (by decide) ?_
          refine lv_iadd hx hb dX2_endsOf_181 ?_
          obtain ⟨z_79, ez_79, hz_79⟩ := s_add (rfl : z_62.toInt = _) (show (1 : Int32).toInt = 1 from rfl) (by omega) (by omega)
          refine sj_i ez_79 ?_
          refine lv_iconst (v := 1) hx hb dX2_endsOf_182 (by decide) ?_
          have hl_80 : (1 : Int32).toInt = 1 := rfl
          refine x_calll (va_runV (As := [.int z_79, .int 1]) (rest := []) ⟨hx, hb, hml, hown, hts⟩ (k_places l D g ka ad i r L d j z_79 1 hO hR H.size (by first | omega | decide) (by first | omega | decide) (by first | omega | decide) (by first | omega | decide)) (cwV 2 hts gX2_endsOf_X2_places rfl rfl rfl (by decide +kernel) ⟨(Nat.le_of_ble_eq_true rfl), (Nat.le_of_ble_eq_true rfl)⟩) (x_preV (q := (RX2, TX2, 11)) hH hK (q_obj (lt_nK (by omega)) (kd_expr (t := 0) hj (by decide)) (by decide)) rfl gxb (gxw hE hS (x_F hH hS hA))) rfl rfl hl.1 rfl (lv_room (Nat.le_of_ble_eq_true rfl)) dX2_endsOf_183 ⟨(Nat.le_of_ble_eq_true rfl), (Nat.le_of_ble_eq_true rfl)⟩) hH hS hA rfl rfl (fun r_81 _ H locs hw_82 hH hS => ?_)
          refine lv_goto (tgt := 190) hx hb dX2_endsOf_186 (by decide) ?_
          exact sj_lret hx hb hr hlocks hS () trivial hH (sj_Knil hK) (Nat.le_of_ble_eq_true rfl) (Nat.le_of_ble_eq_true rfl) dX2_endsOf_190
  · skip
    have h_84 := s_eq (rfl : r_2.toInt = _) (show (45 : Int32).toInt = 45 from rfl) c_7
    refine lv_iload_n hx hb dX2_endsOf_10 rfl (lv_at hl 3 rfl) ?_
    refine lv_iconst (v := 1) hx hb dX2_endsOf_11 (by decide) ?_
    refine lv_iadd hx hb dX2_endsOf_12 ?_
    obtain ⟨z_85, ez_85, hz_85⟩ := s_add (rfl : x.toInt = _) (show (1 : Int32).toInt = 1 from rfl) (by omega) (by omega)
    refine sj_i ez_85 ?_
    refine lv_goto (tgt := 17) hx hb dX2_endsOf_13 (by decide) ?_
    refine lv_istore (lv' := [(4, .int z_85), (0, .ref (g (240 + 9 * j))), (1, .int z), (2, .ref (g 14)), (3, .int x)]) hx hb dX2_endsOf_17 hl (by decide) rfl (fun ls hl => ?_)
    refine lv_iload_n hx hb dX2_endsOf_19 rfl (lv_at hl 2 rfl) ?_
    rcases (show (z).toInt = 100 ∨ (z).toInt = 105 ∨ (z).toInt = 119 ∨ ((z).toInt ≠ 100 ∧ (z).toInt ≠ 105 ∧ (z).toInt ≠ 119) by omega) with h_86 | h_86 | h_86 | h_86
    · skip
      refine lv_lookup (off := 53) (tgt := 73) hx hb dX2_endsOf_20 (by decide +kernel) (by rw [h_86]; rfl) (by decide) ?_
      refine lv_iload hx hb dX2_endsOf_73 (lv_at hl 0 rfl) ?_
      refine lv_aload_n hx hb dX2_endsOf_75 rfl (lv_at hl 3 rfl) ?_
      refine lv_iload hx hb dX2_endsOf_76 (lv_at hl 0 rfl) ?_
      refine lv_bipush (v := 6) hx hb dX2_endsOf_78 (by decide) ?_
      have hl_87 : (6 : Int32).toInt = 6 := rfl
      refine x_calli (va_runV (As := [.int z_85, .int 6]) (rest := [.int z_85]) ⟨hx, hb, hml, hown, hts⟩ (k_digits_stepText l D g ka ad i r L d z_85 6 hO hR H.size (by first | omega | decide) (by first | omega | decide) (by first | omega | decide) (by first | omega | decide)) (cwV 2 hts gX2_endsOf_X3_digits rfl rfl rfl (by decide +kernel) ⟨(Nat.le_of_ble_eq_true rfl), (Nat.le_of_ble_eq_true rfl)⟩) (x_preV (q := (RX3, TX3, 2)) hH hK (q_obj (by decide) (rfl : kd 14 = 3) (by decide)) rfl gxb (gxw hE hS (x_F hH hS hA))) rfl rfl hl.1 rfl (lv_room (Nat.le_of_ble_eq_true rfl)) dX2_endsOf_80 ⟨(Nat.le_of_ble_eq_true rfl), (Nat.le_of_ble_eq_true rfl)⟩) hH hS hA rfl rfl (fun r_88 _ H locs hw_89 hH hS => ?_)
      have hr_91 := hw_89
      have hr_91 : (0 : Int) ≤ r_88.toInt ∧ r_88.toInt ≤ 9 := hr_91
      refine lv_iadd hx hb dX2_endsOf_83 ?_
      obtain ⟨z_92, ez_92, hz_92⟩ := s_add (rfl : z_85.toInt = _) (rfl : r_88.toInt = _) (by omega) (by omega)
      refine sj_i ez_92 ?_
      refine lv_istore (lv' := [(5, .int z_92), (4, .int z_85), (0, .ref (g (240 + 9 * j))), (1, .int z), (2, .ref (g 14)), (3, .int x)]) hx hb dX2_endsOf_84 hl (by decide) rfl (fun ls hl => ?_)
      refine lv_iload hx hb dX2_endsOf_86 (lv_at hl 0 rfl) ?_
      refine lv_iload hx hb dX2_endsOf_88 (lv_at hl 1 rfl) ?_
      refine lv_icmp_le (tgt := 124) hx hb dX2_endsOf_90 (by decide) (fun c_93 => ?_) (fun c_93 => ?_)
      · skip
        have h_94 := s_le (rfl : z_92.toInt = _) (rfl : z_85.toInt = _) c_93
        refine lv_lconst (v := 0) hx hb dX2_endsOf_124 (by decide) ?_
        exact sj_lret hx hb hr hlocks hS () trivial hH (sj_Knil hK) (Nat.le_of_ble_eq_true rfl) (Nat.le_of_ble_eq_true rfl) dX2_endsOf_125
      · skip
        have h_95 := s_nle (rfl : z_92.toInt = _) (rfl : z_85.toInt = _) c_93
        refine lv_aload_n hx hb dX2_endsOf_93 rfl (lv_at hl 4 rfl) ?_
        refine lv_iload hx hb dX2_endsOf_94 (lv_at hl 0 rfl) ?_
        refine x_calli (va_runV (As := [.int z_92]) (rest := []) ⟨hx, hb, hml, hown, hts⟩ (k_at_stepText l D g ka ad i r L d z_92 hO hR H.size ) (cwV 1 hts gX2_endsOf_X3_at rfl rfl rfl (by decide +kernel) ⟨(Nat.le_of_ble_eq_true rfl), (Nat.le_of_ble_eq_true rfl)⟩) (x_preV (q := (RX3, TX3, 2)) hH hK (q_obj (by decide) (rfl : kd 14 = 3) (by decide)) rfl gxb (gxw hE hS (x_F hH hS hA))) rfl rfl hl.1 rfl (lv_room (Nat.le_of_ble_eq_true rfl)) dX2_endsOf_96 ⟨(Nat.le_of_ble_eq_true rfl), (Nat.le_of_ble_eq_true rfl)⟩) hH hS hA rfl rfl (fun r_96 _ H locs hw_97 hH hS => ?_)
        obtain ⟨hr_99, he_100⟩ := hw_97
        have hr_99 : (-1 : Int) ≤ r_96.toInt ∧ r_96.toInt ≤ 65535 := hr_99
        refine lv_bipush (v := 46) hx hb dX2_endsOf_99 (by decide) ?_
        refine lv_icmp_ne (tgt := 124) hx hb dX2_endsOf_101 (by decide) (fun c_101 => ?_) (fun c_101 => ?_)
        · skip
          have h_102 := s_ne (rfl : r_96.toInt = _) (show (46 : Int32).toInt = 46 from rfl) c_101
          refine lv_lconst (v := 0) hx hb dX2_endsOf_124 (by decide) ?_
          exact sj_lret hx hb hr hlocks hS () trivial hH (sj_Knil hK) (Nat.le_of_ble_eq_true rfl) (Nat.le_of_ble_eq_true rfl) dX2_endsOf_125
        · skip
          have h_103 := s_eq (rfl : r_96.toInt = _) (show (46 : Int32).toInt = 46 from rfl) c_101
          refine lv_aload_n hx hb dX2_endsOf_104 rfl (lv_at hl 2 rfl) ?_
          refine lv_iload hx hb dX2_endsOf_105 (lv_at hl 0 rfl) ?_
          refine lv_iconst (v := 2) hx hb dX2_endsOf_107 (by decide) ?_
          refine lv_iadd hx hb dX2_endsOf_108 ?_
          obtain ⟨z_104, ez_104, hz_104⟩ := s_add (rfl : z_92.toInt = _) (show (2 : Int32).toInt = 2 from rfl) (by omega) (by omega)
          refine sj_i ez_104 ?_
          refine lv_aload_n hx hb dX2_endsOf_109 rfl (lv_at hl 4 rfl) ?_
          refine lv_iload hx hb dX2_endsOf_110 (lv_at hl 0 rfl) ?_
          refine lv_iconst (v := 1) hx hb dX2_endsOf_112 (by decide) ?_
          refine lv_iadd hx hb dX2_endsOf_113 ?_
          obtain ⟨z_105, ez_105, hz_105⟩ := s_add (rfl : z_92.toInt = _) (show (1 : Int32).toInt = 1 from rfl) (by omega) (by omega)
          refine sj_i ez_105 ?_
          refine lv_iconst (v := 3) hx hb dX2_endsOf_114 (by decide) ?_
          have hl_106 : (3 : Int32).toInt = 3 := rfl
          refine x_calli (va_runV (As := [.int z_105, .int 3]) (rest := [.int z_104, .ref (g (240 + 9 * j))]) ⟨hx, hb, hml, hown, hts⟩ (k_digits_stepText l D g ka ad i r L d z_105 3 hO hR H.size (by first | omega | decide) (by first | omega | decide) (by first | omega | decide) (by first | omega | decide)) (cwV 2 hts gX2_endsOf_X3_digits rfl rfl rfl (by decide +kernel) ⟨(Nat.le_of_ble_eq_true rfl), (Nat.le_of_ble_eq_true rfl)⟩) (x_preV (q := (RX3, TX3, 2)) hH hK (q_obj (by decide) (rfl : kd 14 = 3) (by decide)) rfl gxb (gxw hE hS (x_F hH hS hA))) rfl rfl hl.1 rfl (lv_room (Nat.le_of_ble_eq_true rfl)) dX2_endsOf_115 ⟨(Nat.le_of_ble_eq_true rfl), (Nat.le_of_ble_eq_true rfl)⟩) hH hS hA rfl rfl (fun r_107 _ H locs hw_108 hH hS => ?_)
          have hr_110 := hw_108
          have hr_110 : (0 : Int) ≤ r_107.toInt ∧ r_107.toInt ≤ 9 := hr_110
          refine x_calll (va_runV (As := [.int z_104, .int r_107]) (rest := []) ⟨hx, hb, hml, hown, hts⟩ (k_places l D g ka ad i r L d j z_104 r_107 hO hR H.size (by first | omega | decide) (by first | omega | decide) (by first | omega | decide) (by first | omega | decide)) (cwV 2 hts gX2_endsOf_X2_places rfl rfl rfl (by decide +kernel) ⟨(Nat.le_of_ble_eq_true rfl), (Nat.le_of_ble_eq_true rfl)⟩) (x_preV (q := (RX2, TX2, 11)) hH hK (q_obj (lt_nK (by omega)) (kd_expr (t := 0) hj (by decide)) (by decide)) rfl gxb (gxw hE hS (x_F hH hS hA))) rfl rfl hl.1 rfl (lv_room (Nat.le_of_ble_eq_true rfl)) dX2_endsOf_118 ⟨(Nat.le_of_ble_eq_true rfl), (Nat.le_of_ble_eq_true rfl)⟩) hH hS hA rfl rfl (fun r_111 _ H locs hw_112 hH hS => ?_)
          refine lv_goto (tgt := 125) hx hb dX2_endsOf_121 (by decide) ?_
          exact sj_lret hx hb hr hlocks hS () trivial hH (sj_Knil hK) (Nat.le_of_ble_eq_true rfl) (Nat.le_of_ble_eq_true rfl) dX2_endsOf_125
    · skip
      refine lv_lookup (off := 36) (tgt := 56) hx hb dX2_endsOf_20 (by decide +kernel) (by rw [h_86]; rfl) (by decide) ?_
      refine lv_aload_n hx hb dX2_endsOf_56 rfl (lv_at hl 1 rfl) ?_
      refine lv_iload hx hb dX2_endsOf_57 (lv_at hl 0 rfl) ?_
      refine lv_iconst (v := 1) hx hb dX2_endsOf_59 (by decide) ?_
      refine lv_iadd hx hb dX2_endsOf_60 ?_
      obtain ⟨z_114, ez_114, hz_114⟩ := s_add (rfl : z_85.toInt = _) (show (1 : Int32).toInt = 1 from rfl) (by omega) (by omega)
      refine sj_i ez_114 ?_
      refine lv_aload_n hx hb dX2_endsOf_61 rfl (lv_at hl 3 rfl) ?_
      refine lv_iload hx hb dX2_endsOf_62 (lv_at hl 0 rfl) ?_
      refine lv_bipush (v := 9) hx hb dX2_endsOf_64 (by decide) ?_
      have hl_115 : (9 : Int32).toInt = 9 := rfl
      refine x_calli (va_runV (As := [.int z_85, .int 9]) (rest := [.int z_114, .ref (g (240 + 9 * j))]) ⟨hx, hb, hml, hown, hts⟩ (k_digits_stepText l D g ka ad i r L d z_85 9 hO hR H.size (by first | omega | decide) (by first | omega | decide) (by first | omega | decide) (by first | omega | decide)) (cwV 2 hts gX2_endsOf_X3_digits rfl rfl rfl (by decide +kernel) ⟨(Nat.le_of_ble_eq_true rfl), (Nat.le_of_ble_eq_true rfl)⟩) (x_preV (q := (RX3, TX3, 2)) hH hK (q_obj (by decide) (rfl : kd 14 = 3) (by decide)) rfl gxb (gxw hE hS (x_F hH hS hA))) rfl rfl hl.1 rfl (lv_room (Nat.le_of_ble_eq_true rfl)) dX2_endsOf_66 ⟨(Nat.le_of_ble_eq_true rfl), (Nat.le_of_ble_eq_true rfl)⟩) hH hS hA rfl rfl (fun r_116 _ H locs hw_117 hH hS => ?_)
      have hr_119 := hw_117
      have hr_119 : (0 : Int) ≤ r_116.toInt ∧ r_116.toInt ≤ 9 := hr_119
      refine x_calll (va_runV (As := [.int z_114, .int r_116]) (rest := []) ⟨hx, hb, hml, hown, hts⟩ (k_places l D g ka ad i r L d j z_114 r_116 hO hR H.size (by first | omega | decide) (by first | omega | decide) (by first | omega | decide) (by first | omega | decide)) (cwV 2 hts gX2_endsOf_X2_places rfl rfl rfl (by decide +kernel) ⟨(Nat.le_of_ble_eq_true rfl), (Nat.le_of_ble_eq_true rfl)⟩) (x_preV (q := (RX2, TX2, 11)) hH hK (q_obj (lt_nK (by omega)) (kd_expr (t := 0) hj (by decide)) (by decide)) rfl gxb (gxw hE hS (x_F hH hS hA))) rfl rfl hl.1 rfl (lv_room (Nat.le_of_ble_eq_true rfl)) dX2_endsOf_69 ⟨(Nat.le_of_ble_eq_true rfl), (Nat.le_of_ble_eq_true rfl)⟩) hH hS hA rfl rfl (fun r_120 _ H locs hw_121 hH hS => ?_)
      exact sj_lret hx hb hr hlocks hS () trivial hH (sj_Knil hK) (Nat.le_of_ble_eq_true rfl) (Nat.le_of_ble_eq_true rfl) dX2_endsOf_72
    · skip
      refine lv_lookup (off := 106) (tgt := 126) hx hb dX2_endsOf_20 (by decide +kernel) (by rw [h_86]; rfl) (by decide) ?_
      refine lv_aload_n hx hb dX2_endsOf_126 rfl (lv_at hl 1 rfl) ?_
      refine lv_iload_n hx hb dX2_endsOf_127 rfl (lv_at hl 4 rfl) ?_
      refine lv_iconst (v := 1) hx hb dX2_endsOf_128 (by decide) ?_
      refine lv_iadd hx hb dX2_endsOf_129 ?_
      obtain ⟨z_123, ez_123, hz_123⟩ := s_add (rfl : x.toInt = _) (show (1 : Int32).toInt = 1 from rfl) (by omega) (by omega)
      refine sj_i ez_123 ?_
      refine lv_aload_n hx hb dX2_endsOf_130 rfl (lv_at hl 3 rfl) ?_
      refine lv_bipush (v := 32) hx hb dX2_endsOf_131 (by decide) ?_
      refine lv_iload_n hx hb dX2_endsOf_133 rfl (lv_at hl 4 rfl) ?_
      have hl_124 : (32 : Int32).toInt = 32 := rfl
      refine x_calli (va_runV (As := [.int 32, .int x]) (rest := [.int z_123, .ref (g (240 + 9 * j))]) ⟨hx, hb, hml, hown, hts⟩ (k_before_stepText l D g ka ad i r L d 32 x hO hR H.size (by first | omega | decide) (by first | omega | decide)) (cwV 2 hts gX2_endsOf_X3_before rfl rfl rfl (by decide +kernel) ⟨(Nat.le_of_ble_eq_true rfl), (Nat.le_of_ble_eq_true rfl)⟩) (x_preV (q := (RX3, TX3, 2)) hH hK (q_obj (by decide) (rfl : kd 14 = 3) (by decide)) rfl gxb (gxw hE hS (x_F hH hS hA))) rfl rfl hl.1 rfl (lv_room (Nat.le_of_ble_eq_true rfl)) dX2_endsOf_134 ⟨(Nat.le_of_ble_eq_true rfl), (Nat.le_of_ble_eq_true rfl)⟩) hH hS hA rfl rfl (fun r_125 _ H locs hw_126 hH hS => ?_)
      have hr_128 := hw_126
      have hr_128 : (0 : Int) ≤ r_125.toInt ∧ r_125.toInt ≤ 60 := hr_128
      refine x_calll (va_runV (As := [.int z_123, .int r_125]) (rest := []) ⟨hx, hb, hml, hown, hts⟩ (k_places l D g ka ad i r L d j z_123 r_125 hO hR H.size (by first | omega | decide) (by first | omega | decide) (by first | omega | decide) (by first | omega | decide)) (cwV 2 hts gX2_endsOf_X2_places rfl rfl rfl (by decide +kernel) ⟨(Nat.le_of_ble_eq_true rfl), (Nat.le_of_ble_eq_true rfl)⟩) (x_preV (q := (RX2, TX2, 11)) hH hK (q_obj (lt_nK (by omega)) (kd_expr (t := 0) hj (by decide)) (by decide)) rfl gxb (gxw hE hS (x_F hH hS hA))) rfl rfl hl.1 rfl (lv_room (Nat.le_of_ble_eq_true rfl)) dX2_endsOf_137 ⟨(Nat.le_of_ble_eq_true rfl), (Nat.le_of_ble_eq_true rfl)⟩) hH hS hA rfl rfl (fun r_129 _ H locs hw_130 hH hS => ?_)
      exact sj_lret hx hb hr hlocks hS () trivial hH (sj_Knil hK) (Nat.le_of_ble_eq_true rfl) (Nat.le_of_ble_eq_true rfl) dX2_endsOf_140
    · skip
      refine lv_lookup (off := 121) (tgt := 141) hx hb dX2_endsOf_20 (by decide +kernel) (by show Op.lookupswitch.offset [(100, 53), (105, 36), (119, 106)] _ _ = _; rw [Op.lookupswitch.offset_cons, if_neg (by omega)]; rw [Op.lookupswitch.offset_cons, if_neg (by omega)]; rw [Op.lookupswitch.offset_cons, if_neg (by omega)];  rw [Op.lookupswitch.offset_nil]) (by decide) ?_
      refine lv_iload_n hx hb dX2_endsOf_141 rfl (lv_at hl 4 rfl) ?_
      refine lv_iconst (v := 1) hx hb dX2_endsOf_142 (by decide) ?_
      refine lv_iadd hx hb dX2_endsOf_143 ?_
      obtain ⟨z_132, ez_132, hz_132⟩ := s_add (rfl : x.toInt = _) (show (1 : Int32).toInt = 1 from rfl) (by omega) (by omega)
      refine sj_i ez_132 ?_
      refine lv_aload_n hx hb dX2_endsOf_144 rfl (lv_at hl 3 rfl) ?_
      refine lv_bipush (v := 34) hx hb dX2_endsOf_145 (by decide) ?_
      refine lv_iload_n hx hb dX2_endsOf_147 rfl (lv_at hl 4 rfl) ?_
      refine lv_iconst (v := 1) hx hb dX2_endsOf_148 (by decide) ?_
      refine lv_iadd hx hb dX2_endsOf_149 ?_
      obtain ⟨z_133, ez_133, hz_133⟩ := s_add (rfl : x.toInt = _) (show (1 : Int32).toInt = 1 from rfl) (by omega) (by omega)
      refine sj_i ez_133 ?_
      have hl_134 : (34 : Int32).toInt = 34 := rfl
      refine x_calli (va_runV (As := [.int 34, .int z_133]) (rest := [.int z_132]) ⟨hx, hb, hml, hown, hts⟩ (k_before_stepText l D g ka ad i r L d 34 z_133 hO hR H.size (by first | omega | decide) (by first | omega | decide)) (cwV 2 hts gX2_endsOf_X3_before rfl rfl rfl (by decide +kernel) ⟨(Nat.le_of_ble_eq_true rfl), (Nat.le_of_ble_eq_true rfl)⟩) (x_preV (q := (RX3, TX3, 2)) hH hK (q_obj (by decide) (rfl : kd 14 = 3) (by decide)) rfl gxb (gxw hE hS (x_F hH hS hA))) rfl rfl hl.1 rfl (lv_room (Nat.le_of_ble_eq_true rfl)) dX2_endsOf_150 ⟨(Nat.le_of_ble_eq_true rfl), (Nat.le_of_ble_eq_true rfl)⟩) hH hS hA rfl rfl (fun r_135 _ H locs hw_136 hH hS => ?_)
      have hr_138 := hw_136
      have hr_138 : (0 : Int) ≤ r_135.toInt ∧ r_135.toInt ≤ 60 := hr_138
      refine lv_iadd hx hb dX2_endsOf_153 ?_
      obtain ⟨z_139, ez_139, hz_139⟩ := s_add (rfl : z_132.toInt = _) (rfl : r_135.toInt = _) (by omega) (by omega)
      refine sj_i ez_139 ?_
      refine lv_istore (lv' := [(6, .int z_139), (4, .int z_85), (0, .ref (g (240 + 9 * j))), (1, .int z), (2, .ref (g 14)), (3, .int x)]) hx hb dX2_endsOf_154 hl (by decide) rfl (fun ls hl => ?_)
      refine lv_aload_n hx hb dX2_endsOf_156 rfl (lv_at hl 4 rfl) ?_
      refine lv_iload_n hx hb dX2_endsOf_157 rfl (lv_at hl 5 rfl) ?_
      refine x_calli (va_runV (As := [.int x]) (rest := []) ⟨hx, hb, hml, hown, hts⟩ (k_at_stepText l D g ka ad i r L d x hO hR H.size ) (cwV 1 hts gX2_endsOf_X3_at rfl rfl rfl (by decide +kernel) ⟨(Nat.le_of_ble_eq_true rfl), (Nat.le_of_ble_eq_true rfl)⟩) (x_preV (q := (RX3, TX3, 2)) hH hK (q_obj (by decide) (rfl : kd 14 = 3) (by decide)) rfl gxb (gxw hE hS (x_F hH hS hA))) rfl rfl hl.1 rfl (lv_room (Nat.le_of_ble_eq_true rfl)) dX2_endsOf_158 ⟨(Nat.le_of_ble_eq_true rfl), (Nat.le_of_ble_eq_true rfl)⟩) hH hS hA rfl rfl (fun r_140 _ H locs hw_141 hH hS => ?_)
      obtain ⟨hr_143, he_144⟩ := hw_141
      have hr_143 : (-1 : Int) ≤ r_140.toInt ∧ r_140.toInt ≤ 65535 := hr_143
      refine lv_bipush (v := 34) hx hb dX2_endsOf_161 (by decide) ?_
      refine lv_icmp_ne (tgt := 189) hx hb dX2_endsOf_163 (by decide) (fun c_145 => ?_) (fun c_145 => ?_)
      · skip
        have h_146 := s_ne (rfl : r_140.toInt = _) (show (34 : Int32).toInt = 34 from rfl) c_145
        refine lv_lconst (v := 0) hx hb dX2_endsOf_189 (by decide) ?_
        exact sj_lret hx hb hr hlocks hS () trivial hH (sj_Knil hK) (Nat.le_of_ble_eq_true rfl) (Nat.le_of_ble_eq_true rfl) dX2_endsOf_190
      · skip
        have h_147 := s_eq (rfl : r_140.toInt = _) (show (34 : Int32).toInt = 34 from rfl) c_145
        refine lv_aload_n hx hb dX2_endsOf_166 rfl (lv_at hl 4 rfl) ?_
        refine lv_iload hx hb dX2_endsOf_167 (lv_at hl 0 rfl) ?_
        refine x_calli (va_runV (As := [.int z_139]) (rest := []) ⟨hx, hb, hml, hown, hts⟩ (k_at_stepText l D g ka ad i r L d z_139 hO hR H.size ) (cwV 1 hts gX2_endsOf_X3_at rfl rfl rfl (by decide +kernel) ⟨(Nat.le_of_ble_eq_true rfl), (Nat.le_of_ble_eq_true rfl)⟩) (x_preV (q := (RX3, TX3, 2)) hH hK (q_obj (by decide) (rfl : kd 14 = 3) (by decide)) rfl gxb (gxw hE hS (x_F hH hS hA))) rfl rfl hl.1 rfl (lv_room (Nat.le_of_ble_eq_true rfl)) dX2_endsOf_169 ⟨(Nat.le_of_ble_eq_true rfl), (Nat.le_of_ble_eq_true rfl)⟩) hH hS hA rfl rfl (fun r_148 _ H locs hw_149 hH hS => ?_)
        obtain ⟨hr_151, he_152⟩ := hw_149
        have hr_151 : (-1 : Int) ≤ r_148.toInt ∧ r_148.toInt ≤ 65535 := hr_151
        refine lv_bipush (v := 34) hx hb dX2_endsOf_172 (by decide) ?_
        refine lv_icmp_ne (tgt := 189) hx hb dX2_endsOf_174 (by decide) (fun c_153 => ?_) (fun c_153 => ?_)
        · skip
          have h_154 := s_ne (rfl : r_148.toInt = _) (show (34 : Int32).toInt = 34 from rfl) c_153
          refine lv_lconst (v := 0) hx hb dX2_endsOf_189 (by decide) ?_
          exact sj_lret hx hb hr hlocks hS () trivial hH (sj_Knil hK) (Nat.le_of_ble_eq_true rfl) (Nat.le_of_ble_eq_true rfl) dX2_endsOf_190
        · skip
          have h_155 := s_eq (rfl : r_148.toInt = _) (show (34 : Int32).toInt = 34 from rfl) c_153
          refine lv_aload_n hx hb dX2_endsOf_177 rfl (lv_at hl 2 rfl) ?_
          refine lv_iload hx hb dX2_endsOf_178 (lv_at hl 0 rfl) ?_
          refine lv_iconst (v := 1) hx hb dX2_endsOf_180 (by decide) ?_
          refine lv_iadd hx hb dX2_endsOf_181 ?_
          obtain ⟨z_156, ez_156, hz_156⟩ := s_add (rfl : z_139.toInt = _) (show (1 : Int32).toInt = 1 from rfl) (by omega) (by omega)
          refine sj_i ez_156 ?_
          refine lv_iconst (v := 1) hx hb dX2_endsOf_182 (by decide) ?_
          have hl_157 : (1 : Int32).toInt = 1 := rfl
          refine x_calll (va_runV (As := [.int z_156, .int 1]) (rest := []) ⟨hx, hb, hml, hown, hts⟩ (k_places l D g ka ad i r L d j z_156 1 hO hR H.size (by first | omega | decide) (by first | omega | decide) (by first | omega | decide) (by first | omega | decide)) (cwV 2 hts gX2_endsOf_X2_places rfl rfl rfl (by decide +kernel) ⟨(Nat.le_of_ble_eq_true rfl), (Nat.le_of_ble_eq_true rfl)⟩) (x_preV (q := (RX2, TX2, 11)) hH hK (q_obj (lt_nK (by omega)) (kd_expr (t := 0) hj (by decide)) (by decide)) rfl gxb (gxw hE hS (x_F hH hS hA))) rfl rfl hl.1 rfl (lv_room (Nat.le_of_ble_eq_true rfl)) dX2_endsOf_183 ⟨(Nat.le_of_ble_eq_true rfl), (Nat.le_of_ble_eq_true rfl)⟩) hH hS hA rfl rfl (fun r_158 _ H locs hw_159 hH hS => ?_)
          refine lv_goto (tgt := 190) hx hb dX2_endsOf_186 (by decide) ?_
          exact sj_lret hx hb hr hlocks hS () trivial hH (sj_Knil hK) (Nat.le_of_ble_eq_true rfl) (Nat.le_of_ble_eq_true rfl) dX2_endsOf_190
set_option maxHeartbeats 2000000 in
set_option maxRecDepth 100000 in
theorem k_openC (l : Launch) (D : va_G) (g : Nat → Nat) (ka : Nat → ClassId) (ad : Nat → Nat) (i : Nat → Nat → Int32) (r : Nat → Nat → Nat) (L : Nat → Nat → Int64) (d : Nat → Nat → UInt64) (j : Nat) (x : Int32) (hO : OkI i) (hR : RS r) (sz : Nat) (hj : j < 13) (hx0 : 0 ≤ x.toInt) (hx1 : x.toInt ≤ 59) : Met l yX2_openBeforeChoice wsX2_openBeforeChoice ({ frames := 2, cells := 0, slots := 0, locals := 45 }) (va_Pc [.ref (g (240 + 9 * j)), .int x, .ref (g 14)] (sj_B D (hwc g ka i r L d) (hT ka) sz (gx ad (va_A (hwc g ka i r L d) sz)))) (sj_Ql (S := Unit) D (fun v u => True) (fun _ => hwc g ka i r L d) (fun _ => []) (va_A (hwc g ka i r L d) sz)) 0 0 (va_A (hwc g ka i r L d) sz) := by
  refine x_met (Ex := gx ad) (cc := cX2_openBeforeChoice) (maxL := 9) (ret := (some .long)) (by decide) rfl (Nat.le_of_ble_eq_true rfl) ?_
  intro p e s m below meth c A ls hx hb hr hml hts hown hlocks hA hS hH hK hE hl
  have hown : s.vm.findClass RX2 = some m.cls := hown
  have in2 : ∀ w ∈ wsX20, w ∈ wsX2_openBeforeChoice := (fun _ h => (List.mem_cons_of_mem _ (List.mem_append_left _ (List.mem_append_right _ h))))
  have in3 : ∀ w ∈ wsX30, w ∈ wsX2_openBeforeChoice := (fun _ h => (List.mem_cons_of_mem _ (List.mem_append_right _ h)))
  have wd0 := hts (.fieldLink RX2 22 "StoryDesk$Expression" "firstChoices" "[I") (List.mem_cons_of_mem _ (List.mem_append_left _ (List.mem_append_left _ lm0)))
  have wd1 := hts (.fieldLink RX2 25 "StoryDesk$Expression" "open" "[J") (List.mem_cons_of_mem _ (List.mem_append_left _ (List.mem_append_left _ lm1)))
  have wd2 := hts (.fieldLink RX2 48 "StoryDesk$Letters" "length" "I") (List.mem_cons_of_mem _ (List.mem_append_left _ (List.mem_append_left _ lm2)))
  have hl : lv_has ls 9 [(0, .ref (g (240 + 9 * j))), (1, .int x), (2, .ref (g 14))] := hl
  have hK : va_K D vwCl (hT ka) s := hK
  refine lv_lconst (v := 0) hx hb dX2_openBeforeChoice_0 (by decide) ?_
  refine lv_lstore_n (lv' := [(3, .long 0), (0, .ref (g (240 + 9 * j))), (1, .int x), (2, .ref (g 14))]) hx hb dX2_openBeforeChoice_1 rfl hl (by decide) rfl (fun ls hl => ?_)
  refine lv_aload_n hx hb dX2_openBeforeChoice_2 rfl (lv_at hl 1 rfl) ?_
  refine h_getr (ci := 2) (C := RX2) (F := TX2) (N := 11) hx hb hts in2 hown hK hH (lt_nK (by omega)) (kd_expr (t := 0) hj (by decide)) (by decide) rfl 4 (by decide) wd0 (fun _ h9 => h9) (by decide) rfl (t := (240 + 9 * j + 4)) ((hR _ _ (by unfold dyn; simp <;> omega)).trans (sr_expr (by omega) (by omega))) (lt_nK (by omega)) dX2_openBeforeChoice_3 ?_
  refine lv_iload_n hx hb dX2_openBeforeChoice_6 rfl (lv_at hl 2 rfl) ?_
  have bx_1 : (0 : Int) ≤ (i (240 + 9 * j + 4) (x.toInt).toNat).toInt ∧ (i (240 + 9 * j + 4) (x.toInt).toNat).toInt ≤ 61 := by have h9 := hO (240 + 9 * j + 4) (x.toInt).toNat; rw [bx_expr (t := 4) hj (by decide) (by decide) (x.toInt).toNat] at h9; exact h9
  refine h_iald hx hb hK hH (lt_nK (by omega)) (kd_expr (t := 4) hj (by decide)) (s_vin (N := 61) (rfl : x.toInt = _) (ln_expr (t := 4) hj (by decide)) (by omega) (by omega)) dX2_openBeforeChoice_7 ?_
  have ek_2 : x.toNatClampNeg = (x.toInt).toNat := (s_cl (show x.toInt = x.toInt by omega))
  refine sj_i (y := (i (240 + 9 * j + 4) (x.toInt).toNat)) (by rw [ek_2]) ?_
  refine lv_istore (lv' := [(5, .int (i (240 + 9 * j + 4) (x.toInt).toNat)), (3, .long 0), (0, .ref (g (240 + 9 * j))), (1, .int x), (2, .ref (g 14))]) hx hb dX2_openBeforeChoice_8 hl (by decide) rfl (fun ls hl => ?_)
  -- loop at 10
  have lp_3 : ∀ (fuel_lp_3 : Nat) (u : Int32) (b3 : Int64) (H : Heap) (locs : List Loc) (ls : Array Slot), (61 - u.toInt).toNat < fuel_lp_3 → (0 : Int) ≤ u.toInt ∧ u.toInt ≤ 61 → lv_has ls 9 [(5, .int u), (3, .long b3), (0, .ref (g (240 + 9 * j))), (1, .int x), (2, .ref (g 14))] → sj_H D A (hwc g ka i r L d) H → va_S A s.heap H locs → W p l e (headSpec wsX2_openBeforeChoice ({ frames := 2, cells := 0, slots := 0, locals := 45 })).room s m ([.ref (g (240 + 9 * j)), .int x, .ref (g 14)] : List Value).toArray below meth c H locs 0 0 (MQ below (sj_Ql (S := Unit) D (fun v u => True) (fun _ => hwc g ka i r L d) (fun _ => []) A) ([.ref (g (240 + 9 * j)), .int x, .ref (g 14)] : List Value).toArray s 0 0 A) (F0 m 10 ls []) := by
    intro fuel_lp_3
    induction fuel_lp_3 with
    | zero => intros; omega
    | succ fuel_lp_3 ih_lp_3 =>
      intro u b3 H locs ls hm hr_u hl hH hS
      refine lv_iload hx hb dX2_openBeforeChoice_10 (lv_at hl 0 rfl) ?_
      refine lv_aload_n hx hb dX2_openBeforeChoice_12 rfl (lv_at hl 2 rfl) ?_
      refine h_getr (ci := 2) (C := RX2) (F := TX2) (N := 11) hx hb hts in2 hown hK hH (lt_nK (by omega)) (kd_expr (t := 0) hj (by decide)) (by decide) rfl 4 (by decide) wd0 (fun _ h9 => h9) (by decide) rfl (t := (240 + 9 * j + 4)) ((hR _ _ (by unfold dyn; simp <;> omega)).trans (sr_expr (by omega) (by omega))) (lt_nK (by omega)) dX2_openBeforeChoice_13 ?_
      refine lv_iload_n hx hb dX2_openBeforeChoice_16 rfl (lv_at hl 3 rfl) ?_
      refine lv_iconst (v := 1) hx hb dX2_openBeforeChoice_17 (by decide) ?_
      refine lv_iadd hx hb dX2_openBeforeChoice_18 ?_
      obtain ⟨z_4, ez_4, hz_4⟩ := s_add (rfl : x.toInt = _) (show (1 : Int32).toInt = 1 from rfl) (by omega) (by omega)
      refine sj_i ez_4 ?_
      have bx_5 : (0 : Int) ≤ (i (240 + 9 * j + 4) (x.toInt + 1).toNat).toInt ∧ (i (240 + 9 * j + 4) (x.toInt + 1).toNat).toInt ≤ 61 := by have h9 := hO (240 + 9 * j + 4) (x.toInt + 1).toNat; rw [bx_expr (t := 4) hj (by decide) (by decide) (x.toInt + 1).toNat] at h9; exact h9
      refine h_iald hx hb hK hH (lt_nK (by omega)) (kd_expr (t := 4) hj (by decide)) (s_vin (N := 61) (rfl : z_4.toInt = _) (ln_expr (t := 4) hj (by decide)) (by omega) (by omega)) dX2_openBeforeChoice_19 ?_
      have ek_6 : z_4.toNatClampNeg = (x.toInt + 1).toNat := (s_cl (show z_4.toInt = x.toInt + 1 by omega))
      refine sj_i (y := (i (240 + 9 * j + 4) (x.toInt + 1).toNat)) (by rw [ek_6]) ?_
      refine lv_icmp_ge (tgt := 107) hx hb dX2_openBeforeChoice_20 (by decide) (fun c_7 => ?_) (fun c_7 => ?_)
      · skip
        have h_8 := s_le (rfl : (i (240 + 9 * j + 4) (x.toInt + 1).toNat).toInt = _) (rfl : u.toInt = _) c_7
        refine lv_lload_n hx hb dX2_openBeforeChoice_107 rfl (lv_at hl 1 rfl) ?_
        exact sj_lret hx hb hr hlocks hS () trivial hH (sj_Knil hK) (Nat.le_of_ble_eq_true rfl) (Nat.le_of_ble_eq_true rfl) dX2_openBeforeChoice_108
      · skip
        have h_9 := s_nle (rfl : (i (240 + 9 * j + 4) (x.toInt + 1).toNat).toInt = _) (rfl : u.toInt = _) c_7
        refine lv_aload_n hx hb dX2_openBeforeChoice_23 rfl (lv_at hl 2 rfl) ?_
        refine h_getr (ci := 2) (C := RX2) (F := TX2) (N := 11) hx hb hts in2 hown hK hH (lt_nK (by omega)) (kd_expr (t := 0) hj (by decide)) (by decide) rfl 7 (by decide) wd1 (fun _ h9 => h9) (by decide) rfl (t := (240 + 9 * j + 5)) ((hR _ _ (by unfold dyn; simp <;> omega)).trans (sr_expr (by omega) (by omega))) (lt_nK (by omega)) dX2_openBeforeChoice_24 ?_
        refine lv_iload_n hx hb dX2_openBeforeChoice_27 rfl (lv_at hl 3 rfl) ?_
        refine lv_iconst (v := 1) hx hb dX2_openBeforeChoice_28 (by decide) ?_
        refine lv_iadd hx hb dX2_openBeforeChoice_29 ?_
        obtain ⟨z_10, ez_10, hz_10⟩ := s_add (rfl : x.toInt = _) (show (1 : Int32).toInt = 1 from rfl) (by omega) (by omega)
        refine sj_i ez_10 ?_
        refine h_lald hx hb hK hH (lt_nK (by omega)) (kd_expr (t := 5) hj (by decide)) (s_vin (N := 61) (rfl : z_10.toInt = _) (ln_expr (t := 5) hj (by decide)) (by omega) (by omega)) dX2_openBeforeChoice_30 ?_
        refine lv_topl (fun z_11 ez_11 => ?_)
        refine lv_aload_n hx hb dX2_openBeforeChoice_31 rfl (lv_at hl 2 rfl) ?_
        refine lv_iload hx hb dX2_openBeforeChoice_32 (lv_at hl 0 rfl) ?_
        refine x_calli (va_runV (As := [.int u]) (rest := [.long z_11]) ⟨hx, hb, hml, hown, hts⟩ (k_choiceLength l D g ka ad i r L d j u hO hR H.size (by first | omega | decide) (by first | omega | decide) (by first | omega | decide)) (cwV 1 hts gX2_openBeforeChoice_X2_choiceLength rfl rfl rfl (by decide +kernel) ⟨(Nat.le_of_ble_eq_true rfl), (Nat.le_of_ble_eq_true rfl)⟩) (x_preV (q := (RX2, TX2, 11)) hH hK (q_obj (lt_nK (by omega)) (kd_expr (t := 0) hj (by decide)) (by decide)) rfl gxb (gxw hE hS (x_F hH hS hA))) rfl rfl hl.1 rfl (lv_room (Nat.le_of_ble_eq_true rfl)) dX2_openBeforeChoice_34 ⟨(Nat.le_of_ble_eq_true rfl), (Nat.le_of_ble_eq_true rfl)⟩) hH hS hA rfl rfl (fun r_12 _ H locs hw_13 hH hS => ?_)
        obtain ⟨hr_15, he_16⟩ := hw_13
        have hr_15 : (-60 : Int) ≤ r_12.toInt ∧ r_12.toInt ≤ 60 := hr_15
        refine lv_lushr hx hb dX2_openBeforeChoice_37 rfl ?_
        refine lv_topl (fun z_17 ez_17 => ?_)
        refine lv_lstore (lv' := [(6, .long z_17), (5, .int u), (3, .long b3), (0, .ref (g (240 + 9 * j))), (1, .int x), (2, .ref (g 14))]) hx hb dX2_openBeforeChoice_38 hl (by decide) rfl (fun ls hl => ?_)
        refine lv_iconst (v := 0) hx hb dX2_openBeforeChoice_40 (by decide) ?_
        refine lv_istore (lv' := [(8, .int 0), (6, .long z_17), (5, .int u), (3, .long b3), (0, .ref (g (240 + 9 * j))), (1, .int x), (2, .ref (g 14))]) hx hb dX2_openBeforeChoice_41 hl (by decide) rfl (fun ls hl => ?_)
        -- loop at 43
        have lp_18 : ∀ (fuel_lp_18 : Nat) (f : Int32) (b4 : Int64) (H : Heap) (locs : List Loc) (ls : Array Slot), (61 - f.toInt).toNat < fuel_lp_18 → (0 : Int) ≤ f.toInt ∧ f.toInt ≤ 61 → lv_has ls 9 [(8, .int f), (6, .long z_17), (5, .int u), (3, .long b4), (0, .ref (g (240 + 9 * j))), (1, .int x), (2, .ref (g 14))] → sj_H D A (hwc g ka i r L d) H → va_S A s.heap H locs → W p l e (headSpec wsX2_openBeforeChoice ({ frames := 2, cells := 0, slots := 0, locals := 45 })).room s m ([.ref (g (240 + 9 * j)), .int x, .ref (g 14)] : List Value).toArray below meth c H locs 0 0 (MQ below (sj_Ql (S := Unit) D (fun v u => True) (fun _ => hwc g ka i r L d) (fun _ => []) A) ([.ref (g (240 + 9 * j)), .int x, .ref (g 14)] : List Value).toArray s 0 0 A) (F0 m 43 ls []) := by
          intro fuel_lp_18
          induction fuel_lp_18 with
          | zero => intros; omega
          | succ fuel_lp_18 ih_lp_18 =>
            intro f b4 H locs ls hm hr_f hl hH hS
            refine lv_iload hx hb dX2_openBeforeChoice_43 (lv_at hl 0 rfl) ?_
            refine lv_aload_n hx hb dX2_openBeforeChoice_45 rfl (lv_at hl 6 rfl) ?_
            have bx_19 : (0 : Int) ≤ (i 14 1).toInt ∧ (i 14 1).toInt ≤ 60 := hO 14 1
            refine h_geti (ci := 3) (C := RX3) (F := TX3) (N := 2) hx hb hts in3 hown hK hH (by decide) (rfl : kd 14 = 3) (by decide) rfl 1 (by decide) wd2 (fun _ h9 => h9) (by decide) rfl dX2_openBeforeChoice_46 ?_
            refine lv_iconst (v := 1) hx hb dX2_openBeforeChoice_49 (by decide) ?_
            refine lv_iadd hx hb dX2_openBeforeChoice_50 ?_
            obtain ⟨z_20, ez_20, hz_20⟩ := s_add (rfl : (i 14 1).toInt = _) (show (1 : Int32).toInt = 1 from rfl) (by omega) (by omega)
            refine sj_i ez_20 ?_
            refine lv_icmp_ge (tgt := 101) hx hb dX2_openBeforeChoice_51 (by decide) (fun c_21 => ?_) (fun c_21 => ?_)
            · skip
              have h_22 := s_le (rfl : z_20.toInt = _) (rfl : f.toInt = _) c_21
              obtain ⟨z_23, ez_23, hz_23⟩ := s_add (rfl : u.toInt = _) (show (1 : Int32).toInt = 1 from rfl) (by omega) (by omega)
              refine lv_iinc (v := z_23) (lv' := [(5, .int z_23), (8, .int f), (6, .long z_17), (3, .long b4), (0, .ref (g (240 + 9 * j))), (1, .int x), (2, .ref (g 14))]) hx hb dX2_openBeforeChoice_101 hl (k := 2) rfl ez_23 (by decide) rfl (fun ls hl => ?_)
              refine lv_goto (tgt := 10) hx hb dX2_openBeforeChoice_104 (by decide) ?_
              exact ih_lp_3 z_23 b4 _ _ ls (by omega) (by omega) (lv_sub hl [0, 3, 4, 5, 6] rfl) hH hS
            · skip
              have h_24 := s_nle (rfl : z_20.toInt = _) (rfl : f.toInt = _) c_21
              refine lv_lload hx hb dX2_openBeforeChoice_54 (lv_at hl 1 rfl) ?_
              refine lv_iload hx hb dX2_openBeforeChoice_56 (lv_at hl 0 rfl) ?_
              refine lv_lushr hx hb dX2_openBeforeChoice_58 rfl ?_
              refine lv_topl (fun z_25 ez_25 => ?_)
              refine lv_lconst (v := 0) hx hb dX2_openBeforeChoice_59 (by decide) ?_
              refine sj_lcmp hx hb dX2_openBeforeChoice_60 ?_
              refine lv_topi (fun z_26 ez_26 => ?_)
              refine lv_if_eq (tgt := 101) hx hb dX2_openBeforeChoice_61 (by decide) (fun c_27 => ?_) (fun c_27 => ?_)
              · skip
                have h_28 := s_eq (rfl : z_26.toInt = _) (show (0 : Int32).toInt = 0 from rfl) c_27
                obtain ⟨z_29, ez_29, hz_29⟩ := s_add (rfl : u.toInt = _) (show (1 : Int32).toInt = 1 from rfl) (by omega) (by omega)
                refine lv_iinc (v := z_29) (lv' := [(5, .int z_29), (8, .int f), (6, .long z_17), (3, .long b4), (0, .ref (g (240 + 9 * j))), (1, .int x), (2, .ref (g 14))]) hx hb dX2_openBeforeChoice_101 hl (k := 2) rfl ez_29 (by decide) rfl (fun ls hl => ?_)
                refine lv_goto (tgt := 10) hx hb dX2_openBeforeChoice_104 (by decide) ?_
                exact ih_lp_3 z_29 b4 _ _ ls (by omega) (by omega) (lv_sub hl [0, 3, 4, 5, 6] rfl) hH hS
              · skip
                have h_30 := s_ne (rfl : z_26.toInt = _) (show (0 : Int32).toInt = 0 from rfl) c_27
                refine lv_lload hx hb dX2_openBeforeChoice_64 (lv_at hl 1 rfl) ?_
                refine lv_iload hx hb dX2_openBeforeChoice_66 (lv_at hl 0 rfl) ?_
                refine lv_lushr hx hb dX2_openBeforeChoice_68 rfl ?_
                refine lv_topl (fun z_31 ez_31 => ?_)
                refine lv_lconst (v := 1) hx hb dX2_openBeforeChoice_69 (by decide) ?_
                refine lv_land hx hb dX2_openBeforeChoice_70 ?_
                refine lv_topl (fun z_32 ez_32 => ?_)
                refine lv_lconst (v := 1) hx hb dX2_openBeforeChoice_71 (by decide) ?_
                refine sj_lcmp hx hb dX2_openBeforeChoice_72 ?_
                refine lv_topi (fun z_33 ez_33 => ?_)
                refine lv_if_ne (tgt := 95) hx hb dX2_openBeforeChoice_73 (by decide) (fun c_34 => ?_) (fun c_34 => ?_)
                · skip
                  have h_35 := s_ne (rfl : z_33.toInt = _) (show (0 : Int32).toInt = 0 from rfl) c_34
                  obtain ⟨z_36, ez_36, hz_36⟩ := s_add (rfl : f.toInt = _) (show (1 : Int32).toInt = 1 from rfl) (by omega) (by omega)
                  refine lv_iinc (v := z_36) (lv' := [(8, .int z_36), (6, .long z_17), (5, .int u), (3, .long b4), (0, .ref (g (240 + 9 * j))), (1, .int x), (2, .ref (g 14))]) hx hb dX2_openBeforeChoice_95 hl (k := 0) rfl ez_36 (by decide) rfl (fun ls hl => ?_)
                  refine lv_goto (tgt := 43) hx hb dX2_openBeforeChoice_98 (by decide) ?_
                  exact ih_lp_18 z_36 b4 _ _ ls (by omega) (by omega) (lv_sub hl [0, 1, 2, 3, 4, 5, 6] rfl) hH hS
                · skip
                  have h_37 := s_eq (rfl : z_33.toInt = _) (show (0 : Int32).toInt = 0 from rfl) c_34
                  refine lv_aload_n hx hb dX2_openBeforeChoice_76 rfl (lv_at hl 4 rfl) ?_
                  refine lv_iload hx hb dX2_openBeforeChoice_77 (lv_at hl 2 rfl) ?_
                  refine lv_aload_n hx hb dX2_openBeforeChoice_79 rfl (lv_at hl 6 rfl) ?_
                  refine lv_iload hx hb dX2_openBeforeChoice_80 (lv_at hl 0 rfl) ?_
                  refine x_calli (va_runV (As := [.int u, .ref (g 14), .int f]) (rest := []) ⟨hx, hb, hml, hown, hts⟩ (k_standsAt l D g ka ad i r L d j u f hO hR H.size (by first | omega | decide) (by first | omega | decide) (by first | omega | decide) (by first | omega | decide) (by first | omega | decide)) (cwV 3 hts gX2_openBeforeChoice_X2_standsAt rfl rfl rfl (by decide +kernel) ⟨(Nat.le_of_ble_eq_true rfl), (Nat.le_of_ble_eq_true rfl)⟩) (x_preV (q := (RX2, TX2, 11)) hH hK (q_obj (lt_nK (by omega)) (kd_expr (t := 0) hj (by decide)) (by decide)) rfl gxb (gxw hE hS (x_F hH hS hA))) rfl rfl hl.1 rfl (lv_room (Nat.le_of_ble_eq_true rfl)) dX2_openBeforeChoice_82 ⟨(Nat.le_of_ble_eq_true rfl), (Nat.le_of_ble_eq_true rfl)⟩) hH hS hA rfl rfl (fun r_38 _ H locs hw_39 hH hS => ?_)
                  have hr_41 := hw_39
                  have hr_41 : (0 : Int) ≤ r_38.toInt ∧ r_38.toInt ≤ 1 := hr_41
                  refine lv_if_eq (tgt := 95) hx hb dX2_openBeforeChoice_85 (by decide) (fun c_42 => ?_) (fun c_42 => ?_)
                  · skip
                    have h_43 := s_eq (rfl : r_38.toInt = _) (show (0 : Int32).toInt = 0 from rfl) c_42
                    obtain ⟨z_44, ez_44, hz_44⟩ := s_add (rfl : f.toInt = _) (show (1 : Int32).toInt = 1 from rfl) (by omega) (by omega)
                    refine lv_iinc (v := z_44) (lv' := [(8, .int z_44), (6, .long z_17), (5, .int u), (3, .long b4), (0, .ref (g (240 + 9 * j))), (1, .int x), (2, .ref (g 14))]) hx hb dX2_openBeforeChoice_95 hl (k := 0) rfl ez_44 (by decide) rfl (fun ls hl => ?_)
                    refine lv_goto (tgt := 43) hx hb dX2_openBeforeChoice_98 (by decide) ?_
                    exact ih_lp_18 z_44 b4 _ _ ls (by omega) (by omega) (lv_sub hl [0, 1, 2, 3, 4, 5, 6] rfl) hH hS
                  · skip
                    have h_45 := s_ne (rfl : r_38.toInt = _) (show (0 : Int32).toInt = 0 from rfl) c_42
                    refine lv_lload_n hx hb dX2_openBeforeChoice_88 rfl (lv_at hl 3 rfl) ?_
                    refine lv_lconst (v := 1) hx hb dX2_openBeforeChoice_89 (by decide) ?_
                    refine lv_iload hx hb dX2_openBeforeChoice_90 (lv_at hl 0 rfl) ?_
                    refine lv_lshl hx hb dX2_openBeforeChoice_92 rfl ?_
                    refine lv_topl (fun z_46 ez_46 => ?_)
                    refine lv_lor hx hb dX2_openBeforeChoice_93 ?_
                    refine lv_topl (fun z_47 ez_47 => ?_)
                    refine lv_lstore_n (lv' := [(3, .long z_47), (8, .int f), (6, .long z_17), (5, .int u), (0, .ref (g (240 + 9 * j))), (1, .int x), (2, .ref (g 14))]) hx hb dX2_openBeforeChoice_94 rfl hl (by decide) rfl (fun ls hl => ?_)
                    obtain ⟨z_48, ez_48, hz_48⟩ := s_add (rfl : f.toInt = _) (show (1 : Int32).toInt = 1 from rfl) (by omega) (by omega)
                    refine lv_iinc (v := z_48) (lv' := [(8, .int z_48), (3, .long z_47), (6, .long z_17), (5, .int u), (0, .ref (g (240 + 9 * j))), (1, .int x), (2, .ref (g 14))]) hx hb dX2_openBeforeChoice_95 hl (k := 1) rfl ez_48 (by decide) rfl (fun ls hl => ?_)
                    refine lv_goto (tgt := 43) hx hb dX2_openBeforeChoice_98 (by decide) ?_
                    exact ih_lp_18 z_48 z_47 _ _ ls (by omega) (by omega) (lv_sub hl [0, 2, 3, 1, 4, 5, 6] rfl) hH hS
        have hl_49 : (0 : Int32).toInt = 0 := rfl
        exact lp_18 _ 0 b3 _ _ ls (Nat.lt_succ_self _) (by omega) (lv_sub hl [0, 1, 2, 3, 4, 5, 6] rfl) hH hS
  exact lp_3 _ (i (240 + 9 * j + 4) (x.toInt).toNat) 0 _ _ ls (Nat.lt_succ_self _) (by omega) (lv_sub hl [0, 1, 2, 3, 4] rfl) hH hS
set_option maxHeartbeats 2000000 in
set_option maxRecDepth 100000 in
theorem k_openP (l : Launch) (D : va_G) (g : Nat → Nat) (ka : Nat → ClassId) (ad : Nat → Nat) (i : Nat → Nat → Int32) (r : Nat → Nat → Nat) (L : Nat → Nat → Int64) (d : Nat → Nat → UInt64) (j : Nat) (x : Int32) (hO : OkI i) (hR : RS r) (sz : Nat) (hj : j < 13) (hx0 : 0 ≤ x.toInt) (hx1 : x.toInt ≤ 59) : Met l yX2_openBeforeParameter wsX2_openBeforeParameter ({ frames := 2, cells := 0, slots := 0, locals := 51 }) (va_Pc [.ref (g (240 + 9 * j)), .int x, .ref (g 14)] (sj_B D (hwc g ka i r L d) (hT ka) sz (gx ad (va_A (hwc g ka i r L d) sz)))) (sj_Ql (S := Unit) D (fun v u => True) (fun _ => hwc g ka i r L d) (fun _ => []) (va_A (hwc g ka i r L d) sz)) 0 0 (va_A (hwc g ka i r L d) sz) := by
  refine x_met (Ex := gx ad) (cc := cX2_openBeforeParameter) (maxL := 6) (ret := (some .long)) (by decide) rfl (Nat.le_of_ble_eq_true rfl) ?_
  intro p e s m below meth c A ls hx hb hr hml hts hown hlocks hA hS hH hK hE hl
  have hown : s.vm.findClass RX2 = some m.cls := hown
  have in2 : ∀ w ∈ wsX20, w ∈ wsX2_openBeforeParameter := (fun _ h => (List.mem_cons_of_mem _ (List.mem_append_right _ h)))
  have in3 : ∀ w ∈ wsX30, w ∈ wsX2_openBeforeParameter := (fun _ h => (List.mem_cons_of_mem _ (List.mem_append_left _ (List.mem_append_right _ h))))
  have wd0 := hts (.fieldLink RX2 48 "StoryDesk$Letters" "length" "I") (List.mem_cons_of_mem _ (List.mem_append_left _ (List.mem_append_left _ (List.mem_append_left _ lm0))))
  have wd1 := hts (.fieldLink RX2 19 "StoryDesk$Expression" "kinds" "[C") (List.mem_cons_of_mem _ (List.mem_append_left _ (List.mem_append_left _ (List.mem_append_left _ lm1))))
  have wd2 := hts (.fieldLink RX2 25 "StoryDesk$Expression" "open" "[J") (List.mem_cons_of_mem _ (List.mem_append_left _ (List.mem_append_left _ (List.mem_append_left _ lm2))))
  have hl : lv_has ls 6 [(0, .ref (g (240 + 9 * j))), (1, .int x), (2, .ref (g 14))] := hl
  have hK : va_K D vwCl (hT ka) s := hK
  refine lv_lconst (v := 0) hx hb dX2_openBeforeParameter_0 (by decide) ?_
  refine lv_lstore_n (lv' := [(3, .long 0), (0, .ref (g (240 + 9 * j))), (1, .int x), (2, .ref (g 14))]) hx hb dX2_openBeforeParameter_1 rfl hl (by decide) rfl (fun ls hl => ?_)
  refine lv_iconst (v := 0) hx hb dX2_openBeforeParameter_2 (by decide) ?_
  refine lv_istore (lv' := [(5, .int 0), (3, .long 0), (0, .ref (g (240 + 9 * j))), (1, .int x), (2, .ref (g 14))]) hx hb dX2_openBeforeParameter_3 hl (by decide) rfl (fun ls hl => ?_)
  -- loop at 5
  have lp_1 : ∀ (fuel_lp_1 : Nat) (f : Int32) (b3 : Int64) (H : Heap) (locs : List Loc) (ls : Array Slot), (60 - f.toInt).toNat < fuel_lp_1 → (0 : Int) ≤ f.toInt ∧ f.toInt ≤ 60 → lv_has ls 6 [(5, .int f), (3, .long b3), (0, .ref (g (240 + 9 * j))), (1, .int x), (2, .ref (g 14))] → sj_H D A (hwc g ka i r L d) H → va_S A s.heap H locs → W p l e (headSpec wsX2_openBeforeParameter ({ frames := 2, cells := 0, slots := 0, locals := 51 })).room s m ([.ref (g (240 + 9 * j)), .int x, .ref (g 14)] : List Value).toArray below meth c H locs 0 0 (MQ below (sj_Ql (S := Unit) D (fun v u => True) (fun _ => hwc g ka i r L d) (fun _ => []) A) ([.ref (g (240 + 9 * j)), .int x, .ref (g 14)] : List Value).toArray s 0 0 A) (F0 m 5 ls []) := by
    intro fuel_lp_1
    induction fuel_lp_1 with
    | zero => intros; omega
    | succ fuel_lp_1 ih_lp_1 =>
      intro f b3 H locs ls hm hr_f hl hH hS
      refine lv_iload hx hb dX2_openBeforeParameter_5 (lv_at hl 0 rfl) ?_
      refine lv_aload_n hx hb dX2_openBeforeParameter_7 rfl (lv_at hl 4 rfl) ?_
      have bx_2 : (0 : Int) ≤ (i 14 1).toInt ∧ (i 14 1).toInt ≤ 60 := hO 14 1
      refine h_geti (ci := 3) (C := RX3) (F := TX3) (N := 2) hx hb hts in3 hown hK hH (by decide) (rfl : kd 14 = 3) (by decide) rfl 1 (by decide) wd0 (fun _ h9 => h9) (by decide) rfl dX2_openBeforeParameter_8 ?_
      refine lv_icmp_ge (tgt := 54) hx hb dX2_openBeforeParameter_11 (by decide) (fun c_3 => ?_) (fun c_3 => ?_)
      · skip
        have h_4 := s_le (rfl : (i 14 1).toInt = _) (rfl : f.toInt = _) c_3
        refine lv_lload_n hx hb dX2_openBeforeParameter_54 rfl (lv_at hl 1 rfl) ?_
        exact sj_lret hx hb hr hlocks hS () trivial hH (sj_Knil hK) (Nat.le_of_ble_eq_true rfl) (Nat.le_of_ble_eq_true rfl) dX2_openBeforeParameter_55
      · skip
        have h_5 := s_nle (rfl : (i 14 1).toInt = _) (rfl : f.toInt = _) c_3
        refine lv_aload_n hx hb dX2_openBeforeParameter_14 rfl (lv_at hl 2 rfl) ?_
        refine lv_aload_n hx hb dX2_openBeforeParameter_15 rfl (lv_at hl 2 rfl) ?_
        refine h_getr (ci := 2) (C := RX2) (F := TX2) (N := 11) hx hb hts in2 hown hK hH (lt_nK (by omega)) (kd_expr (t := 0) hj (by decide)) (by decide) rfl 3 (by decide) wd1 (fun _ h9 => h9) (by decide) rfl (t := (240 + 9 * j + 3)) ((hR _ _ (by unfold dyn; simp <;> omega)).trans (sr_expr (by omega) (by omega))) (lt_nK (by omega)) dX2_openBeforeParameter_16 ?_
        refine lv_iload_n hx hb dX2_openBeforeParameter_19 rfl (lv_at hl 3 rfl) ?_
        have bx_6 : (0 : Int) ≤ (i (240 + 9 * j + 3) (x.toInt).toNat).toInt ∧ (i (240 + 9 * j + 3) (x.toInt).toNat).toInt ≤ 65535 := by have h9 := hO (240 + 9 * j + 3) (x.toInt).toNat; rw [bx_expr (t := 3) hj (by decide) (by decide) (x.toInt).toNat] at h9; exact h9
        refine h_cald hx hb hK hH (lt_nK (by omega)) (kd_expr (t := 3) hj (by decide)) (s_vin (N := 60) (rfl : x.toInt = _) (ln_expr (t := 3) hj (by decide)) (by omega) (by omega)) dX2_openBeforeParameter_20 ?_
        have ek_7 : x.toNatClampNeg = (x.toInt).toNat := (s_cl (show x.toInt = x.toInt by omega))
        refine sj_i (y := (i (240 + 9 * j + 3) (x.toInt).toNat)) (by rw [ek_7]) ?_
        refine lv_aload_n hx hb dX2_openBeforeParameter_21 rfl (lv_at hl 4 rfl) ?_
        refine lv_iload hx hb dX2_openBeforeParameter_22 (lv_at hl 0 rfl) ?_
        refine x_calll (va_runV (As := [.int (i (240 + 9 * j + 3) (x.toInt).toNat), .ref (g 14), .int f]) (rest := []) ⟨hx, hb, hml, hown, hts⟩ (k_endsOf l D g ka ad i r L d j (i (240 + 9 * j + 3) (x.toInt).toNat) f hO hR H.size (by first | omega | decide) (by first | omega | decide) (by first | omega | decide)) (cwV 3 hts gX2_openBeforeParameter_X2_endsOf rfl rfl rfl (by decide +kernel) ⟨(Nat.le_of_ble_eq_true rfl), (Nat.le_of_ble_eq_true rfl)⟩) (x_preV (q := (RX2, TX2, 11)) hH hK (q_obj (lt_nK (by omega)) (kd_expr (t := 0) hj (by decide)) (by decide)) rfl gxb (gxw hE hS (x_F hH hS hA))) rfl rfl hl.1 rfl (lv_room (Nat.le_of_ble_eq_true rfl)) dX2_openBeforeParameter_24 ⟨(Nat.le_of_ble_eq_true rfl), (Nat.le_of_ble_eq_true rfl)⟩) hH hS hA rfl rfl (fun r_8 _ H locs hw_9 hH hS => ?_)
        refine lv_aload_n hx hb dX2_openBeforeParameter_27 rfl (lv_at hl 2 rfl) ?_
        refine h_getr (ci := 2) (C := RX2) (F := TX2) (N := 11) hx hb hts in2 hown hK hH (lt_nK (by omega)) (kd_expr (t := 0) hj (by decide)) (by decide) rfl 7 (by decide) wd2 (fun _ h9 => h9) (by decide) rfl (t := (240 + 9 * j + 5)) ((hR _ _ (by unfold dyn; simp <;> omega)).trans (sr_expr (by omega) (by omega))) (lt_nK (by omega)) dX2_openBeforeParameter_28 ?_
        refine lv_iload_n hx hb dX2_openBeforeParameter_31 rfl (lv_at hl 3 rfl) ?_
        refine lv_iconst (v := 1) hx hb dX2_openBeforeParameter_32 (by decide) ?_
        refine lv_iadd hx hb dX2_openBeforeParameter_33 ?_
        obtain ⟨z_11, ez_11, hz_11⟩ := s_add (rfl : x.toInt = _) (show (1 : Int32).toInt = 1 from rfl) (by omega) (by omega)
        refine sj_i ez_11 ?_
        refine h_lald hx hb hK hH (lt_nK (by omega)) (kd_expr (t := 5) hj (by decide)) (s_vin (N := 61) (rfl : z_11.toInt = _) (ln_expr (t := 5) hj (by decide)) (by omega) (by omega)) dX2_openBeforeParameter_34 ?_
        refine lv_topl (fun z_12 ez_12 => ?_)
        refine lv_land hx hb dX2_openBeforeParameter_35 ?_
        refine lv_topl (fun z_13 ez_13 => ?_)
        refine lv_lconst (v := 0) hx hb dX2_openBeforeParameter_36 (by decide) ?_
        refine sj_lcmp hx hb dX2_openBeforeParameter_37 ?_
        refine lv_topi (fun z_14 ez_14 => ?_)
        refine lv_if_eq (tgt := 48) hx hb dX2_openBeforeParameter_38 (by decide) (fun c_15 => ?_) (fun c_15 => ?_)
        · skip
          have h_16 := s_eq (rfl : z_14.toInt = _) (show (0 : Int32).toInt = 0 from rfl) c_15
          obtain ⟨z_17, ez_17, hz_17⟩ := s_add (rfl : f.toInt = _) (show (1 : Int32).toInt = 1 from rfl) (by omega) (by omega)
          refine lv_iinc (v := z_17) (lv' := [(5, .int z_17), (3, .long b3), (0, .ref (g (240 + 9 * j))), (1, .int x), (2, .ref (g 14))]) hx hb dX2_openBeforeParameter_48 hl (k := 0) rfl ez_17 (by decide) rfl (fun ls hl => ?_)
          refine lv_goto (tgt := 5) hx hb dX2_openBeforeParameter_51 (by decide) ?_
          exact ih_lp_1 z_17 b3 _ _ ls (by omega) (by omega) (lv_sub hl [0, 1, 2, 3, 4] rfl) hH hS
        · skip
          have h_18 := s_ne (rfl : z_14.toInt = _) (show (0 : Int32).toInt = 0 from rfl) c_15
          refine lv_lload_n hx hb dX2_openBeforeParameter_41 rfl (lv_at hl 1 rfl) ?_
          refine lv_lconst (v := 1) hx hb dX2_openBeforeParameter_42 (by decide) ?_
          refine lv_iload hx hb dX2_openBeforeParameter_43 (lv_at hl 0 rfl) ?_
          refine lv_lshl hx hb dX2_openBeforeParameter_45 rfl ?_
          refine lv_topl (fun z_19 ez_19 => ?_)
          refine lv_lor hx hb dX2_openBeforeParameter_46 ?_
          refine lv_topl (fun z_20 ez_20 => ?_)
          refine lv_lstore_n (lv' := [(3, .long z_20), (5, .int f), (0, .ref (g (240 + 9 * j))), (1, .int x), (2, .ref (g 14))]) hx hb dX2_openBeforeParameter_47 rfl hl (by decide) rfl (fun ls hl => ?_)
          obtain ⟨z_21, ez_21, hz_21⟩ := s_add (rfl : f.toInt = _) (show (1 : Int32).toInt = 1 from rfl) (by omega) (by omega)
          refine lv_iinc (v := z_21) (lv' := [(5, .int z_21), (3, .long z_20), (0, .ref (g (240 + 9 * j))), (1, .int x), (2, .ref (g 14))]) hx hb dX2_openBeforeParameter_48 hl (k := 1) rfl ez_21 (by decide) rfl (fun ls hl => ?_)
          refine lv_goto (tgt := 5) hx hb dX2_openBeforeParameter_51 (by decide) ?_
          exact ih_lp_1 z_21 z_20 _ _ ls (by omega) (by omega) (lv_sub hl [0, 1, 2, 3, 4] rfl) hH hS
  have hl_22 : (0 : Int32).toInt = 0 := rfl
  exact lp_1 _ 0 0 _ _ ls (Nat.lt_succ_self _) (by omega) (lv_sub hl [0, 1, 2, 3, 4] rfl) hH hS
set_option maxHeartbeats 2000000 in
set_option maxRecDepth 100000 in
theorem k_fits (l : Launch) (D : va_G) (g : Nat → Nat) (ka : Nat → ClassId) (ad : Nat → Nat) (i : Nat → Nat → Int32) (r : Nat → Nat → Nat) (L : Nat → Nat → Int64) (d : Nat → Nat → UInt64) (j : Nat) (hO : OkI i) (hR : RS r) (sz : Nat) (hj : j < 13) : Met l yX2_fits wsX2_fits ({ frames := 3, cells := 0, slots := 0, locals := 76 }) (va_Pc [.ref (g (240 + 9 * j)), .ref (g 14)] (sj_B D (hwc g ka i r L d) (hT ka) sz (gx ad (va_A (hwc g ka i r L d) sz)))) (sj_Qi (S := (Nat → Nat → Int64)) D (fun v u => ((0 : Int) ≤ v.toInt ∧ v.toInt ≤ 1)) (fun u => hwc g ka i r u d) (fun _ => []) (va_A (hwc g ka i r L d) sz)) 0 0 (va_A (hwc g ka i r L d) sz) := by
  refine x_met (Ex := gx ad) (cc := cX2_fits) (maxL := 3) (ret := (some .boolean)) (by decide) rfl (Nat.le_of_ble_eq_true rfl) ?_
  intro p e s m below meth c A ls hx hb hr hml hts hown hlocks hA hS hH hK hE hl
  have hown : s.vm.findClass RX2 = some m.cls := hown
  have in2 : ∀ w ∈ wsX20, w ∈ wsX2_fits := (fun _ h => (List.mem_cons_of_mem _ (List.mem_append_left _ (List.mem_append_right _ h))))
  have in3 : ∀ w ∈ wsX30, w ∈ wsX2_fits := (fun _ h => (List.mem_cons_of_mem _ (List.mem_append_right _ h)))
  have wd0 := hts (.fieldLink RX2 25 "StoryDesk$Expression" "open" "[J") (List.mem_cons_of_mem _ (List.mem_append_left _ (List.mem_append_left _ (List.mem_append_left _ lm0))))
  have wd1 := hts (.fieldLink RX2 38 "StoryDesk$Expression" "elements" "I") (List.mem_cons_of_mem _ (List.mem_append_left _ (List.mem_append_left _ (List.mem_append_left _ lm1))))
  have wd2 := hts (.fieldLink RX2 48 "StoryDesk$Letters" "length" "I") (List.mem_cons_of_mem _ (List.mem_append_left _ (List.mem_append_left _ (List.mem_append_left _ lm2))))
  have wd3 := hts (.fieldLink RX2 19 "StoryDesk$Expression" "kinds" "[C") (List.mem_cons_of_mem _ (List.mem_append_left _ (List.mem_append_left _ (List.mem_append_left _ lm3))))
  have hl : lv_has ls 3 [(0, .ref (g (240 + 9 * j))), (1, .ref (g 14))] := hl
  have hK : va_K D vwCl (hT ka) s := hK
  refine lv_aload_n hx hb dX2_fits_0 rfl (lv_at hl 0 rfl) ?_
  refine h_getr (ci := 2) (C := RX2) (F := TX2) (N := 11) hx hb hts in2 hown hK hH (lt_nK (by omega)) (kd_expr (t := 0) hj (by decide)) (by decide) rfl 7 (by decide) wd0 (fun _ h9 => h9) (by decide) rfl (t := (240 + 9 * j + 5)) ((hR _ _ (by unfold dyn; simp <;> omega)).trans (sr_expr (by omega) (by omega))) (lt_nK (by omega)) dX2_fits_1 ?_
  refine lv_aload_n hx hb dX2_fits_4 rfl (lv_at hl 0 rfl) ?_
  have bx_1 : (0 : Int) ≤ (i (240 + 9 * j) 5).toInt ∧ (i (240 + 9 * j) 5).toInt ≤ 60 := by have h9 := hO (240 + 9 * j) 5; rw [bx_expr0 hj 5] at h9; exact h9
  refine h_geti (ci := 2) (C := RX2) (F := TX2) (N := 11) hx hb hts in2 hown hK hH (lt_nK (by omega)) (kd_expr (t := 0) hj (by decide)) (by decide) rfl 5 (by decide) wd1 (fun _ h9 => h9) (by decide) rfl dX2_fits_5 ?_
  refine lv_lconst (v := 1) hx hb dX2_fits_8 (by decide) ?_
  refine lv_aload_n hx hb dX2_fits_9 rfl (lv_at hl 1 rfl) ?_
  have bx_2 : (0 : Int) ≤ (i 14 1).toInt ∧ (i 14 1).toInt ≤ 60 := hO 14 1
  refine h_geti (ci := 3) (C := RX3) (F := TX3) (N := 2) hx hb hts in3 hown hK hH (by decide) (rfl : kd 14 = 3) (by decide) rfl 1 (by decide) wd2 (fun _ h9 => h9) (by decide) rfl dX2_fits_10 ?_
  refine lv_lshl hx hb dX2_fits_13 rfl ?_
  refine lv_topl (fun z_3 ez_3 => ?_)
  refine h_last hx hb hK hH hS (lt_nK (by omega)) (kd_expr (t := 5) hj (by decide)) (s_vin (N := 61) (rfl : (i (240 + 9 * j) 5).toInt = _) (ln_expr (t := 5) hj (by decide)) (by omega) (by omega)) dX2_fits_14 (fun H locs hH hS => ?_)
  refine lv_aload_n hx hb dX2_fits_15 rfl (lv_at hl 0 rfl) ?_
  refine h_geti (ci := 2) (C := RX2) (F := TX2) (N := 11) hx hb hts in2 hown hK hH (lt_nK (by omega)) (kd_expr (t := 0) hj (by decide)) (by decide) rfl 5 (by decide) wd1 (fun _ h9 => h9) (by decide) rfl dX2_fits_16 ?_
  refine lv_iconst (v := 1) hx hb dX2_fits_19 (by decide) ?_
  refine lv_isub hx hb dX2_fits_20 ?_
  obtain ⟨z_4, ez_4, hz_4⟩ := s_sub (rfl : (i (240 + 9 * j) 5).toInt = _) (show (1 : Int32).toInt = 1 from rfl) (by omega) (by omega)
  refine sj_i ez_4 ?_
  refine lv_istore_n (lv' := [(2, .int z_4), (0, .ref (g (240 + 9 * j))), (1, .ref (g 14))]) hx hb dX2_fits_21 rfl hl (by decide) rfl (fun ls hl => ?_)
  -- loop at 22
  have lp_5 : ∀ (fuel_lp_5 : Nat) (f : Int32) (Lv_6 : Nat → Nat → Int64) (H : Heap) (locs : List Loc) (ls : Array Slot), (f.toInt + 1).toNat < fuel_lp_5 → (-1 : Int) ≤ f.toInt ∧ f.toInt ≤ 59 → lv_has ls 3 [(2, .int f), (0, .ref (g (240 + 9 * j))), (1, .ref (g 14))] → sj_H D A (hwc g ka i r Lv_6 d) H → va_S A s.heap H locs → W p l e (headSpec wsX2_fits ({ frames := 3, cells := 0, slots := 0, locals := 76 })).room s m ([.ref (g (240 + 9 * j)), .ref (g 14)] : List Value).toArray below meth c H locs 0 0 (MQ below (sj_Qi (S := (Nat → Nat → Int64)) D (fun v u => ((0 : Int) ≤ v.toInt ∧ v.toInt ≤ 1)) (fun u => hwc g ka i r u d) (fun _ => []) A) ([.ref (g (240 + 9 * j)), .ref (g 14)] : List Value).toArray s 0 0 A) (F0 m 22 ls []) := by
    intro fuel_lp_5
    induction fuel_lp_5 with
    | zero => intros; omega
    | succ fuel_lp_5 ih_lp_5 =>
      intro f Lv_6 H locs ls hm hr_f hl hH hS
      refine lv_iload_n hx hb dX2_fits_22 rfl (lv_at hl 0 rfl) ?_
      refine lv_if_lt (tgt := 77) hx hb dX2_fits_23 (by decide) (fun c_7 => ?_) (fun c_7 => ?_)
      · skip
        have h_8 := s_lt (rfl : f.toInt = _) (show (0 : Int32).toInt = 0 from rfl) c_7
        refine lv_aload_n hx hb dX2_fits_77 rfl (lv_at hl 1 rfl) ?_
        refine h_getr (ci := 2) (C := RX2) (F := TX2) (N := 11) hx hb hts in2 hown hK hH (lt_nK (by omega)) (kd_expr (t := 0) hj (by decide)) (by decide) rfl 7 (by decide) wd0 (fun _ h9 => h9) (by decide) rfl (t := (240 + 9 * j + 5)) ((hR _ _ (by unfold dyn; simp <;> omega)).trans (sr_expr (by omega) (by omega))) (lt_nK (by omega)) dX2_fits_78 ?_
        refine lv_iconst (v := 0) hx hb dX2_fits_81 (by decide) ?_
        refine h_lald hx hb hK hH (lt_nK (by omega)) (kd_expr (t := 5) hj (by decide)) (s_vin (N := 61) (show (0 : Int32).toInt = 0 from rfl) (ln_expr (t := 5) hj (by decide)) (by omega) (by omega)) dX2_fits_82 ?_
        refine lv_topl (fun z_9 ez_9 => ?_)
        refine lv_lconst (v := 1) hx hb dX2_fits_83 (by decide) ?_
        refine lv_land hx hb dX2_fits_84 ?_
        refine lv_topl (fun z_10 ez_10 => ?_)
        refine lv_lconst (v := 1) hx hb dX2_fits_85 (by decide) ?_
        refine sj_lcmp hx hb dX2_fits_86 ?_
        refine lv_topi (fun z_11 ez_11 => ?_)
        refine lv_if_ne (tgt := 94) hx hb dX2_fits_87 (by decide) (fun c_12 => ?_) (fun c_12 => ?_)
        · skip
          have h_13 := s_ne (rfl : z_11.toInt = _) (show (0 : Int32).toInt = 0 from rfl) c_12
          refine lv_iconst (v := 0) hx hb dX2_fits_94 (by decide) ?_
          exact sj_zret hx hb hr hlocks (by decide +kernel) hS Lv_6 ⟨by decide, by decide⟩ hH (sj_Knil hK) (Nat.le_of_ble_eq_true rfl) (Nat.le_of_ble_eq_true rfl) dX2_fits_95
        · skip
          have h_14 := s_eq (rfl : z_11.toInt = _) (show (0 : Int32).toInt = 0 from rfl) c_12
          refine lv_iconst (v := 1) hx hb dX2_fits_90 (by decide) ?_
          refine lv_goto (tgt := 95) hx hb dX2_fits_91 (by decide) ?_
          exact sj_zret hx hb hr hlocks (by decide +kernel) hS Lv_6 ⟨by decide, by decide⟩ hH (sj_Knil hK) (Nat.le_of_ble_eq_true rfl) (Nat.le_of_ble_eq_true rfl) dX2_fits_95
      · skip
        have h_15 := s_nlt (rfl : f.toInt = _) (show (0 : Int32).toInt = 0 from rfl) c_7
        refine lv_aload_n hx hb dX2_fits_26 rfl (lv_at hl 1 rfl) ?_
        refine h_getr (ci := 2) (C := RX2) (F := TX2) (N := 11) hx hb hts in2 hown hK hH (lt_nK (by omega)) (kd_expr (t := 0) hj (by decide)) (by decide) rfl 7 (by decide) wd0 (fun _ h9 => h9) (by decide) rfl (t := (240 + 9 * j + 5)) ((hR _ _ (by unfold dyn; simp <;> omega)).trans (sr_expr (by omega) (by omega))) (lt_nK (by omega)) dX2_fits_27 ?_
        refine lv_iload_n hx hb dX2_fits_30 rfl (lv_at hl 0 rfl) ?_
        refine lv_aload_n hx hb dX2_fits_31 rfl (lv_at hl 1 rfl) ?_
        refine h_getr (ci := 2) (C := RX2) (F := TX2) (N := 11) hx hb hts in2 hown hK hH (lt_nK (by omega)) (kd_expr (t := 0) hj (by decide)) (by decide) rfl 3 (by decide) wd3 (fun _ h9 => h9) (by decide) rfl (t := (240 + 9 * j + 3)) ((hR _ _ (by unfold dyn; simp <;> omega)).trans (sr_expr (by omega) (by omega))) (lt_nK (by omega)) dX2_fits_32 ?_
        refine lv_iload_n hx hb dX2_fits_35 rfl (lv_at hl 0 rfl) ?_
        have bx_16 : (0 : Int) ≤ (i (240 + 9 * j + 3) (f.toInt).toNat).toInt ∧ (i (240 + 9 * j + 3) (f.toInt).toNat).toInt ≤ 65535 := by have h9 := hO (240 + 9 * j + 3) (f.toInt).toNat; rw [bx_expr (t := 3) hj (by decide) (by decide) (f.toInt).toNat] at h9; exact h9
        refine h_cald hx hb hK hH (lt_nK (by omega)) (kd_expr (t := 3) hj (by decide)) (s_vin (N := 60) (rfl : f.toInt = _) (ln_expr (t := 3) hj (by decide)) (by omega) (by omega)) dX2_fits_36 ?_
        have ek_17 : f.toNatClampNeg = (f.toInt).toNat := (s_cl (show f.toInt = f.toInt by omega))
        refine sj_i (y := (i (240 + 9 * j + 3) (f.toInt).toNat)) (by rw [ek_17]) ?_
        refine lv_bipush (v := 47) hx hb dX2_fits_37 (by decide) ?_
        refine lv_icmp_ne (tgt := 51) hx hb dX2_fits_39 (by decide) (fun c_18 => ?_) (fun c_18 => ?_)
        · skip
          have h_19 := s_ne (rfl : (i (240 + 9 * j + 3) (f.toInt).toNat).toInt = _) (show (47 : Int32).toInt = 47 from rfl) c_18
          refine lv_aload_n hx hb dX2_fits_51 rfl (lv_at hl 1 rfl) ?_
          refine lv_iload_n hx hb dX2_fits_52 rfl (lv_at hl 0 rfl) ?_
          refine lv_aload_n hx hb dX2_fits_53 rfl (lv_at hl 2 rfl) ?_
          refine x_calll (va_runV (As := [.int f, .ref (g 14)]) (rest := [.int f, .ref (g (240 + 9 * j + 5))]) ⟨hx, hb, hml, hown, hts⟩ (k_openP l D g ka ad i r Lv_6 d j f hO hR H.size (by first | omega | decide) (by first | omega | decide) (by first | omega | decide)) (cwV 2 hts gX2_fits_X2_openBeforeParameter rfl rfl rfl (by decide +kernel) ⟨(Nat.le_of_ble_eq_true rfl), (Nat.le_of_ble_eq_true rfl)⟩) (x_preV (q := (RX2, TX2, 11)) hH hK (q_obj (lt_nK (by omega)) (kd_expr (t := 0) hj (by decide)) (by decide)) rfl gxb (gxw hE hS (x_F hH hS hA))) rfl rfl hl.1 rfl (lv_room (Nat.le_of_ble_eq_true rfl)) dX2_fits_54 ⟨(Nat.le_of_ble_eq_true rfl), (Nat.le_of_ble_eq_true rfl)⟩) hH hS hA rfl rfl (fun r_20 _ H locs hw_21 hH hS => ?_)
          refine h_last hx hb hK hH hS (lt_nK (by omega)) (kd_expr (t := 5) hj (by decide)) (s_vin (N := 61) (rfl : f.toInt = _) (ln_expr (t := 5) hj (by decide)) (by omega) (by omega)) dX2_fits_57 (fun H locs hH hS => ?_)
          refine lv_aload_n hx hb dX2_fits_58 rfl (lv_at hl 1 rfl) ?_
          refine h_getr (ci := 2) (C := RX2) (F := TX2) (N := 11) hx hb hts in2 hown hK hH (lt_nK (by omega)) (kd_expr (t := 0) hj (by decide)) (by decide) rfl 7 (by decide) wd0 (fun _ h9 => h9) (by decide) rfl (t := (240 + 9 * j + 5)) ((hR _ _ (by unfold dyn; simp <;> omega)).trans (sr_expr (by omega) (by omega))) (lt_nK (by omega)) dX2_fits_59 ?_
          refine lv_iload_n hx hb dX2_fits_62 rfl (lv_at hl 0 rfl) ?_
          refine h_lald hx hb hK hH (lt_nK (by omega)) (kd_expr (t := 5) hj (by decide)) (s_vin (N := 61) (rfl : f.toInt = _) (ln_expr (t := 5) hj (by decide)) (by omega) (by omega)) dX2_fits_63 ?_
          refine lv_topl (fun z_23 ez_23 => ?_)
          refine lv_lconst (v := 0) hx hb dX2_fits_64 (by decide) ?_
          refine sj_lcmp hx hb dX2_fits_65 ?_
          refine lv_topi (fun z_24 ez_24 => ?_)
          refine lv_if_ne (tgt := 71) hx hb dX2_fits_66 (by decide) (fun c_25 => ?_) (fun c_25 => ?_)
          · skip
            have h_26 := s_ne (rfl : z_24.toInt = _) (show (0 : Int32).toInt = 0 from rfl) c_25
            obtain ⟨z_27, ez_27, hz_27⟩ := s_add (rfl : f.toInt = _) (show ((-1) : Int32).toInt = (-1) from rfl) (by omega) (by omega)
            refine lv_iinc (v := z_27) (lv' := [(2, .int z_27), (0, .ref (g (240 + 9 * j))), (1, .ref (g 14))]) hx hb dX2_fits_71 hl (k := 0) rfl ez_27 (by decide) rfl (fun ls hl => ?_)
            refine lv_goto (tgt := 22) hx hb dX2_fits_74 (by decide) ?_
            exact ih_lp_5 z_27 _ _ _ ls (by omega) (by omega) (lv_sub hl [0, 1, 2] rfl) hH hS
          · skip
            have h_28 := s_eq (rfl : z_24.toInt = _) (show (0 : Int32).toInt = 0 from rfl) c_25
            refine lv_iconst (v := 0) hx hb dX2_fits_69 (by decide) ?_
            exact sj_zret hx hb hr hlocks (by decide +kernel) hS (upl Lv_6 (240 + 9 * j + 5) f.toNatClampNeg r_20) ⟨by decide, by decide⟩ hH (sj_Knil hK) (Nat.le_of_ble_eq_true rfl) (Nat.le_of_ble_eq_true rfl) dX2_fits_70
        · skip
          have h_29 := s_eq (rfl : (i (240 + 9 * j + 3) (f.toInt).toNat).toInt = _) (show (47 : Int32).toInt = 47 from rfl) c_18
          refine lv_aload_n hx hb dX2_fits_42 rfl (lv_at hl 1 rfl) ?_
          refine lv_iload_n hx hb dX2_fits_43 rfl (lv_at hl 0 rfl) ?_
          refine lv_aload_n hx hb dX2_fits_44 rfl (lv_at hl 2 rfl) ?_
          refine x_calll (va_runV (As := [.int f, .ref (g 14)]) (rest := [.int f, .ref (g (240 + 9 * j + 5))]) ⟨hx, hb, hml, hown, hts⟩ (k_openC l D g ka ad i r Lv_6 d j f hO hR H.size (by first | omega | decide) (by first | omega | decide) (by first | omega | decide)) (cwV 2 hts gX2_fits_X2_openBeforeChoice rfl rfl rfl (by decide +kernel) ⟨(Nat.le_of_ble_eq_true rfl), (Nat.le_of_ble_eq_true rfl)⟩) (x_preV (q := (RX2, TX2, 11)) hH hK (q_obj (lt_nK (by omega)) (kd_expr (t := 0) hj (by decide)) (by decide)) rfl gxb (gxw hE hS (x_F hH hS hA))) rfl rfl hl.1 rfl (lv_room (Nat.le_of_ble_eq_true rfl)) dX2_fits_45 ⟨(Nat.le_of_ble_eq_true rfl), (Nat.le_of_ble_eq_true rfl)⟩) hH hS hA rfl rfl (fun r_30 _ H locs hw_31 hH hS => ?_)
          refine lv_goto (tgt := 57) hx hb dX2_fits_48 (by decide) ?_
          refine h_last hx hb hK hH hS (lt_nK (by omega)) (kd_expr (t := 5) hj (by decide)) (s_vin (N := 61) (rfl : f.toInt = _) (ln_expr (t := 5) hj (by decide)) (by omega) (by omega)) dX2_fits_57 (fun H locs hH hS => ?_)
          refine lv_aload_n hx hb dX2_fits_58 rfl (lv_at hl 1 rfl) ?_
          refine h_getr (ci := 2) (C := RX2) (F := TX2) (N := 11) hx hb hts in2 hown hK hH (lt_nK (by omega)) (kd_expr (t := 0) hj (by decide)) (by decide) rfl 7 (by decide) wd0 (fun _ h9 => h9) (by decide) rfl (t := (240 + 9 * j + 5)) ((hR _ _ (by unfold dyn; simp <;> omega)).trans (sr_expr (by omega) (by omega))) (lt_nK (by omega)) dX2_fits_59 ?_
          refine lv_iload_n hx hb dX2_fits_62 rfl (lv_at hl 0 rfl) ?_
          refine h_lald hx hb hK hH (lt_nK (by omega)) (kd_expr (t := 5) hj (by decide)) (s_vin (N := 61) (rfl : f.toInt = _) (ln_expr (t := 5) hj (by decide)) (by omega) (by omega)) dX2_fits_63 ?_
          refine lv_topl (fun z_33 ez_33 => ?_)
          refine lv_lconst (v := 0) hx hb dX2_fits_64 (by decide) ?_
          refine sj_lcmp hx hb dX2_fits_65 ?_
          refine lv_topi (fun z_34 ez_34 => ?_)
          refine lv_if_ne (tgt := 71) hx hb dX2_fits_66 (by decide) (fun c_35 => ?_) (fun c_35 => ?_)
          · skip
            have h_36 := s_ne (rfl : z_34.toInt = _) (show (0 : Int32).toInt = 0 from rfl) c_35
            obtain ⟨z_37, ez_37, hz_37⟩ := s_add (rfl : f.toInt = _) (show ((-1) : Int32).toInt = (-1) from rfl) (by omega) (by omega)
            refine lv_iinc (v := z_37) (lv' := [(2, .int z_37), (0, .ref (g (240 + 9 * j))), (1, .ref (g 14))]) hx hb dX2_fits_71 hl (k := 0) rfl ez_37 (by decide) rfl (fun ls hl => ?_)
            refine lv_goto (tgt := 22) hx hb dX2_fits_74 (by decide) ?_
            exact ih_lp_5 z_37 _ _ _ ls (by omega) (by omega) (lv_sub hl [0, 1, 2] rfl) hH hS
          · skip
            have h_38 := s_eq (rfl : z_34.toInt = _) (show (0 : Int32).toInt = 0 from rfl) c_35
            refine lv_iconst (v := 0) hx hb dX2_fits_69 (by decide) ?_
            exact sj_zret hx hb hr hlocks (by decide +kernel) hS (upl Lv_6 (240 + 9 * j + 5) f.toNatClampNeg r_30) ⟨by decide, by decide⟩ hH (sj_Knil hK) (Nat.le_of_ble_eq_true rfl) (Nat.le_of_ble_eq_true rfl) dX2_fits_70
  exact lp_5 _ z_4 _ _ _ ls (Nat.lt_succ_self _) (by omega) (lv_sub hl [0, 1, 2] rfl) hH hS
set_option maxHeartbeats 2000000 in
set_option maxRecDepth 100000 in
theorem k_endOfChoice (l : Launch) (D : va_G) (g : Nat → Nat) (ka : Nat → ClassId) (ad : Nat → Nat) (i : Nat → Nat → Int32) (r : Nat → Nat → Nat) (L : Nat → Nat → Int64) (d : Nat → Nat → UInt64) (j : Nat) (x : Int32) (y : Int32) (hO : OkI i) (hR : RS r) (sz : Nat) (hj : j < 13) (hM : mono i j) (hxe : x.toInt < (i (240 + 9 * j) 5).toInt) (hx0 : 0 ≤ x.toInt) (hx1 : x.toInt ≤ 59) (hy0 : 0 ≤ y.toInt) (hy1 : y.toInt ≤ 60) : Met l yX2_endOfChoice wsX2_endOfChoice ({ frames := 2, cells := 0, slots := 0, locals := 45 }) (va_Pc [.ref (g (240 + 9 * j)), .int x, .ref (g 14), .int y] (sj_B D (hwc g ka i r L d) (hT ka) sz (gx ad (va_A (hwc g ka i r L d) sz)))) (sj_Qi (S := Unit) D (fun v u => ((0 : Int) ≤ v.toInt ∧ v.toInt ≤ 60)) (fun _ => hwc g ka i r L d) (fun _ => []) (va_A (hwc g ka i r L d) sz)) 0 0 (va_A (hwc g ka i r L d) sz) := by
  refine x_met (Ex := gx ad) (cc := cX2_endOfChoice) (maxL := 6) (ret := (some .int)) (by decide) rfl (Nat.le_of_ble_eq_true rfl) ?_
  intro p e s m below meth c A ls hx hb hr hml hts hown hlocks hA hS hH hK hE hl
  have hown : s.vm.findClass RX2 = some m.cls := hown
  have in2 : ∀ w ∈ wsX20, w ∈ wsX2_endOfChoice := (fun _ h => (List.mem_cons_of_mem _ (List.mem_append_left _ (List.mem_append_right _ h))))
  have in3 : ∀ w ∈ wsX30, w ∈ wsX2_endOfChoice := (fun _ h => (List.mem_cons_of_mem _ (List.mem_append_right _ h)))
  have wd0 := hts (.fieldLink RX2 22 "StoryDesk$Expression" "firstChoices" "[I") (List.mem_cons_of_mem _ (List.mem_append_left _ (List.mem_append_left _ lm0)))
  have wd1 := hts (.fieldLink RX2 48 "StoryDesk$Letters" "length" "I") (List.mem_cons_of_mem _ (List.mem_append_left _ (List.mem_append_left _ lm1)))
  have wd2 := hts (.fieldLink RX2 25 "StoryDesk$Expression" "open" "[J") (List.mem_cons_of_mem _ (List.mem_append_left _ (List.mem_append_left _ lm2)))
  have hl : lv_has ls 6 [(0, .ref (g (240 + 9 * j))), (1, .int x), (2, .ref (g 14)), (3, .int y)] := hl
  have hK : va_K D vwCl (hT ka) s := hK
  refine lv_aload_n hx hb dX2_endOfChoice_0 rfl (lv_at hl 0 rfl) ?_
  refine h_getr (ci := 2) (C := RX2) (F := TX2) (N := 11) hx hb hts in2 hown hK hH (lt_nK (by omega)) (kd_expr (t := 0) hj (by decide)) (by decide) rfl 4 (by decide) wd0 (fun _ h9 => h9) (by decide) rfl (t := (240 + 9 * j + 4)) ((hR _ _ (by unfold dyn; simp <;> omega)).trans (sr_expr (by omega) (by omega))) (lt_nK (by omega)) dX2_endOfChoice_1 ?_
  refine lv_iload_n hx hb dX2_endOfChoice_4 rfl (lv_at hl 1 rfl) ?_
  have bx_1 : (0 : Int) ≤ (i (240 + 9 * j + 4) (x.toInt).toNat).toInt ∧ (i (240 + 9 * j + 4) (x.toInt).toNat).toInt ≤ 61 := by have h9 := hO (240 + 9 * j + 4) (x.toInt).toNat; rw [bx_expr (t := 4) hj (by decide) (by decide) (x.toInt).toNat] at h9; exact h9
  refine h_iald hx hb hK hH (lt_nK (by omega)) (kd_expr (t := 4) hj (by decide)) (s_vin (N := 61) (rfl : x.toInt = _) (ln_expr (t := 4) hj (by decide)) (by omega) (by omega)) dX2_endOfChoice_5 ?_
  have ek_2 : x.toNatClampNeg = (x.toInt).toNat := (s_cl (show x.toInt = x.toInt by omega))
  refine sj_i (y := (i (240 + 9 * j + 4) (x.toInt).toNat)) (by rw [ek_2]) ?_
  refine lv_istore (lv' := [(4, .int (i (240 + 9 * j + 4) (x.toInt).toNat)), (0, .ref (g (240 + 9 * j))), (1, .int x), (2, .ref (g 14)), (3, .int y)]) hx hb dX2_endOfChoice_6 hl (by decide) rfl (fun ls hl => ?_)
  -- loop at 8
  have lp_3 : ∀ (fuel_lp_3 : Nat) (u : Int32) (H : Heap) (locs : List Loc) (ls : Array Slot), (61 - u.toInt).toNat < fuel_lp_3 → (0 : Int) ≤ u.toInt ∧ u.toInt ≤ 61 → lv_has ls 6 [(4, .int u), (0, .ref (g (240 + 9 * j))), (1, .int x), (2, .ref (g 14)), (3, .int y)] → sj_H D A (hwc g ka i r L d) H → va_S A s.heap H locs → W p l e (headSpec wsX2_endOfChoice ({ frames := 2, cells := 0, slots := 0, locals := 45 })).room s m ([.ref (g (240 + 9 * j)), .int x, .ref (g 14), .int y] : List Value).toArray below meth c H locs 0 0 (MQ below (sj_Qi (S := Unit) D (fun v u => ((0 : Int) ≤ v.toInt ∧ v.toInt ≤ 60)) (fun _ => hwc g ka i r L d) (fun _ => []) A) ([.ref (g (240 + 9 * j)), .int x, .ref (g 14), .int y] : List Value).toArray s 0 0 A) (F0 m 8 ls []) := by
    intro fuel_lp_3
    induction fuel_lp_3 with
    | zero => intros; omega
    | succ fuel_lp_3 ih_lp_3 =>
      intro u H locs ls hm hr_u hl hH hS
      refine lv_iload hx hb dX2_endOfChoice_8 (lv_at hl 0 rfl) ?_
      refine lv_aload_n hx hb dX2_endOfChoice_10 rfl (lv_at hl 1 rfl) ?_
      refine h_getr (ci := 2) (C := RX2) (F := TX2) (N := 11) hx hb hts in2 hown hK hH (lt_nK (by omega)) (kd_expr (t := 0) hj (by decide)) (by decide) rfl 4 (by decide) wd0 (fun _ h9 => h9) (by decide) rfl (t := (240 + 9 * j + 4)) ((hR _ _ (by unfold dyn; simp <;> omega)).trans (sr_expr (by omega) (by omega))) (lt_nK (by omega)) dX2_endOfChoice_11 ?_
      refine lv_iload_n hx hb dX2_endOfChoice_14 rfl (lv_at hl 2 rfl) ?_
      refine lv_iconst (v := 1) hx hb dX2_endOfChoice_15 (by decide) ?_
      refine lv_iadd hx hb dX2_endOfChoice_16 ?_
      obtain ⟨z_4, ez_4, hz_4⟩ := s_add (rfl : x.toInt = _) (show (1 : Int32).toInt = 1 from rfl) (by omega) (by omega)
      refine sj_i ez_4 ?_
      have bx_5 : (0 : Int) ≤ (i (240 + 9 * j + 4) (x.toInt + 1).toNat).toInt ∧ (i (240 + 9 * j + 4) (x.toInt + 1).toNat).toInt ≤ 61 := by have h9 := hO (240 + 9 * j + 4) (x.toInt + 1).toNat; rw [bx_expr (t := 4) hj (by decide) (by decide) (x.toInt + 1).toNat] at h9; exact h9
      have hm_6 := hM.2 (x.toInt + 1).toNat (by omega) (by omega)
      refine h_iald hx hb hK hH (lt_nK (by omega)) (kd_expr (t := 4) hj (by decide)) (s_vin (N := 61) (rfl : z_4.toInt = _) (ln_expr (t := 4) hj (by decide)) (by omega) (by omega)) dX2_endOfChoice_17 ?_
      have ek_7 : z_4.toNatClampNeg = (x.toInt + 1).toNat := (s_cl (show z_4.toInt = x.toInt + 1 by omega))
      refine sj_i (y := (i (240 + 9 * j + 4) (x.toInt + 1).toNat)) (by rw [ek_7]) ?_
      refine lv_icmp_ge (tgt := 78) hx hb dX2_endOfChoice_18 (by decide) (fun c_8 => ?_) (fun c_8 => ?_)
      · skip
        have h_9 := s_le (rfl : (i (240 + 9 * j + 4) (x.toInt + 1).toNat).toInt = _) (rfl : u.toInt = _) c_8
        refine lv_iload_n hx hb dX2_endOfChoice_78 rfl (lv_at hl 4 rfl) ?_
        exact sj_zret hx hb hr hlocks rfl hS () ⟨by omega, by omega⟩ hH (sj_Knil hK) (Nat.le_of_ble_eq_true rfl) (Nat.le_of_ble_eq_true rfl) dX2_endOfChoice_79
      · skip
        have h_10 := s_nle (rfl : (i (240 + 9 * j + 4) (x.toInt + 1).toNat).toInt = _) (rfl : u.toInt = _) c_8
        refine lv_iload_n hx hb dX2_endOfChoice_21 rfl (lv_at hl 4 rfl) ?_
        refine lv_aload_n hx hb dX2_endOfChoice_22 rfl (lv_at hl 1 rfl) ?_
        refine lv_iload hx hb dX2_endOfChoice_23 (lv_at hl 0 rfl) ?_
        refine x_calli (va_runV (As := [.int u]) (rest := [.int y]) ⟨hx, hb, hml, hown, hts⟩ (k_choiceLength l D g ka ad i r L d j u hO hR H.size (by first | omega | decide) (by first | omega | decide) (by first | omega | decide)) (cwV 1 hts gX2_endOfChoice_X2_choiceLength rfl rfl rfl (by decide +kernel) ⟨(Nat.le_of_ble_eq_true rfl), (Nat.le_of_ble_eq_true rfl)⟩) (x_preV (q := (RX2, TX2, 11)) hH hK (q_obj (lt_nK (by omega)) (kd_expr (t := 0) hj (by decide)) (by decide)) rfl gxb (gxw hE hS (x_F hH hS hA))) rfl rfl hl.1 rfl (lv_room (Nat.le_of_ble_eq_true rfl)) dX2_endOfChoice_25 ⟨(Nat.le_of_ble_eq_true rfl), (Nat.le_of_ble_eq_true rfl)⟩) hH hS hA rfl rfl (fun r_11 _ H locs hw_12 hH hS => ?_)
        obtain ⟨hr_14, he_15⟩ := hw_12
        have hr_14 : (-60 : Int) ≤ r_11.toInt ∧ r_11.toInt ≤ 60 := hr_14
        have hm_16 := hM.1 (u.toInt).toNat (by omega)
        rw [show (u.toInt).toNat + 1 = (u.toInt + 1).toNat by omega] at hm_16
        refine lv_iadd hx hb dX2_endOfChoice_28 ?_
        obtain ⟨z_17, ez_17, hz_17⟩ := s_add (rfl : y.toInt = _) (rfl : r_11.toInt = _) (by omega) (by omega)
        refine sj_i ez_17 ?_
        refine lv_istore (lv' := [(5, .int z_17), (4, .int u), (0, .ref (g (240 + 9 * j))), (1, .int x), (2, .ref (g 14)), (3, .int y)]) hx hb dX2_endOfChoice_29 hl (by decide) rfl (fun ls hl => ?_)
        refine lv_iload hx hb dX2_endOfChoice_31 (lv_at hl 0 rfl) ?_
        refine lv_aload_n hx hb dX2_endOfChoice_33 rfl (lv_at hl 4 rfl) ?_
        have bx_18 : (0 : Int) ≤ (i 14 1).toInt ∧ (i 14 1).toInt ≤ 60 := hO 14 1
        refine h_geti (ci := 3) (C := RX3) (F := TX3) (N := 2) hx hb hts in3 hown hK hH (by decide) (rfl : kd 14 = 3) (by decide) rfl 1 (by decide) wd1 (fun _ h9 => h9) (by decide) rfl dX2_endOfChoice_34 ?_
        refine lv_icmp_gt (tgt := 72) hx hb dX2_endOfChoice_37 (by decide) (fun c_19 => ?_) (fun c_19 => ?_)
        · skip
          have h_20 := s_lt (rfl : (i 14 1).toInt = _) (rfl : z_17.toInt = _) c_19
          obtain ⟨z_21, ez_21, hz_21⟩ := s_add (rfl : u.toInt = _) (show (1 : Int32).toInt = 1 from rfl) (by omega) (by omega)
          refine lv_iinc (v := z_21) (lv' := [(4, .int z_21), (5, .int z_17), (0, .ref (g (240 + 9 * j))), (1, .int x), (2, .ref (g 14)), (3, .int y)]) hx hb dX2_endOfChoice_72 hl (k := 1) rfl ez_21 (by decide) rfl (fun ls hl => ?_)
          refine lv_goto (tgt := 8) hx hb dX2_endOfChoice_75 (by decide) ?_
          exact ih_lp_3 z_21 _ _ ls (by omega) (by omega) (lv_sub hl [0, 2, 3, 4, 5] rfl) hH hS
        · skip
          have h_22 := s_nlt (rfl : (i 14 1).toInt = _) (rfl : z_17.toInt = _) c_19
          refine lv_aload_n hx hb dX2_endOfChoice_40 rfl (lv_at hl 2 rfl) ?_
          refine h_getr (ci := 2) (C := RX2) (F := TX2) (N := 11) hx hb hts in2 hown hK hH (lt_nK (by omega)) (kd_expr (t := 0) hj (by decide)) (by decide) rfl 7 (by decide) wd2 (fun _ h9 => h9) (by decide) rfl (t := (240 + 9 * j + 5)) ((hR _ _ (by unfold dyn; simp <;> omega)).trans (sr_expr (by omega) (by omega))) (lt_nK (by omega)) dX2_endOfChoice_41 ?_
          refine lv_iload_n hx hb dX2_endOfChoice_44 rfl (lv_at hl 3 rfl) ?_
          refine lv_iconst (v := 1) hx hb dX2_endOfChoice_45 (by decide) ?_
          refine lv_iadd hx hb dX2_endOfChoice_46 ?_
          obtain ⟨z_23, ez_23, hz_23⟩ := s_add (rfl : x.toInt = _) (show (1 : Int32).toInt = 1 from rfl) (by omega) (by omega)
          refine sj_i ez_23 ?_
          refine h_lald hx hb hK hH (lt_nK (by omega)) (kd_expr (t := 5) hj (by decide)) (s_vin (N := 61) (rfl : z_23.toInt = _) (ln_expr (t := 5) hj (by decide)) (by omega) (by omega)) dX2_endOfChoice_47 ?_
          refine lv_topl (fun z_24 ez_24 => ?_)
          refine lv_iload hx hb dX2_endOfChoice_48 (lv_at hl 0 rfl) ?_
          refine lv_lushr hx hb dX2_endOfChoice_50 rfl ?_
          refine lv_topl (fun z_25 ez_25 => ?_)
          refine lv_lconst (v := 1) hx hb dX2_endOfChoice_51 (by decide) ?_
          refine lv_land hx hb dX2_endOfChoice_52 ?_
          refine lv_topl (fun z_26 ez_26 => ?_)
          refine lv_lconst (v := 1) hx hb dX2_endOfChoice_53 (by decide) ?_
          refine sj_lcmp hx hb dX2_endOfChoice_54 ?_
          refine lv_topi (fun z_27 ez_27 => ?_)
          refine lv_if_ne (tgt := 72) hx hb dX2_endOfChoice_55 (by decide) (fun c_28 => ?_) (fun c_28 => ?_)
          · skip
            have h_29 := s_ne (rfl : z_27.toInt = _) (show (0 : Int32).toInt = 0 from rfl) c_28
            obtain ⟨z_30, ez_30, hz_30⟩ := s_add (rfl : u.toInt = _) (show (1 : Int32).toInt = 1 from rfl) (by omega) (by omega)
            refine lv_iinc (v := z_30) (lv' := [(4, .int z_30), (5, .int z_17), (0, .ref (g (240 + 9 * j))), (1, .int x), (2, .ref (g 14)), (3, .int y)]) hx hb dX2_endOfChoice_72 hl (k := 1) rfl ez_30 (by decide) rfl (fun ls hl => ?_)
            refine lv_goto (tgt := 8) hx hb dX2_endOfChoice_75 (by decide) ?_
            exact ih_lp_3 z_30 _ _ ls (by omega) (by omega) (lv_sub hl [0, 2, 3, 4, 5] rfl) hH hS
          · skip
            have h_31 := s_eq (rfl : z_27.toInt = _) (show (0 : Int32).toInt = 0 from rfl) c_28
            refine lv_aload_n hx hb dX2_endOfChoice_58 rfl (lv_at hl 2 rfl) ?_
            refine lv_iload hx hb dX2_endOfChoice_59 (lv_at hl 1 rfl) ?_
            refine lv_aload_n hx hb dX2_endOfChoice_61 rfl (lv_at hl 4 rfl) ?_
            refine lv_iload_n hx hb dX2_endOfChoice_62 rfl (lv_at hl 5 rfl) ?_
            refine x_calli (va_runV (As := [.int u, .ref (g 14), .int y]) (rest := []) ⟨hx, hb, hml, hown, hts⟩ (k_standsAt l D g ka ad i r L d j u y hO hR H.size (by first | omega | decide) (by first | omega | decide) (by first | omega | decide) (by first | omega | decide) (by first | omega | decide)) (cwV 3 hts gX2_endOfChoice_X2_standsAt rfl rfl rfl (by decide +kernel) ⟨(Nat.le_of_ble_eq_true rfl), (Nat.le_of_ble_eq_true rfl)⟩) (x_preV (q := (RX2, TX2, 11)) hH hK (q_obj (lt_nK (by omega)) (kd_expr (t := 0) hj (by decide)) (by decide)) rfl gxb (gxw hE hS (x_F hH hS hA))) rfl rfl hl.1 rfl (lv_room (Nat.le_of_ble_eq_true rfl)) dX2_endOfChoice_63 ⟨(Nat.le_of_ble_eq_true rfl), (Nat.le_of_ble_eq_true rfl)⟩) hH hS hA rfl rfl (fun r_32 _ H locs hw_33 hH hS => ?_)
            have hr_35 := hw_33
            have hr_35 : (0 : Int) ≤ r_32.toInt ∧ r_32.toInt ≤ 1 := hr_35
            refine lv_if_eq (tgt := 72) hx hb dX2_endOfChoice_66 (by decide) (fun c_36 => ?_) (fun c_36 => ?_)
            · skip
              have h_37 := s_eq (rfl : r_32.toInt = _) (show (0 : Int32).toInt = 0 from rfl) c_36
              obtain ⟨z_38, ez_38, hz_38⟩ := s_add (rfl : u.toInt = _) (show (1 : Int32).toInt = 1 from rfl) (by omega) (by omega)
              refine lv_iinc (v := z_38) (lv' := [(4, .int z_38), (5, .int z_17), (0, .ref (g (240 + 9 * j))), (1, .int x), (2, .ref (g 14)), (3, .int y)]) hx hb dX2_endOfChoice_72 hl (k := 1) rfl ez_38 (by decide) rfl (fun ls hl => ?_)
              refine lv_goto (tgt := 8) hx hb dX2_endOfChoice_75 (by decide) ?_
              exact ih_lp_3 z_38 _ _ ls (by omega) (by omega) (lv_sub hl [0, 2, 3, 4, 5] rfl) hH hS
            · skip
              have h_39 := s_ne (rfl : r_32.toInt = _) (show (0 : Int32).toInt = 0 from rfl) c_36
              refine lv_iload hx hb dX2_endOfChoice_69 (lv_at hl 0 rfl) ?_
              exact sj_zret hx hb hr hlocks rfl hS () ⟨by omega, by omega⟩ hH (sj_Knil hK) (Nat.le_of_ble_eq_true rfl) (Nat.le_of_ble_eq_true rfl) dX2_endOfChoice_71
  exact lp_3 _ (i (240 + 9 * j + 4) (x.toInt).toNat) _ _ ls (Nat.lt_succ_self _) (by omega) (lv_sub hl [0, 1, 2, 3, 4] rfl) hH hS
set_option maxHeartbeats 2000000 in
set_option maxRecDepth 100000 in
theorem k_last (l : Launch) (D : va_G) (g : Nat → Nat) (ka : Nat → ClassId) (ad : Nat → Nat) (i : Nat → Nat → Int32) (r : Nat → Nat → Nat) (L : Nat → Nat → Int64) (d : Nat → Nat → UInt64) (j : Nat) (b : Int64) (hO : OkI i) (hR : RS r) (sz : Nat) (hj : j < 13) : Met l yX2_last wsX2_last ({ frames := 0, cells := 0, slots := 0, locals := 0 }) (va_Pc [.ref (g (240 + 9 * j)), .long b] (sj_B D (hwc g ka i r L d) (hT ka) sz (gx ad (va_A (hwc g ka i r L d) sz)))) (sj_Qi (S := Unit) D (fun v u => ((0 : Int) ≤ v.toInt ∧ v.toInt ≤ 60)) (fun _ => hwc g ka i r L d) (fun _ => []) (va_A (hwc g ka i r L d) sz)) 0 0 (va_A (hwc g ka i r L d) sz) := by
  refine x_met (Ex := gx ad) (cc := cX2_last) (maxL := 4) (ret := (some .int)) (by decide) rfl (Nat.le_of_ble_eq_true rfl) ?_
  intro p e s m below meth c A ls hx hb hr hml hts hown hlocks hA hS hH hK hE hl
  have hown : s.vm.findClass RX2 = some m.cls := hown
  have hl : lv_has ls 4 [(0, .ref (g (240 + 9 * j))), (1, .long b)] := hl
  have hK : va_K D vwCl (hT ka) s := hK
  refine lv_bipush (v := 60) hx hb dX2_last_0 (by decide) ?_
  refine lv_istore_n (lv' := [(3, .int 60), (0, .ref (g (240 + 9 * j))), (1, .long b)]) hx hb dX2_last_2 rfl hl (by decide) rfl (fun ls hl => ?_)
  -- loop at 3
  have lp_1 : ∀ (fuel_lp_1 : Nat) (f : Int32) (H : Heap) (locs : List Loc) (ls : Array Slot), (f.toInt).toNat < fuel_lp_1 → (0 : Int) ≤ f.toInt ∧ f.toInt ≤ 60 → lv_has ls 4 [(3, .int f), (0, .ref (g (240 + 9 * j))), (1, .long b)] → sj_H D A (hwc g ka i r L d) H → va_S A s.heap H locs → W p l e (headSpec wsX2_last ({ frames := 0, cells := 0, slots := 0, locals := 0 })).room s m ([.ref (g (240 + 9 * j)), .long b] : List Value).toArray below meth c H locs 0 0 (MQ below (sj_Qi (S := Unit) D (fun v u => ((0 : Int) ≤ v.toInt ∧ v.toInt ≤ 60)) (fun _ => hwc g ka i r L d) (fun _ => []) A) ([.ref (g (240 + 9 * j)), .long b] : List Value).toArray s 0 0 A) (F0 m 3 ls []) := by
    intro fuel_lp_1
    induction fuel_lp_1 with
    | zero => intros; omega
    | succ fuel_lp_1 ih_lp_1 =>
      intro f H locs ls hm hr_f hl hH hS
      refine lv_iload_n hx hb dX2_last_3 rfl (lv_at hl 0 rfl) ?_
      refine lv_if_le (tgt := 25) hx hb dX2_last_4 (by decide) (fun c_2 => ?_) (fun c_2 => ?_)
      · skip
        have h_3 := s_le (rfl : f.toInt = _) (show (0 : Int32).toInt = 0 from rfl) c_2
        refine lv_iconst (v := 0) hx hb dX2_last_25 (by decide) ?_
        exact sj_zret hx hb hr hlocks rfl hS () ⟨by decide, by decide⟩ hH (sj_Knil hK) (Nat.le_of_ble_eq_true rfl) (Nat.le_of_ble_eq_true rfl) dX2_last_26
      · skip
        have h_4 := s_nle (rfl : f.toInt = _) (show (0 : Int32).toInt = 0 from rfl) c_2
        refine lv_lload_n hx hb dX2_last_7 rfl (lv_at hl 2 rfl) ?_
        refine lv_iload_n hx hb dX2_last_8 rfl (lv_at hl 0 rfl) ?_
        refine lv_lushr hx hb dX2_last_9 rfl ?_
        refine lv_topl (fun z_5 ez_5 => ?_)
        refine lv_lconst (v := 1) hx hb dX2_last_10 (by decide) ?_
        refine lv_land hx hb dX2_last_11 ?_
        refine lv_topl (fun z_6 ez_6 => ?_)
        refine lv_lconst (v := 1) hx hb dX2_last_12 (by decide) ?_
        refine sj_lcmp hx hb dX2_last_13 ?_
        refine lv_topi (fun z_7 ez_7 => ?_)
        refine lv_if_ne (tgt := 19) hx hb dX2_last_14 (by decide) (fun c_8 => ?_) (fun c_8 => ?_)
        · skip
          have h_9 := s_ne (rfl : z_7.toInt = _) (show (0 : Int32).toInt = 0 from rfl) c_8
          obtain ⟨z_10, ez_10, hz_10⟩ := s_add (rfl : f.toInt = _) (show ((-1) : Int32).toInt = (-1) from rfl) (by omega) (by omega)
          refine lv_iinc (v := z_10) (lv' := [(3, .int z_10), (0, .ref (g (240 + 9 * j))), (1, .long b)]) hx hb dX2_last_19 hl (k := 0) rfl ez_10 (by decide) rfl (fun ls hl => ?_)
          refine lv_goto (tgt := 3) hx hb dX2_last_22 (by decide) ?_
          exact ih_lp_1 z_10 _ _ ls (by omega) (by omega) (lv_sub hl [0, 1, 2] rfl) hH hS
        · skip
          have h_11 := s_eq (rfl : z_7.toInt = _) (show (0 : Int32).toInt = 0 from rfl) c_8
          refine lv_iload_n hx hb dX2_last_17 rfl (lv_at hl 0 rfl) ?_
          exact sj_zret hx hb hr hlocks rfl hS () ⟨by omega, by omega⟩ hH (sj_Knil hK) (Nat.le_of_ble_eq_true rfl) (Nat.le_of_ble_eq_true rfl) dX2_last_18
  have hl_12 : (60 : Int32).toInt = 60 := rfl
  exact lp_1 _ 60 _ _ ls (Nat.lt_succ_self _) (by omega) (lv_sub hl [0, 1, 2] rfl) hH hS
set_option maxHeartbeats 2000000 in
set_option maxRecDepth 100000 in
theorem k_hasArg (l : Launch) (D : va_G) (g : Nat → Nat) (ka : Nat → ClassId) (ad : Nat → Nat) (i : Nat → Nat → Int32) (r : Nat → Nat → Nat) (L : Nat → Nat → Int64) (d : Nat → Nat → UInt64) (j : Nat) (x : Int32) (hO : OkI i) (hR : RS r) (sz : Nat) (hj : j < 13) : Met l yX2_hasArgument wsX2_hasArgument ({ frames := 0, cells := 0, slots := 0, locals := 0 }) (va_Pc [.ref (g (240 + 9 * j)), .int x] (sj_B D (hwc g ka i r L d) (hT ka) sz (gx ad (va_A (hwc g ka i r L d) sz)))) (sj_Qi (S := Unit) D (fun v u => ((0 : Int) ≤ v.toInt ∧ v.toInt ≤ 1) ∧ (v.toInt = 1 → (0 ≤ x.toInt ∧ x.toInt < (i (240 + 9 * j) 6).toInt ∧ (i (240 + 9 * j) 6).toInt ≤ 6))) (fun _ => hwc g ka i r L d) (fun _ => []) (va_A (hwc g ka i r L d) sz)) 0 0 (va_A (hwc g ka i r L d) sz) := by
  refine x_met (Ex := gx ad) (cc := cX2_hasArgument) (maxL := 2) (ret := (some .boolean)) (by decide) rfl (Nat.le_of_ble_eq_true rfl) ?_
  intro p e s m below meth c A ls hx hb hr hml hts hown hlocks hA hS hH hK hE hl
  have hown : s.vm.findClass RX2 = some m.cls := hown
  have in2 : ∀ w ∈ wsX20, w ∈ wsX2_hasArgument := (fun _ h => (List.mem_cons_of_mem _ (List.mem_append_right _ h)))
  have wd0 := hts (.fieldLink RX2 45 "StoryDesk$Expression" "parameters" "I") (List.mem_cons_of_mem _ (List.mem_append_left _ lm0))
  have hl : lv_has ls 2 [(0, .ref (g (240 + 9 * j))), (1, .int x)] := hl
  have hK : va_K D vwCl (hT ka) s := hK
  have hg_1 := s_rng x
  refine lv_iload_n hx hb dX2_hasArgument_0 rfl (lv_at hl 1 rfl) ?_
  refine lv_if_lt (tgt := 16) hx hb dX2_hasArgument_1 (by decide) (fun c_2 => ?_) (fun c_2 => ?_)
  · skip
    have h_3 := s_lt (rfl : x.toInt = _) (show (0 : Int32).toInt = 0 from rfl) c_2
    refine lv_iconst (v := 0) hx hb dX2_hasArgument_16 (by decide) ?_
    have hlv_4 : (0 : Int32).toInt = 0 := rfl
    exact sj_zret hx hb hr hlocks (by decide +kernel) hS () ⟨⟨by decide, by decide⟩, (by omega)⟩ hH (sj_Knil hK) (Nat.le_of_ble_eq_true rfl) (Nat.le_of_ble_eq_true rfl) dX2_hasArgument_17
  · skip
    have h_5 := s_nlt (rfl : x.toInt = _) (show (0 : Int32).toInt = 0 from rfl) c_2
    refine lv_iload_n hx hb dX2_hasArgument_4 rfl (lv_at hl 1 rfl) ?_
    refine lv_aload_n hx hb dX2_hasArgument_5 rfl (lv_at hl 0 rfl) ?_
    have bx_6 : (0 : Int) ≤ (i (240 + 9 * j) 6).toInt ∧ (i (240 + 9 * j) 6).toInt ≤ 6 := by have h9 := hO (240 + 9 * j) 6; rw [bx_expr0 hj 6] at h9; exact h9
    refine h_geti (ci := 2) (C := RX2) (F := TX2) (N := 11) hx hb hts in2 hown hK hH (lt_nK (by omega)) (kd_expr (t := 0) hj (by decide)) (by decide) rfl 6 (by decide) wd0 (fun _ h9 => h9) (by decide) rfl dX2_hasArgument_6 ?_
    refine lv_icmp_ge (tgt := 16) hx hb dX2_hasArgument_9 (by decide) (fun c_7 => ?_) (fun c_7 => ?_)
    · skip
      have h_8 := s_le (rfl : (i (240 + 9 * j) 6).toInt = _) (rfl : x.toInt = _) c_7
      refine lv_iconst (v := 0) hx hb dX2_hasArgument_16 (by decide) ?_
      have hlv_9 : (0 : Int32).toInt = 0 := rfl
      exact sj_zret hx hb hr hlocks (by decide +kernel) hS () ⟨⟨by decide, by decide⟩, (by omega)⟩ hH (sj_Knil hK) (Nat.le_of_ble_eq_true rfl) (Nat.le_of_ble_eq_true rfl) dX2_hasArgument_17
    · skip
      have h_10 := s_nle (rfl : (i (240 + 9 * j) 6).toInt = _) (rfl : x.toInt = _) c_7
      refine lv_iconst (v := 1) hx hb dX2_hasArgument_12 (by decide) ?_
      refine lv_goto (tgt := 17) hx hb dX2_hasArgument_13 (by decide) ?_
      have hlv_11 : (1 : Int32).toInt = 1 := rfl
      exact sj_zret hx hb hr hlocks (by decide +kernel) hS () ⟨⟨by decide, by decide⟩, (by omega)⟩ hH (sj_Knil hK) (Nat.le_of_ble_eq_true rfl) (Nat.le_of_ble_eq_true rfl) dX2_hasArgument_17
set_option maxHeartbeats 2000000 in
set_option maxRecDepth 100000 in
theorem k_hasNum (l : Launch) (D : va_G) (g : Nat → Nat) (ka : Nat → ClassId) (ad : Nat → Nat) (i : Nat → Nat → Int32) (r : Nat → Nat → Nat) (L : Nat → Nat → Int64) (d : Nat → Nat → UInt64) (j : Nat) (x : Int32) (hO : OkI i) (hR : RS r) (sz : Nat) (hj : j < 13) : Met l yX2_hasNumber wsX2_hasNumber ({ frames := 1, cells := 0, slots := 0, locals := 21 }) (va_Pc [.ref (g (240 + 9 * j)), .int x] (sj_B D (hwc g ka i r L d) (hT ka) sz (gx ad (va_A (hwc g ka i r L d) sz)))) (sj_Qi (S := Unit) D (fun v u => ((0 : Int) ≤ v.toInt ∧ v.toInt ≤ 1) ∧ (v.toInt = 1 → (0 ≤ x.toInt ∧ x.toInt < (i (240 + 9 * j) 6).toInt ∧ (i (240 + 9 * j) 6).toInt ≤ 6))) (fun _ => hwc g ka i r L d) (fun _ => []) (va_A (hwc g ka i r L d) sz)) 0 0 (va_A (hwc g ka i r L d) sz) := by
  refine x_met (Ex := gx ad) (cc := cX2_hasNumber) (maxL := 2) (ret := (some .boolean)) (by decide) rfl (Nat.le_of_ble_eq_true rfl) ?_
  intro p e s m below meth c A ls hx hb hr hml hts hown hlocks hA hS hH hK hE hl
  have hown : s.vm.findClass RX2 = some m.cls := hown
  have in2 : ∀ w ∈ wsX20, w ∈ wsX2_hasNumber := (fun _ h => (List.mem_cons_of_mem _ (List.mem_append_right _ h)))
  have wd0 := hts (.fieldLink RX2 35 "StoryDesk$Expression" "argumentKinds" "[C") (List.mem_cons_of_mem _ (List.mem_append_left _ lm0))
  have hl : lv_has ls 2 [(0, .ref (g (240 + 9 * j))), (1, .int x)] := hl
  have hK : va_K D vwCl (hT ka) s := hK
  have hg_1 := s_rng x
  refine lv_aload_n hx hb dX2_hasNumber_0 rfl (lv_at hl 0 rfl) ?_
  refine lv_iload_n hx hb dX2_hasNumber_1 rfl (lv_at hl 1 rfl) ?_
  refine x_calli (va_runV (As := [.int x]) (rest := []) ⟨hx, hb, hml, hown, hts⟩ (k_hasArg l D g ka ad i r L d j x hO hR s.heap.size (by first | omega | decide)) (cwV 1 hts gX2_hasNumber_X2_hasArgument rfl rfl rfl (by decide +kernel) ⟨(Nat.le_of_ble_eq_true rfl), (Nat.le_of_ble_eq_true rfl)⟩) (x_preV (q := (RX2, TX2, 11)) hH hK (q_obj (lt_nK (by omega)) (kd_expr (t := 0) hj (by decide)) (by decide)) rfl gxb (gxw hE hS (x_F hH hS hA))) rfl rfl hl.1 rfl (lv_room (Nat.le_of_ble_eq_true rfl)) dX2_hasNumber_2 ⟨(Nat.le_of_ble_eq_true rfl), (Nat.le_of_ble_eq_true rfl)⟩) hH hS hA rfl rfl (fun r_2 _ H locs hw_3 hH hS => ?_)
  obtain ⟨hr_5, he_6⟩ := hw_3
  have hr_5 : (0 : Int) ≤ r_2.toInt ∧ r_2.toInt ≤ 1 := hr_5
  refine lv_if_eq (tgt := 34) hx hb dX2_hasNumber_5 (by decide) (fun c_7 => ?_) (fun c_7 => ?_)
  · skip
    have h_8 := s_eq (rfl : r_2.toInt = _) (show (0 : Int32).toInt = 0 from rfl) c_7
    refine lv_iconst (v := 0) hx hb dX2_hasNumber_34 (by decide) ?_
    have hlv_9 : (0 : Int32).toInt = 0 := rfl
    exact sj_zret hx hb hr hlocks (by decide +kernel) hS () ⟨⟨by decide, by decide⟩, (by omega)⟩ hH (sj_Knil hK) (Nat.le_of_ble_eq_true rfl) (Nat.le_of_ble_eq_true rfl) dX2_hasNumber_35
  · skip
    have h_10 := s_ne (rfl : r_2.toInt = _) (show (0 : Int32).toInt = 0 from rfl) c_7
    refine lv_aload_n hx hb dX2_hasNumber_8 rfl (lv_at hl 0 rfl) ?_
    refine h_getr (ci := 2) (C := RX2) (F := TX2) (N := 11) hx hb hts in2 hown hK hH (lt_nK (by omega)) (kd_expr (t := 0) hj (by decide)) (by decide) rfl 10 (by decide) wd0 (fun _ h9 => h9) (by decide) rfl (t := (240 + 9 * j + 8)) ((hR _ _ (by unfold dyn; simp <;> omega)).trans (sr_expr (by omega) (by omega))) (lt_nK (by omega)) dX2_hasNumber_9 ?_
    refine lv_iload_n hx hb dX2_hasNumber_12 rfl (lv_at hl 1 rfl) ?_
    have bx_11 : (0 : Int) ≤ (i (240 + 9 * j + 8) (x.toInt).toNat).toInt ∧ (i (240 + 9 * j + 8) (x.toInt).toNat).toInt ≤ 65535 := by have h9 := hO (240 + 9 * j + 8) (x.toInt).toNat; rw [bx_expr (t := 8) hj (by decide) (by decide) (x.toInt).toNat] at h9; exact h9
    refine h_cald hx hb hK hH (lt_nK (by omega)) (kd_expr (t := 8) hj (by decide)) (s_vin (N := 6) (rfl : x.toInt = _) (ln_expr (t := 8) hj (by decide)) (by omega) (by omega)) dX2_hasNumber_13 ?_
    have ek_12 : x.toNatClampNeg = (x.toInt).toNat := (s_cl (show x.toInt = x.toInt by omega))
    refine sj_i (y := (i (240 + 9 * j + 8) (x.toInt).toNat)) (by rw [ek_12]) ?_
    refine lv_bipush (v := 105) hx hb dX2_hasNumber_14 (by decide) ?_
    refine lv_icmp_eq (tgt := 30) hx hb dX2_hasNumber_16 (by decide) (fun c_13 => ?_) (fun c_13 => ?_)
    · skip
      have h_14 := s_eq (rfl : (i (240 + 9 * j + 8) (x.toInt).toNat).toInt = _) (show (105 : Int32).toInt = 105 from rfl) c_13
      refine lv_iconst (v := 1) hx hb dX2_hasNumber_30 (by decide) ?_
      refine lv_goto (tgt := 35) hx hb dX2_hasNumber_31 (by decide) ?_
      have hlv_15 : (1 : Int32).toInt = 1 := rfl
      exact sj_zret hx hb hr hlocks (by decide +kernel) hS () ⟨⟨by decide, by decide⟩, (by omega)⟩ hH (sj_Knil hK) (Nat.le_of_ble_eq_true rfl) (Nat.le_of_ble_eq_true rfl) dX2_hasNumber_35
    · skip
      have h_16 := s_ne (rfl : (i (240 + 9 * j + 8) (x.toInt).toNat).toInt = _) (show (105 : Int32).toInt = 105 from rfl) c_13
      refine lv_aload_n hx hb dX2_hasNumber_19 rfl (lv_at hl 0 rfl) ?_
      refine h_getr (ci := 2) (C := RX2) (F := TX2) (N := 11) hx hb hts in2 hown hK hH (lt_nK (by omega)) (kd_expr (t := 0) hj (by decide)) (by decide) rfl 10 (by decide) wd0 (fun _ h9 => h9) (by decide) rfl (t := (240 + 9 * j + 8)) ((hR _ _ (by unfold dyn; simp <;> omega)).trans (sr_expr (by omega) (by omega))) (lt_nK (by omega)) dX2_hasNumber_20 ?_
      refine lv_iload_n hx hb dX2_hasNumber_23 rfl (lv_at hl 1 rfl) ?_
      refine h_cald hx hb hK hH (lt_nK (by omega)) (kd_expr (t := 8) hj (by decide)) (s_vin (N := 6) (rfl : x.toInt = _) (ln_expr (t := 8) hj (by decide)) (by omega) (by omega)) dX2_hasNumber_24 ?_
      have ek_17 : x.toNatClampNeg = (x.toInt).toNat := (s_cl (show x.toInt = x.toInt by omega))
      refine sj_i (y := (i (240 + 9 * j + 8) (x.toInt).toNat)) (by rw [ek_17]) ?_
      refine lv_bipush (v := 100) hx hb dX2_hasNumber_25 (by decide) ?_
      refine lv_icmp_ne (tgt := 34) hx hb dX2_hasNumber_27 (by decide) (fun c_18 => ?_) (fun c_18 => ?_)
      · skip
        have h_19 := s_ne (rfl : (i (240 + 9 * j + 8) (x.toInt).toNat).toInt = _) (show (100 : Int32).toInt = 100 from rfl) c_18
        refine lv_iconst (v := 0) hx hb dX2_hasNumber_34 (by decide) ?_
        have hlv_20 : (0 : Int32).toInt = 0 := rfl
        exact sj_zret hx hb hr hlocks (by decide +kernel) hS () ⟨⟨by decide, by decide⟩, (by omega)⟩ hH (sj_Knil hK) (Nat.le_of_ble_eq_true rfl) (Nat.le_of_ble_eq_true rfl) dX2_hasNumber_35
      · skip
        have h_21 := s_eq (rfl : (i (240 + 9 * j + 8) (x.toInt).toNat).toInt = _) (show (100 : Int32).toInt = 100 from rfl) c_18
        refine lv_iconst (v := 1) hx hb dX2_hasNumber_30 (by decide) ?_
        refine lv_goto (tgt := 35) hx hb dX2_hasNumber_31 (by decide) ?_
        have hlv_22 : (1 : Int32).toInt = 1 := rfl
        exact sj_zret hx hb hr hlocks (by decide +kernel) hS () ⟨⟨by decide, by decide⟩, (by omega)⟩ hH (sj_Knil hK) (Nat.le_of_ble_eq_true rfl) (Nat.le_of_ble_eq_true rfl) dX2_hasNumber_35
set_option maxHeartbeats 2000000 in
set_option maxRecDepth 100000 in
theorem k_placeArgs (l : Launch) (D : va_G) (g : Nat → Nat) (ka : Nat → ClassId) (ad : Nat → Nat) (i : Nat → Nat → Int32) (r : Nat → Nat → Nat) (L : Nat → Nat → Int64) (d : Nat → Nat → UInt64) (j : Nat) (hO : OkI i) (hR : RS r) (sz : Nat) (hj : j < 13) (hcn : cn i j ≤ 6) (hM : mono i j) : Met l yX2_placeArguments wsX2_placeArguments ({ frames := 4, cells := 0, slots := 0, locals := 98 }) (va_Pc [.ref (g (240 + 9 * j)), .ref (g 14)] (sj_B D (hwc g ka i r L d) (hT ka) sz (gx ad (va_A (hwc g ka i r L d) sz)))) (sj_Qv (S := (Nat → Nat → Int32) × (Nat → Nat → Int64)) D (fun u => OkI u.1 ∧ (∀ a, ¬ (a = 240 + 9 * j + 6 ∨ a = 240 + 9 * j + 7) → u.1 a = i a)) (fun u => hwc g ka u.1 r u.2 d) (fun _ => []) (va_A (hwc g ka i r L d) sz)) 0 0 (va_A (hwc g ka i r L d) sz) := by
  refine x_met (Ex := gx ad) (cc := cX2_placeArguments) (maxL := 7) (ret := none) (by decide) rfl (Nat.le_of_ble_eq_true rfl) ?_
  intro p e s m below meth c A ls hx hb hr hml hts hown hlocks hA hS hH hK hE hl
  have hown : s.vm.findClass RX2 = some m.cls := hown
  have in2 : ∀ w ∈ wsX20, w ∈ wsX2_placeArguments := (fun _ h => (List.mem_cons_of_mem _ (List.mem_append_left _ (List.mem_append_right _ h))))
  have wd0 := hts (.fieldLink RX2 38 "StoryDesk$Expression" "elements" "I") (List.mem_cons_of_mem _ (List.mem_append_left _ (List.mem_append_left _ (List.mem_append_left _ lm0))))
  have wd1 := hts (.fieldLink RX2 19 "StoryDesk$Expression" "kinds" "[C") (List.mem_cons_of_mem _ (List.mem_append_left _ (List.mem_append_left _ (List.mem_append_left _ lm1))))
  have wd2 := hts (.fieldLink RX2 25 "StoryDesk$Expression" "open" "[J") (List.mem_cons_of_mem _ (List.mem_append_left _ (List.mem_append_left _ (List.mem_append_left _ lm2))))
  have wd3 := hts (.fieldLink RX2 29 "StoryDesk$Expression" "begins" "[I") (List.mem_cons_of_mem _ (List.mem_append_left _ (List.mem_append_left _ (List.mem_append_left _ lm3))))
  have wd4 := hts (.fieldLink RX2 32 "StoryDesk$Expression" "lengths" "[I") (List.mem_cons_of_mem _ (List.mem_append_left _ (List.mem_append_left _ (List.mem_append_left _ lm4))))
  have hl : lv_has ls 7 [(0, .ref (g (240 + 9 * j))), (1, .ref (g 14))] := hl
  have hK : va_K D vwCl (hT ka) s := hK
  have hcn0 : cnc (i (240 + 9 * j + 3)) (i (240 + 9 * j) 5).toInt.toNat ≤ 6 := hcn
  refine lv_aload_n hx hb dX2_placeArguments_0 rfl (lv_at hl 0 rfl) ?_
  refine lv_aload_n hx hb dX2_placeArguments_1 rfl (lv_at hl 1 rfl) ?_
  refine x_calli (va_runV (As := [.ref (g 14)]) (rest := []) ⟨hx, hb, hml, hown, hts⟩ (k_fits l D g ka ad i r L d j hO hR s.heap.size (by first | omega | decide)) (cwV 1 hts gX2_placeArguments_X2_fits rfl rfl rfl (by decide +kernel) ⟨(Nat.le_of_ble_eq_true rfl), (Nat.le_of_ble_eq_true rfl)⟩) (x_preV (q := (RX2, TX2, 11)) hH hK (q_obj (lt_nK (by omega)) (kd_expr (t := 0) hj (by decide)) (by decide)) rfl gxb (gxw hE hS (x_F hH hS hA))) rfl rfl hl.1 rfl (lv_room (Nat.le_of_ble_eq_true rfl)) dX2_placeArguments_2 ⟨(Nat.le_of_ble_eq_true rfl), (Nat.le_of_ble_eq_true rfl)⟩) hH hS hA rfl rfl (fun r_1 Lm_3 H locs hw_2 hH hS => ?_)
  have hH : sj_H D A (hwc g ka i r Lm_3 d) H := hH
  have hr_4 := hw_2
  have hr_4 : (0 : Int) ≤ r_1.toInt ∧ r_1.toInt ≤ 1 := hr_4
  refine lv_if_ne (tgt := 9) hx hb dX2_placeArguments_5 (by decide) (fun c_5 => ?_) (fun c_5 => ?_)
  · skip
    have h_6 := s_ne (rfl : r_1.toInt = _) (show (0 : Int32).toInt = 0 from rfl) c_5
    refine lv_iconst (v := 0) hx hb dX2_placeArguments_9 (by decide) ?_
    refine lv_istore_n (lv' := [(2, .int 0), (0, .ref (g (240 + 9 * j))), (1, .ref (g 14))]) hx hb dX2_placeArguments_10 rfl hl (by decide) rfl (fun ls hl => ?_)
    refine lv_iconst (v := 0) hx hb dX2_placeArguments_11 (by decide) ?_
    refine lv_istore_n (lv' := [(3, .int 0), (2, .int 0), (0, .ref (g (240 + 9 * j))), (1, .ref (g 14))]) hx hb dX2_placeArguments_12 rfl hl (by decide) rfl (fun ls hl => ?_)
    refine lv_iconst (v := 0) hx hb dX2_placeArguments_13 (by decide) ?_
    refine lv_istore (lv' := [(4, .int 0), (3, .int 0), (2, .int 0), (0, .ref (g (240 + 9 * j))), (1, .ref (g 14))]) hx hb dX2_placeArguments_14 hl (by decide) rfl (fun ls hl => ?_)
    -- loop at 16
    have lp_7 : ∀ (fuel_lp_7 : Nat) (ee : Int32) (f : Int32) (u : Int32) (j1 : Nat → Nat → Int32) (H : Heap) (locs : List Loc) (ls : Array Slot), (60 - ee.toInt).toNat < fuel_lp_7 → (0 : Int) ≤ ee.toInt ∧ ee.toInt ≤ 60 → (0 : Int) ≤ f.toInt ∧ f.toInt ≤ 60 → (0 : Int) ≤ u.toInt ∧ u.toInt ≤ 6 → (u.toInt).toNat = cnc (i (240 + 9 * j + 3)) (ee.toInt).toNat → OkI j1 → (∀ a, ¬ (a = 240 + 9 * j + 6 ∨ a = 240 + 9 * j + 7) → j1 a = i a) → lv_has ls 7 [(4, .int ee), (3, .int u), (2, .int f), (0, .ref (g (240 + 9 * j))), (1, .ref (g 14))] → sj_H D A (hwc g ka j1 r Lm_3 d) H → va_S A s.heap H locs → W p l e (headSpec wsX2_placeArguments ({ frames := 4, cells := 0, slots := 0, locals := 98 })).room s m ([.ref (g (240 + 9 * j)), .ref (g 14)] : List Value).toArray below meth c H locs 0 0 (MQ below (sj_Qv (S := (Nat → Nat → Int32) × (Nat → Nat → Int64)) D (fun u => OkI u.1 ∧ (∀ a, ¬ (a = 240 + 9 * j + 6 ∨ a = 240 + 9 * j + 7) → u.1 a = i a)) (fun u => hwc g ka u.1 r u.2 d) (fun _ => []) A) ([.ref (g (240 + 9 * j)), .ref (g 14)] : List Value).toArray s 0 0 A) (F0 m 16 ls []) := by
      intro fuel_lp_7
      induction fuel_lp_7 with
      | zero => intros; omega
      | succ fuel_lp_7 ih_lp_7 =>
        intro ee f u j1 H locs ls hm hr_ee hr_f hr_u hi_lp_7_0 hO_j1 hfr_j1 hl hH hS
        refine lv_iload hx hb dX2_placeArguments_16 (lv_at hl 0 rfl) ?_
        refine lv_aload_n hx hb dX2_placeArguments_18 rfl (lv_at hl 3 rfl) ?_
        have bx_8 : (0 : Int) ≤ (i (240 + 9 * j) 5).toInt ∧ (i (240 + 9 * j) 5).toInt ≤ 60 := by have h9 := hO (240 + 9 * j) 5; rw [bx_expr0 hj 5] at h9; exact h9
        refine h_geti (ci := 2) (C := RX2) (F := TX2) (N := 11) hx hb hts in2 hown hK hH (lt_nK (by omega)) (kd_expr (t := 0) hj (by decide)) (by decide) rfl 5 (by decide) wd0 (fun _ h9 => h9) (by decide) rfl dX2_placeArguments_19 ?_
        refine sj_i (y := (i (240 + 9 * j) 5)) (congrFun (hfr_j1 (240 + 9 * j) (by omega)) _) ?_
        refine lv_icmp_ge (tgt := 134) hx hb dX2_placeArguments_22 (by decide) (fun c_9 => ?_) (fun c_9 => ?_)
        · skip
          have h_10 := s_le (rfl : (i (240 + 9 * j) 5).toInt = _) (rfl : ee.toInt = _) c_9
          exact sj_vret hx hb hr hlocks hS (j1, Lm_3) ⟨hO_j1, (fun a ha => (hfr_j1 a (by omega)))⟩ hH (sj_Knil hK) (Nat.le_of_ble_eq_true rfl) (Nat.le_of_ble_eq_true rfl) dX2_placeArguments_134
        · skip
          have h_11 := s_nle (rfl : (i (240 + 9 * j) 5).toInt = _) (rfl : ee.toInt = _) c_9
          refine lv_aload_n hx hb dX2_placeArguments_25 rfl (lv_at hl 3 rfl) ?_
          refine h_getr (ci := 2) (C := RX2) (F := TX2) (N := 11) hx hb hts in2 hown hK hH (lt_nK (by omega)) (kd_expr (t := 0) hj (by decide)) (by decide) rfl 3 (by decide) wd1 (fun _ h9 => h9) (by decide) rfl (t := (240 + 9 * j + 3)) ((hR _ _ (by unfold dyn; simp <;> omega)).trans (sr_expr (by omega) (by omega))) (lt_nK (by omega)) dX2_placeArguments_26 ?_
          refine lv_iload hx hb dX2_placeArguments_29 (lv_at hl 0 rfl) ?_
          have bx_12 : (0 : Int) ≤ (i (240 + 9 * j + 3) (ee.toInt).toNat).toInt ∧ (i (240 + 9 * j + 3) (ee.toInt).toNat).toInt ≤ 65535 := by have h9 := hO (240 + 9 * j + 3) (ee.toInt).toNat; rw [bx_expr (t := 3) hj (by decide) (by decide) (ee.toInt).toNat] at h9; exact h9
          have hc_13 := cnc_or (i (240 + 9 * j + 3)) (ee.toInt).toNat
          have hc_14 := cnc_mono (i (240 + 9 * j + 3)) (show (ee.toInt).toNat + 1 ≤ (i (240 + 9 * j) 5).toInt.toNat by omega)
          refine h_cald hx hb hK hH (lt_nK (by omega)) (kd_expr (t := 3) hj (by decide)) (s_vin (N := 60) (rfl : ee.toInt = _) (ln_expr (t := 3) hj (by decide)) (by omega) (by omega)) dX2_placeArguments_31 ?_
          have ek_15 : ee.toNatClampNeg = (ee.toInt).toNat := (s_cl (show ee.toInt = ee.toInt by omega))
          refine sj_i (y := (i (240 + 9 * j + 3) (ee.toInt).toNat)) (by rw [ek_15]; exact (congrFun (hfr_j1 (240 + 9 * j + 3) (by omega)) _)) ?_
          refine lv_bipush (v := 47) hx hb dX2_placeArguments_32 (by decide) ?_
          refine lv_icmp_ne (tgt := 49) hx hb dX2_placeArguments_34 (by decide) (fun c_16 => ?_) (fun c_16 => ?_)
          · skip
            have h_17 := s_ne (rfl : (i (240 + 9 * j + 3) (ee.toInt).toNat).toInt = _) (show (47 : Int32).toInt = 47 from rfl) c_16
            refine lv_aload_n hx hb dX2_placeArguments_49 rfl (lv_at hl 3 rfl) ?_
            refine lv_aload_n hx hb dX2_placeArguments_50 rfl (lv_at hl 3 rfl) ?_
            refine lv_aload_n hx hb dX2_placeArguments_51 rfl (lv_at hl 3 rfl) ?_
            refine h_getr (ci := 2) (C := RX2) (F := TX2) (N := 11) hx hb hts in2 hown hK hH (lt_nK (by omega)) (kd_expr (t := 0) hj (by decide)) (by decide) rfl 3 (by decide) wd1 (fun _ h9 => h9) (by decide) rfl (t := (240 + 9 * j + 3)) ((hR _ _ (by unfold dyn; simp <;> omega)).trans (sr_expr (by omega) (by omega))) (lt_nK (by omega)) dX2_placeArguments_52 ?_
            refine lv_iload hx hb dX2_placeArguments_55 (lv_at hl 0 rfl) ?_
            have hc_18 := cnc_or (i (240 + 9 * j + 3)) (ee.toInt).toNat
            have hc_19 := cnc_mono (i (240 + 9 * j + 3)) (show (ee.toInt).toNat + 1 ≤ (i (240 + 9 * j) 5).toInt.toNat by omega)
            refine h_cald hx hb hK hH (lt_nK (by omega)) (kd_expr (t := 3) hj (by decide)) (s_vin (N := 60) (rfl : ee.toInt = _) (ln_expr (t := 3) hj (by decide)) (by omega) (by omega)) dX2_placeArguments_57 ?_
            have ek_20 : ee.toNatClampNeg = (ee.toInt).toNat := (s_cl (show ee.toInt = ee.toInt by omega))
            refine sj_i (y := (i (240 + 9 * j + 3) (ee.toInt).toNat)) (by rw [ek_20]; exact (congrFun (hfr_j1 (240 + 9 * j + 3) (by omega)) _)) ?_
            refine lv_aload_n hx hb dX2_placeArguments_58 rfl (lv_at hl 4 rfl) ?_
            refine lv_iload_n hx hb dX2_placeArguments_59 rfl (lv_at hl 2 rfl) ?_
            refine x_calll (va_runV (As := [.int (i (240 + 9 * j + 3) (ee.toInt).toNat), .ref (g 14), .int f]) (rest := [.ref (g (240 + 9 * j))]) ⟨hx, hb, hml, hown, hts⟩ (k_endsOf l D g ka ad j1 r Lm_3 d j (i (240 + 9 * j + 3) (ee.toInt).toNat) f hO_j1 hR H.size (by first | omega | decide) (by first | omega | decide) (by first | omega | decide)) (cwV 3 hts gX2_placeArguments_X2_endsOf rfl rfl rfl (by decide +kernel) ⟨(Nat.le_of_ble_eq_true rfl), (Nat.le_of_ble_eq_true rfl)⟩) (x_preV (q := (RX2, TX2, 11)) hH hK (q_obj (lt_nK (by omega)) (kd_expr (t := 0) hj (by decide)) (by decide)) rfl gxb (gxw hE hS (x_F hH hS hA))) rfl rfl hl.1 rfl (lv_room (Nat.le_of_ble_eq_true rfl)) dX2_placeArguments_60 ⟨(Nat.le_of_ble_eq_true rfl), (Nat.le_of_ble_eq_true rfl)⟩) hH hS hA rfl rfl (fun r_21 _ H locs hw_22 hH hS => ?_)
            refine lv_aload_n hx hb dX2_placeArguments_63 rfl (lv_at hl 3 rfl) ?_
            refine h_getr (ci := 2) (C := RX2) (F := TX2) (N := 11) hx hb hts in2 hown hK hH (lt_nK (by omega)) (kd_expr (t := 0) hj (by decide)) (by decide) rfl 7 (by decide) wd2 (fun _ h9 => h9) (by decide) rfl (t := (240 + 9 * j + 5)) ((hR _ _ (by unfold dyn; simp <;> omega)).trans (sr_expr (by omega) (by omega))) (lt_nK (by omega)) dX2_placeArguments_64 ?_
            refine lv_iload hx hb dX2_placeArguments_67 (lv_at hl 0 rfl) ?_
            refine lv_iconst (v := 1) hx hb dX2_placeArguments_69 (by decide) ?_
            refine lv_iadd hx hb dX2_placeArguments_70 ?_
            obtain ⟨z_24, ez_24, hz_24⟩ := s_add (rfl : ee.toInt = _) (show (1 : Int32).toInt = 1 from rfl) (by omega) (by omega)
            refine sj_i ez_24 ?_
            refine h_lald hx hb hK hH (lt_nK (by omega)) (kd_expr (t := 5) hj (by decide)) (s_vin (N := 61) (rfl : z_24.toInt = _) (ln_expr (t := 5) hj (by decide)) (by omega) (by omega)) dX2_placeArguments_71 ?_
            refine lv_topl (fun z_25 ez_25 => ?_)
            refine lv_land hx hb dX2_placeArguments_72 ?_
            refine lv_topl (fun z_26 ez_26 => ?_)
            refine x_calli (va_runV (As := [.long z_26]) (rest := []) ⟨hx, hb, hml, hown, hts⟩ (k_last l D g ka ad j1 r Lm_3 d j z_26 hO_j1 hR H.size (by first | omega | decide)) (cwV 1 hts gX2_placeArguments_X2_last rfl rfl rfl (by decide +kernel) ⟨(Nat.le_of_ble_eq_true rfl), (Nat.le_of_ble_eq_true rfl)⟩) (x_preV (q := (RX2, TX2, 11)) hH hK (q_obj (lt_nK (by omega)) (kd_expr (t := 0) hj (by decide)) (by decide)) rfl gxb (gxw hE hS (x_F hH hS hA))) rfl rfl hl.1 rfl (lv_room (Nat.le_of_ble_eq_true rfl)) dX2_placeArguments_73 ⟨(Nat.le_of_ble_eq_true rfl), (Nat.le_of_ble_eq_true rfl)⟩) hH hS hA rfl rfl (fun r_27 _ H locs hw_28 hH hS => ?_)
            have hr_30 := hw_28
            have hr_30 : (0 : Int) ≤ r_27.toInt ∧ r_27.toInt ≤ 60 := hr_30
            refine lv_istore (lv' := [(5, .int r_27), (4, .int ee), (3, .int u), (2, .int f), (0, .ref (g (240 + 9 * j))), (1, .ref (g 14))]) hx hb dX2_placeArguments_76 hl (by decide) rfl (fun ls hl => ?_)
            refine lv_aload_n hx hb dX2_placeArguments_78 rfl (lv_at hl 4 rfl) ?_
            refine h_getr (ci := 2) (C := RX2) (F := TX2) (N := 11) hx hb hts in2 hown hK hH (lt_nK (by omega)) (kd_expr (t := 0) hj (by decide)) (by decide) rfl 3 (by decide) wd1 (fun _ h9 => h9) (by decide) rfl (t := (240 + 9 * j + 3)) ((hR _ _ (by unfold dyn; simp <;> omega)).trans (sr_expr (by omega) (by omega))) (lt_nK (by omega)) dX2_placeArguments_79 ?_
            refine lv_iload hx hb dX2_placeArguments_82 (lv_at hl 1 rfl) ?_
            have hc_31 := cnc_or (i (240 + 9 * j + 3)) (ee.toInt).toNat
            have hc_32 := cnc_mono (i (240 + 9 * j + 3)) (show (ee.toInt).toNat + 1 ≤ (i (240 + 9 * j) 5).toInt.toNat by omega)
            refine h_cald hx hb hK hH (lt_nK (by omega)) (kd_expr (t := 3) hj (by decide)) (s_vin (N := 60) (rfl : ee.toInt = _) (ln_expr (t := 3) hj (by decide)) (by omega) (by omega)) dX2_placeArguments_84 ?_
            have ek_33 : ee.toNatClampNeg = (ee.toInt).toNat := (s_cl (show ee.toInt = ee.toInt by omega))
            refine sj_i (y := (i (240 + 9 * j + 3) (ee.toInt).toNat)) (by rw [ek_33]; exact (congrFun (hfr_j1 (240 + 9 * j + 3) (by omega)) _)) ?_
            refine lv_bipush (v := 115) hx hb dX2_placeArguments_85 (by decide) ?_
            refine lv_icmp_ne (tgt := 94) hx hb dX2_placeArguments_87 (by decide) (fun c_34 => ?_) (fun c_34 => ?_)
            · skip
              have h_35 := s_ne (rfl : (i (240 + 9 * j + 3) (ee.toInt).toNat).toInt = _) (show (115 : Int32).toInt = 115 from rfl) c_34
              refine lv_iconst (v := 0) hx hb dX2_placeArguments_94 (by decide) ?_
              refine lv_istore (lv' := [(6, .int 0), (5, .int r_27), (4, .int ee), (3, .int u), (2, .int f), (0, .ref (g (240 + 9 * j))), (1, .ref (g 14))]) hx hb dX2_placeArguments_95 hl (by decide) rfl (fun ls hl => ?_)
              refine lv_aload_n hx hb dX2_placeArguments_97 rfl (lv_at hl 5 rfl) ?_
              refine h_getr (ci := 2) (C := RX2) (F := TX2) (N := 11) hx hb hts in2 hown hK hH (lt_nK (by omega)) (kd_expr (t := 0) hj (by decide)) (by decide) rfl 8 (by decide) wd3 (fun _ h9 => h9) (by decide) rfl (t := (240 + 9 * j + 6)) ((hR _ _ (by unfold dyn; simp <;> omega)).trans (sr_expr (by omega) (by omega))) (lt_nK (by omega)) dX2_placeArguments_98 ?_
              refine lv_iload_n hx hb dX2_placeArguments_101 rfl (lv_at hl 3 rfl) ?_
              refine lv_iload_n hx hb dX2_placeArguments_102 rfl (lv_at hl 4 rfl) ?_
              refine lv_iload hx hb dX2_placeArguments_103 (lv_at hl 0 rfl) ?_
              refine lv_iadd hx hb dX2_placeArguments_105 ?_
              obtain ⟨z_36, ez_36, hz_36⟩ := s_add (rfl : f.toInt = _) (show (0 : Int32).toInt = 0 from rfl) (by omega) (by omega)
              refine sj_i ez_36 ?_
              have hO_37 := okp hO_j1 (n := (240 + 9 * j + 6)) (k := (u.toInt).toNat) (v := z_36) (by rw [bx_expr (t := 6) hj (by decide) (by decide) (u.toInt).toNat]; exact (show (0 : Int) ≤ (z_36 : Int32).toInt ∧ (z_36 : Int32).toInt ≤ 61 from ⟨by omega, by omega⟩))
              refine h_iast hx hb hK hH hS (lt_nK (by omega)) (kd_expr (t := 6) hj (by decide)) (s_vin (N := 6) (rfl : u.toInt = _) (ln_expr (t := 6) hj (by decide)) (by omega) (by omega)) dX2_placeArguments_106 (fun H locs hH hS => ?_)
              rw [s_cl (show u.toInt = u.toInt by omega)] at hH
              refine lv_aload_n hx hb dX2_placeArguments_107 rfl (lv_at hl 5 rfl) ?_
              refine h_getr (ci := 2) (C := RX2) (F := TX2) (N := 11) hx hb hts in2 hown hK hH (lt_nK (by omega)) (kd_expr (t := 0) hj (by decide)) (by decide) rfl 9 (by decide) wd4 (fun _ h9 => h9) (by decide) rfl (t := (240 + 9 * j + 7)) ((hR _ _ (by unfold dyn; simp <;> omega)).trans (sr_expr (by omega) (by omega))) (lt_nK (by omega)) dX2_placeArguments_108 ?_
              refine lv_iload_n hx hb dX2_placeArguments_111 rfl (lv_at hl 3 rfl) ?_
              refine lv_iload hx hb dX2_placeArguments_112 (lv_at hl 1 rfl) ?_
              refine lv_iload_n hx hb dX2_placeArguments_114 rfl (lv_at hl 4 rfl) ?_
              refine lv_isub hx hb dX2_placeArguments_115 ?_
              obtain ⟨z_38, ez_38, hz_38⟩ := s_sub (rfl : r_27.toInt = _) (rfl : f.toInt = _) (by omega) (by omega)
              refine sj_i ez_38 ?_
              refine lv_iconst (v := 2) hx hb dX2_placeArguments_116 (by decide) ?_
              refine lv_iload hx hb dX2_placeArguments_117 (lv_at hl 0 rfl) ?_
              refine lv_imul hx hb dX2_placeArguments_119 ?_
              refine sj_i (y := 0) (by decide) ?_
              refine lv_isub hx hb dX2_placeArguments_120 ?_
              obtain ⟨z_39, ez_39, hz_39⟩ := s_sub (rfl : z_38.toInt = _) (show (0 : Int32).toInt = 0 from rfl) (by omega) (by omega)
              refine sj_i ez_39 ?_
              have hO_40 := okp hO_37 (n := (240 + 9 * j + 7)) (k := (u.toInt).toNat) (v := z_39) (by rw [bx_expr (t := 7) hj (by decide) (by decide) (u.toInt).toNat]; exact (show (-62 : Int) ≤ (z_39 : Int32).toInt ∧ (z_39 : Int32).toInt ≤ 60 from ⟨by omega, by omega⟩))
              refine h_iast hx hb hK hH hS (lt_nK (by omega)) (kd_expr (t := 7) hj (by decide)) (s_vin (N := 6) (rfl : u.toInt = _) (ln_expr (t := 7) hj (by decide)) (by omega) (by omega)) dX2_placeArguments_121 (fun H locs hH hS => ?_)
              rw [s_cl (show u.toInt = u.toInt by omega)] at hH
              obtain ⟨z_41, ez_41, hz_41⟩ := s_add (rfl : u.toInt = _) (show (1 : Int32).toInt = 1 from rfl) (by omega) (by omega)
              refine lv_iinc (v := z_41) (lv' := [(3, .int z_41), (6, .int 0), (5, .int r_27), (4, .int ee), (2, .int f), (0, .ref (g (240 + 9 * j))), (1, .ref (g 14))]) hx hb dX2_placeArguments_122 hl (k := 3) rfl ez_41 (by decide) rfl (fun ls hl => ?_)
              refine lv_iload hx hb dX2_placeArguments_125 (lv_at hl 2 rfl) ?_
              refine lv_istore_n (lv' := [(2, .int r_27), (3, .int z_41), (6, .int 0), (5, .int r_27), (4, .int ee), (0, .ref (g (240 + 9 * j))), (1, .ref (g 14))]) hx hb dX2_placeArguments_127 rfl hl (by decide) rfl (fun ls hl => ?_)
              obtain ⟨z_42, ez_42, hz_42⟩ := s_add (rfl : ee.toInt = _) (show (1 : Int32).toInt = 1 from rfl) (by omega) (by omega)
              refine lv_iinc (v := z_42) (lv' := [(4, .int z_42), (2, .int r_27), (3, .int z_41), (6, .int 0), (5, .int r_27), (0, .ref (g (240 + 9 * j))), (1, .ref (g 14))]) hx hb dX2_placeArguments_128 hl (k := 4) rfl ez_42 (by decide) rfl (fun ls hl => ?_)
              refine lv_goto (tgt := 16) hx hb dX2_placeArguments_131 (by decide) ?_
              exact ih_lp_7 z_42 r_27 z_41 _ _ _ ls (by omega) (by omega) (by omega) (by omega) (by rw [show (z_42.toInt).toNat = (ee.toInt).toNat + 1 by omega]; omega) hO_40 (fun a ha => ((up2_n _ _ (by omega)).trans ((up2_n _ _ (by omega)).trans (hfr_j1 a (by omega))))) (lv_sub hl [0, 2, 1, 5, 6] rfl) hH hS
            · skip
              have h_43 := s_eq (rfl : (i (240 + 9 * j + 3) (ee.toInt).toNat).toInt = _) (show (115 : Int32).toInt = 115 from rfl) c_34
              refine lv_iconst (v := 1) hx hb dX2_placeArguments_90 (by decide) ?_
              refine lv_goto (tgt := 95) hx hb dX2_placeArguments_91 (by decide) ?_
              refine lv_istore (lv' := [(6, .int 1), (5, .int r_27), (4, .int ee), (3, .int u), (2, .int f), (0, .ref (g (240 + 9 * j))), (1, .ref (g 14))]) hx hb dX2_placeArguments_95 hl (by decide) rfl (fun ls hl => ?_)
              refine lv_aload_n hx hb dX2_placeArguments_97 rfl (lv_at hl 5 rfl) ?_
              refine h_getr (ci := 2) (C := RX2) (F := TX2) (N := 11) hx hb hts in2 hown hK hH (lt_nK (by omega)) (kd_expr (t := 0) hj (by decide)) (by decide) rfl 8 (by decide) wd3 (fun _ h9 => h9) (by decide) rfl (t := (240 + 9 * j + 6)) ((hR _ _ (by unfold dyn; simp <;> omega)).trans (sr_expr (by omega) (by omega))) (lt_nK (by omega)) dX2_placeArguments_98 ?_
              refine lv_iload_n hx hb dX2_placeArguments_101 rfl (lv_at hl 3 rfl) ?_
              refine lv_iload_n hx hb dX2_placeArguments_102 rfl (lv_at hl 4 rfl) ?_
              refine lv_iload hx hb dX2_placeArguments_103 (lv_at hl 0 rfl) ?_
              refine lv_iadd hx hb dX2_placeArguments_105 ?_
              obtain ⟨z_44, ez_44, hz_44⟩ := s_add (rfl : f.toInt = _) (show (1 : Int32).toInt = 1 from rfl) (by omega) (by omega)
              refine sj_i ez_44 ?_
              have hO_45 := okp hO_j1 (n := (240 + 9 * j + 6)) (k := (u.toInt).toNat) (v := z_44) (by rw [bx_expr (t := 6) hj (by decide) (by decide) (u.toInt).toNat]; exact (show (0 : Int) ≤ (z_44 : Int32).toInt ∧ (z_44 : Int32).toInt ≤ 61 from ⟨by omega, by omega⟩))
              refine h_iast hx hb hK hH hS (lt_nK (by omega)) (kd_expr (t := 6) hj (by decide)) (s_vin (N := 6) (rfl : u.toInt = _) (ln_expr (t := 6) hj (by decide)) (by omega) (by omega)) dX2_placeArguments_106 (fun H locs hH hS => ?_)
              rw [s_cl (show u.toInt = u.toInt by omega)] at hH
              refine lv_aload_n hx hb dX2_placeArguments_107 rfl (lv_at hl 5 rfl) ?_
              refine h_getr (ci := 2) (C := RX2) (F := TX2) (N := 11) hx hb hts in2 hown hK hH (lt_nK (by omega)) (kd_expr (t := 0) hj (by decide)) (by decide) rfl 9 (by decide) wd4 (fun _ h9 => h9) (by decide) rfl (t := (240 + 9 * j + 7)) ((hR _ _ (by unfold dyn; simp <;> omega)).trans (sr_expr (by omega) (by omega))) (lt_nK (by omega)) dX2_placeArguments_108 ?_
              refine lv_iload_n hx hb dX2_placeArguments_111 rfl (lv_at hl 3 rfl) ?_
              refine lv_iload hx hb dX2_placeArguments_112 (lv_at hl 1 rfl) ?_
              refine lv_iload_n hx hb dX2_placeArguments_114 rfl (lv_at hl 4 rfl) ?_
              refine lv_isub hx hb dX2_placeArguments_115 ?_
              obtain ⟨z_46, ez_46, hz_46⟩ := s_sub (rfl : r_27.toInt = _) (rfl : f.toInt = _) (by omega) (by omega)
              refine sj_i ez_46 ?_
              refine lv_iconst (v := 2) hx hb dX2_placeArguments_116 (by decide) ?_
              refine lv_iload hx hb dX2_placeArguments_117 (lv_at hl 0 rfl) ?_
              refine lv_imul hx hb dX2_placeArguments_119 ?_
              refine sj_i (y := 2) (by decide) ?_
              refine lv_isub hx hb dX2_placeArguments_120 ?_
              obtain ⟨z_47, ez_47, hz_47⟩ := s_sub (rfl : z_46.toInt = _) (show (2 : Int32).toInt = 2 from rfl) (by omega) (by omega)
              refine sj_i ez_47 ?_
              have hO_48 := okp hO_45 (n := (240 + 9 * j + 7)) (k := (u.toInt).toNat) (v := z_47) (by rw [bx_expr (t := 7) hj (by decide) (by decide) (u.toInt).toNat]; exact (show (-62 : Int) ≤ (z_47 : Int32).toInt ∧ (z_47 : Int32).toInt ≤ 60 from ⟨by omega, by omega⟩))
              refine h_iast hx hb hK hH hS (lt_nK (by omega)) (kd_expr (t := 7) hj (by decide)) (s_vin (N := 6) (rfl : u.toInt = _) (ln_expr (t := 7) hj (by decide)) (by omega) (by omega)) dX2_placeArguments_121 (fun H locs hH hS => ?_)
              rw [s_cl (show u.toInt = u.toInt by omega)] at hH
              obtain ⟨z_49, ez_49, hz_49⟩ := s_add (rfl : u.toInt = _) (show (1 : Int32).toInt = 1 from rfl) (by omega) (by omega)
              refine lv_iinc (v := z_49) (lv' := [(3, .int z_49), (6, .int 1), (5, .int r_27), (4, .int ee), (2, .int f), (0, .ref (g (240 + 9 * j))), (1, .ref (g 14))]) hx hb dX2_placeArguments_122 hl (k := 3) rfl ez_49 (by decide) rfl (fun ls hl => ?_)
              refine lv_iload hx hb dX2_placeArguments_125 (lv_at hl 2 rfl) ?_
              refine lv_istore_n (lv' := [(2, .int r_27), (3, .int z_49), (6, .int 1), (5, .int r_27), (4, .int ee), (0, .ref (g (240 + 9 * j))), (1, .ref (g 14))]) hx hb dX2_placeArguments_127 rfl hl (by decide) rfl (fun ls hl => ?_)
              obtain ⟨z_50, ez_50, hz_50⟩ := s_add (rfl : ee.toInt = _) (show (1 : Int32).toInt = 1 from rfl) (by omega) (by omega)
              refine lv_iinc (v := z_50) (lv' := [(4, .int z_50), (2, .int r_27), (3, .int z_49), (6, .int 1), (5, .int r_27), (0, .ref (g (240 + 9 * j))), (1, .ref (g 14))]) hx hb dX2_placeArguments_128 hl (k := 4) rfl ez_50 (by decide) rfl (fun ls hl => ?_)
              refine lv_goto (tgt := 16) hx hb dX2_placeArguments_131 (by decide) ?_
              exact ih_lp_7 z_50 r_27 z_49 _ _ _ ls (by omega) (by omega) (by omega) (by omega) (by rw [show (z_50.toInt).toNat = (ee.toInt).toNat + 1 by omega]; omega) hO_48 (fun a ha => ((up2_n _ _ (by omega)).trans ((up2_n _ _ (by omega)).trans (hfr_j1 a (by omega))))) (lv_sub hl [0, 2, 1, 5, 6] rfl) hH hS
          · skip
            have h_51 := s_eq (rfl : (i (240 + 9 * j + 3) (ee.toInt).toNat).toInt = _) (show (47 : Int32).toInt = 47 from rfl) c_16
            refine lv_aload_n hx hb dX2_placeArguments_37 rfl (lv_at hl 3 rfl) ?_
            refine lv_iload hx hb dX2_placeArguments_38 (lv_at hl 0 rfl) ?_
            refine lv_aload_n hx hb dX2_placeArguments_40 rfl (lv_at hl 4 rfl) ?_
            refine lv_iload_n hx hb dX2_placeArguments_41 rfl (lv_at hl 2 rfl) ?_
            have hwt_52 : (j1 (240 + 9 * j) 5).toInt = ((i (240 + 9 * j) 5) : Int32).toInt := congrArg Int32.toInt (congrFun (hfr_j1 (240 + 9 * j) (by omega)) _)
            refine x_calli (va_runV (As := [.int ee, .ref (g 14), .int f]) (rest := []) ⟨hx, hb, hml, hown, hts⟩ (k_endOfChoice l D g ka ad j1 r Lm_3 d j ee f hO_j1 hR H.size (by first | omega | decide) (mono_same hM (hfr_j1 (240 + 9 * j + 2) (by omega)) (hfr_j1 (240 + 9 * j + 4) (by omega)) (congrArg Int32.toInt (congrFun (hfr_j1 (240 + 9 * j) (by omega)) 2)) (congrArg Int32.toInt (congrFun (hfr_j1 (240 + 9 * j) (by omega)) 5))) (by first | omega | decide) (by first | omega | decide) (by first | omega | decide) (by first | omega | decide) (by first | omega | decide)) (cwV 3 hts gX2_placeArguments_X2_endOfChoice rfl rfl rfl (by decide +kernel) ⟨(Nat.le_of_ble_eq_true rfl), (Nat.le_of_ble_eq_true rfl)⟩) (x_preV (q := (RX2, TX2, 11)) hH hK (q_obj (lt_nK (by omega)) (kd_expr (t := 0) hj (by decide)) (by decide)) rfl gxb (gxw hE hS (x_F hH hS hA))) rfl rfl hl.1 rfl (lv_room (Nat.le_of_ble_eq_true rfl)) dX2_placeArguments_42 ⟨(Nat.le_of_ble_eq_true rfl), (Nat.le_of_ble_eq_true rfl)⟩) hH hS hA rfl rfl (fun r_53 _ H locs hw_54 hH hS => ?_)
            have hr_56 := hw_54
            have hr_56 : (0 : Int) ≤ r_53.toInt ∧ r_53.toInt ≤ 60 := hr_56
            refine lv_istore_n (lv' := [(2, .int r_53), (4, .int ee), (3, .int u), (0, .ref (g (240 + 9 * j))), (1, .ref (g 14))]) hx hb dX2_placeArguments_45 rfl hl (by decide) rfl (fun ls hl => ?_)
            refine lv_goto (tgt := 128) hx hb dX2_placeArguments_46 (by decide) ?_
            obtain ⟨z_57, ez_57, hz_57⟩ := s_add (rfl : ee.toInt = _) (show (1 : Int32).toInt = 1 from rfl) (by omega) (by omega)
            refine lv_iinc (v := z_57) (lv' := [(4, .int z_57), (2, .int r_53), (3, .int u), (0, .ref (g (240 + 9 * j))), (1, .ref (g 14))]) hx hb dX2_placeArguments_128 hl (k := 1) rfl ez_57 (by decide) rfl (fun ls hl => ?_)
            refine lv_goto (tgt := 16) hx hb dX2_placeArguments_131 (by decide) ?_
            exact ih_lp_7 z_57 r_53 u _ _ _ ls (by omega) (by omega) (by omega) (by omega) (by rw [show (z_57.toInt).toNat = (ee.toInt).toNat + 1 by omega]; omega) hO_j1 (fun a ha => (hfr_j1 a (by omega))) (lv_sub hl [0, 2, 1, 3, 4] rfl) hH hS
    have hl_58 : (0 : Int32).toInt = 0 := rfl
    have hl_59 : (0 : Int32).toInt = 0 := rfl
    have hl_60 : (0 : Int32).toInt = 0 := rfl
    exact lp_7 _ 0 0 0 _ _ _ ls (Nat.lt_succ_self _) (by omega) (by omega) (by omega) rfl hO (fun a ha => rfl) (lv_sub hl [0, 1, 2, 3, 4] rfl) hH hS
  · skip
    have h_61 := s_eq (rfl : r_1.toInt = _) (show (0 : Int32).toInt = 0 from rfl) c_5
    exact sj_vret hx hb hr hlocks hS (i, Lm_3) ⟨hO, (fun a ha => rfl)⟩ hH (sj_Knil hK) (Nat.le_of_ble_eq_true rfl) (Nat.le_of_ble_eq_true rfl) dX2_placeArguments_8
