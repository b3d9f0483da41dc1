theorem dT_fin {n : Nat} (h : n ≤ 60) : dfin (dT n) := by
  obtain ⟨t, d, r, e, _⟩ := dok_fin (dT_ok n h)
  exact ⟨t, d, r, e⟩
theorem ten_fin : dfin 4621819117588971520 := ⟨false, 5629499534213120, -49, by decide +kernel⟩
theorem zero_fin : dfin 0 := ⟨false, 0, -1074, by decide +kernel⟩
theorem dX2_number_0 : decode cX2_number 0 = .ok (.aload_n 0, 1) := by decide +kernel
theorem dX2_number_1 : decode cX2_number 1 = .ok (.getfield 29, 3) := by decide +kernel
theorem dX2_number_4 : decode cX2_number 4 = .ok (.iload_n 2, 1) := by decide +kernel
theorem dX2_number_5 : decode cX2_number 5 = .ok (.iaload, 1) := by decide +kernel
theorem dX2_number_6 : decode cX2_number 6 = .ok (.aload_n 0, 1) := by decide +kernel
theorem dX2_number_7 : decode cX2_number 7 = .ok (.getfield 32, 3) := by decide +kernel
theorem dX2_number_10 : decode cX2_number 10 = .ok (.iload_n 2, 1) := by decide +kernel
theorem dX2_number_11 : decode cX2_number 11 = .ok (.iaload, 1) := by decide +kernel
theorem dX2_number_12 : decode cX2_number 12 = .ok (.iadd, 1) := by decide +kernel
theorem dX2_number_13 : decode cX2_number 13 = .ok (.istore_n 3, 1) := by decide +kernel
theorem dX2_number_14 : decode cX2_number 14 = .ok (.aload_n 1, 1) := by decide +kernel
theorem dX2_number_15 : decode cX2_number 15 = .ok (.aload_n 0, 1) := by decide +kernel
theorem dX2_number_16 : decode cX2_number 16 = .ok (.getfield 29, 3) := by decide +kernel
theorem dX2_number_19 : decode cX2_number 19 = .ok (.iload_n 2, 1) := by decide +kernel
theorem dX2_number_20 : decode cX2_number 20 = .ok (.iaload, 1) := by decide +kernel
theorem dX2_number_21 : decode cX2_number 21 = .ok (.iload_n 3, 1) := by decide +kernel
theorem dX2_number_22 : decode cX2_number 22 = .ok (.invokevirtual 138, 3) := by decide +kernel
theorem dX2_number_25 : decode cX2_number 25 = .ok (.i2d, 1) := by decide +kernel
theorem dX2_number_26 : decode cX2_number 26 = .ok (.dstore 4, 2) := by decide +kernel
theorem dX2_number_28 : decode cX2_number 28 = .ok (.dconst 1, 1) := by decide +kernel
theorem dX2_number_29 : decode cX2_number 29 = .ok (.dstore 6, 2) := by decide +kernel
theorem dX2_number_31 : decode cX2_number 31 = .ok (.aload_n 0, 1) := by decide +kernel
theorem dX2_number_32 : decode cX2_number 32 = .ok (.getfield 35, 3) := by decide +kernel
theorem dX2_number_35 : decode cX2_number 35 = .ok (.iload_n 2, 1) := by decide +kernel
theorem dX2_number_36 : decode cX2_number 36 = .ok (.caload, 1) := by decide +kernel
theorem dX2_number_37 : decode cX2_number 37 = .ok (.bipush 100, 2) := by decide +kernel
theorem dX2_number_39 : decode cX2_number 39 = .ok (.if_icmp .ne 44, 3) := by decide +kernel
theorem dX2_number_83 : decode cX2_number 83 = .ok (.dload 4, 2) := by decide +kernel
theorem dX2_number_85 : decode cX2_number 85 = .ok (.dload 6, 2) := by decide +kernel
theorem dX2_number_87 : decode cX2_number 87 = .ok (.ddiv, 1) := by decide +kernel
theorem dX2_number_88 : decode cX2_number 88 = .ok (.dreturn, 1) := by decide +kernel
theorem dX2_number_42 : decode cX2_number 42 = .ok (.iload_n 3, 1) := by decide +kernel
theorem dX2_number_43 : decode cX2_number 43 = .ok (.iconst 1, 1) := by decide +kernel
theorem dX2_number_44 : decode cX2_number 44 = .ok (.isub, 1) := by decide +kernel
theorem dX2_number_45 : decode cX2_number 45 = .ok (.istore 8, 2) := by decide +kernel
theorem dX2_number_47 : decode cX2_number 47 = .ok (.iload 8, 2) := by decide +kernel
theorem dX2_number_49 : decode cX2_number 49 = .ok (.aload_n 0, 1) := by decide +kernel
theorem dX2_number_50 : decode cX2_number 50 = .ok (.getfield 29, 3) := by decide +kernel
theorem dX2_number_53 : decode cX2_number 53 = .ok (.iload_n 2, 1) := by decide +kernel
theorem dX2_number_54 : decode cX2_number 54 = .ok (.iaload, 1) := by decide +kernel
theorem dX2_number_55 : decode cX2_number 55 = .ok (.if_icmp .le 28, 3) := by decide +kernel
theorem dX2_number_58 : decode cX2_number 58 = .ok (.aload_n 1, 1) := by decide +kernel
theorem dX2_number_59 : decode cX2_number 59 = .ok (.iload 8, 2) := by decide +kernel
theorem dX2_number_61 : decode cX2_number 61 = .ok (.invokevirtual 77, 3) := by decide +kernel
theorem dX2_number_64 : decode cX2_number 64 = .ok (.bipush 46, 2) := by decide +kernel
theorem dX2_number_66 : decode cX2_number 66 = .ok (.if_icmp .eq 17, 3) := by decide +kernel
theorem dX2_number_69 : decode cX2_number 69 = .ok (.dload 6, 2) := by decide +kernel
theorem dX2_number_71 : decode cX2_number 71 = .ok (.ldc2_w 141, 3) := by decide +kernel
theorem dX2_number_74 : decode cX2_number 74 = .ok (.dmul, 1) := by decide +kernel
theorem dX2_number_75 : decode cX2_number 75 = .ok (.dstore 6, 2) := by decide +kernel
theorem dX2_number_77 : decode cX2_number 77 = .ok (.iinc 8 (-1), 3) := by decide +kernel
theorem dX2_number_80 : decode cX2_number 80 = .ok (.goto (-33), 3) := by decide +kernel
theorem dX8_isWithin_0 : decode cX8_isWithin 0 = .ok (.dload_n 1, 1) := by decide +kernel
theorem dX8_isWithin_1 : decode cX8_isWithin 1 = .ok (.ldc2_w 135, 3) := by decide +kernel
theorem dX8_isWithin_4 : decode cX8_isWithin 4 = .ok (.dcmp .l, 1) := by decide +kernel
theorem dX8_isWithin_5 : decode cX8_isWithin 5 = .ok (.ifCond .lt 15, 3) := by decide +kernel
theorem dX8_isWithin_20 : decode cX8_isWithin 20 = .ok (.iconst 0, 1) := by decide +kernel
theorem dX8_isWithin_21 : decode cX8_isWithin 21 = .ok (.ireturn, 1) := by decide +kernel
theorem dX8_isWithin_8 : decode cX8_isWithin 8 = .ok (.dload_n 1, 1) := by decide +kernel
theorem dX8_isWithin_9 : decode cX8_isWithin 9 = .ok (.ldc2_w 137, 3) := by decide +kernel
theorem dX8_isWithin_12 : decode cX8_isWithin 12 = .ok (.dcmp .g, 1) := by decide +kernel
theorem dX8_isWithin_13 : decode cX8_isWithin 13 = .ok (.ifCond .gt 7, 3) := by decide +kernel
theorem dX8_isWithin_16 : decode cX8_isWithin 16 = .ok (.iconst 1, 1) := by decide +kernel
theorem dX8_isWithin_17 : decode cX8_isWithin 17 = .ok (.goto 4, 3) := by decide +kernel
theorem dX8_has_0 : decode cX8_has 0 = .ok (.iload_n 1, 1) := by decide +kernel
theorem dX8_has_1 : decode cX8_has 1 = .ok (.ifCond .lt 13, 3) := by decide +kernel
theorem dX8_has_14 : decode cX8_has 14 = .ok (.iconst 0, 1) := by decide +kernel
theorem dX8_has_15 : decode cX8_has 15 = .ok (.ireturn, 1) := by decide +kernel
theorem dX8_has_4 : decode cX8_has 4 = .ok (.iload_n 1, 1) := by decide +kernel
theorem dX8_has_5 : decode cX8_has 5 = .ok (.bipush 8, 2) := by decide +kernel
theorem dX8_has_7 : decode cX8_has 7 = .ok (.if_icmp .ge 7, 3) := by decide +kernel
theorem dX8_has_10 : decode cX8_has 10 = .ok (.iconst 1, 1) := by decide +kernel
theorem dX8_has_11 : decode cX8_has 11 = .ok (.goto 4, 3) := by decide +kernel
theorem dX8_append_0 : decode cX8_append 0 = .ok (.aload_n 0, 1) := by decide +kernel
theorem dX8_append_1 : decode cX8_append 1 = .ok (.iload_n 1, 1) := by decide +kernel
theorem dX8_append_2 : decode cX8_append 2 = .ok (.invokevirtual 21, 3) := by decide +kernel
theorem dX8_append_5 : decode cX8_append 5 = .ok (.ifCond .eq 23, 3) := by decide +kernel
theorem dX8_append_28 : decode cX8_append 28 = .ok (.iconst 0, 1) := by decide +kernel
theorem dX8_append_29 : decode cX8_append 29 = .ok (.ireturn, 1) := by decide +kernel
theorem dX8_append_8 : decode cX8_append 8 = .ok (.iload_n 2, 1) := by decide +kernel
theorem dX8_append_9 : decode cX8_append 9 = .ok (.ifCond .lt 19, 3) := by decide +kernel
theorem dX8_append_12 : decode cX8_append 12 = .ok (.iload_n 2, 1) := by decide +kernel
theorem dX8_append_13 : decode cX8_append 13 = .ok (.bipush 8, 2) := by decide +kernel
theorem dX8_append_15 : decode cX8_append 15 = .ok (.if_icmp .gt 13, 3) := by decide +kernel
theorem dX8_append_18 : decode cX8_append 18 = .ok (.aload_n 0, 1) := by decide +kernel
theorem dX8_append_19 : decode cX8_append 19 = .ok (.getfield 18, 3) := by decide +kernel
theorem dX8_append_22 : decode cX8_append 22 = .ok (.iload_n 1, 1) := by decide +kernel
theorem dX8_append_23 : decode cX8_append 23 = .ok (.iaload, 1) := by decide +kernel
theorem dX8_append_24 : decode cX8_append 24 = .ok (.iconst 4, 1) := by decide +kernel
theorem dX8_append_25 : decode cX8_append 25 = .ok (.if_icmp .lt 5, 3) := by decide +kernel
theorem dX8_append_30 : decode cX8_append 30 = .ok (.iload_n 1, 1) := by decide +kernel
theorem dX8_append_31 : decode cX8_append 31 = .ok (.iconst 4, 1) := by decide +kernel
theorem dX8_append_32 : decode cX8_append 32 = .ok (.imul, 1) := by decide +kernel
theorem dX8_append_33 : decode cX8_append 33 = .ok (.aload_n 0, 1) := by decide +kernel
theorem dX8_append_34 : decode cX8_append 34 = .ok (.getfield 18, 3) := by decide +kernel
theorem dX8_append_37 : decode cX8_append 37 = .ok (.iload_n 1, 1) := by decide +kernel
theorem dX8_append_38 : decode cX8_append 38 = .ok (.iaload, 1) := by decide +kernel
theorem dX8_append_39 : decode cX8_append 39 = .ok (.iadd, 1) := by decide +kernel
theorem dX8_append_40 : decode cX8_append 40 = .ok (.istore 4, 2) := by decide +kernel
theorem dX8_append_42 : decode cX8_append 42 = .ok (.aload_n 0, 1) := by decide +kernel
theorem dX8_append_43 : decode cX8_append 43 = .ok (.getfield 11, 3) := by decide +kernel
theorem dX8_append_46 : decode cX8_append 46 = .ok (.iload 4, 2) := by decide +kernel
theorem dX8_append_48 : decode cX8_append 48 = .ok (.iload_n 2, 1) := by decide +kernel
theorem dX8_append_49 : decode cX8_append 49 = .ok (.iastore, 1) := by decide +kernel
theorem dX8_append_50 : decode cX8_append 50 = .ok (.aload_n 0, 1) := by decide +kernel
theorem dX8_append_51 : decode cX8_append 51 = .ok (.getfield 15, 3) := by decide +kernel
theorem dX8_append_54 : decode cX8_append 54 = .ok (.iload 4, 2) := by decide +kernel
theorem dX8_append_56 : decode cX8_append 56 = .ok (.iload_n 3, 1) := by decide +kernel
theorem dX8_append_57 : decode cX8_append 57 = .ok (.iastore, 1) := by decide +kernel
theorem dX8_append_58 : decode cX8_append 58 = .ok (.aload_n 0, 1) := by decide +kernel
theorem dX8_append_59 : decode cX8_append 59 = .ok (.getfield 18, 3) := by decide +kernel
theorem dX8_append_62 : decode cX8_append 62 = .ok (.iload_n 1, 1) := by decide +kernel
theorem dX8_append_63 : decode cX8_append 63 = .ok (.dup2, 1) := by decide +kernel
theorem dX8_append_64 : decode cX8_append 64 = .ok (.iaload, 1) := by decide +kernel
theorem dX8_append_65 : decode cX8_append 65 = .ok (.iconst 1, 1) := by decide +kernel
theorem dX8_append_66 : decode cX8_append 66 = .ok (.iadd, 1) := by decide +kernel
theorem dX8_append_67 : decode cX8_append 67 = .ok (.iastore, 1) := by decide +kernel
theorem dX8_append_68 : decode cX8_append 68 = .ok (.iconst 1, 1) := by decide +kernel
theorem dX8_append_69 : decode cX8_append 69 = .ok (.ireturn, 1) := by decide +kernel
theorem dX8_waitUnits_0 : decode cX8_waitUnits 0 = .ok (.iload_n 1, 1) := by decide +kernel
theorem dX8_waitUnits_1 : decode cX8_waitUnits 1 = .ok (.iconst 0, 1) := by decide +kernel
theorem dX8_waitUnits_2 : decode cX8_waitUnits 2 = .ok (.invokestatic 127, 3) := by decide +kernel
theorem dX8_waitUnits_5 : decode cX8_waitUnits 5 = .ok (.istore_n 3, 1) := by decide +kernel
theorem dX8_waitUnits_6 : decode cX8_waitUnits 6 = .ok (.iload_n 3, 1) := by decide +kernel
theorem dX8_waitUnits_7 : decode cX8_waitUnits 7 = .ok (.bipush 50, 2) := by decide +kernel
theorem dX8_waitUnits_9 : decode cX8_waitUnits 9 = .ok (.aload_n 2, 1) := by decide +kernel
theorem dX8_waitUnits_10 : decode cX8_waitUnits 10 = .ok (.getfield 25, 3) := by decide +kernel
theorem dX8_waitUnits_13 : decode cX8_waitUnits 13 = .ok (.isub, 1) := by decide +kernel
theorem dX8_waitUnits_14 : decode cX8_waitUnits 14 = .ok (.invokestatic 132, 3) := by decide +kernel
theorem dX8_waitUnits_17 : decode cX8_waitUnits 17 = .ok (.istore 4, 2) := by decide +kernel
theorem dX8_waitUnits_19 : decode cX8_waitUnits 19 = .ok (.aload_n 2, 1) := by decide +kernel
theorem dX8_waitUnits_20 : decode cX8_waitUnits 20 = .ok (.dup, 1) := by decide +kernel
theorem dX8_waitUnits_21 : decode cX8_waitUnits 21 = .ok (.getfield 25, 3) := by decide +kernel
theorem dX8_waitUnits_24 : decode cX8_waitUnits 24 = .ok (.iload 4, 2) := by decide +kernel
theorem dX8_waitUnits_26 : decode cX8_waitUnits 26 = .ok (.iadd, 1) := by decide +kernel
theorem dX8_waitUnits_27 : decode cX8_waitUnits 27 = .ok (.putfield 25, 3) := by decide +kernel
theorem dX8_waitUnits_30 : decode cX8_waitUnits 30 = .ok (.iload 4, 2) := by decide +kernel
theorem dX8_waitUnits_32 : decode cX8_waitUnits 32 = .ok (.iload_n 3, 1) := by decide +kernel
theorem dX8_waitUnits_33 : decode cX8_waitUnits 33 = .ok (.if_icmp .ge 7, 3) := by decide +kernel
theorem dX8_waitUnits_40 : decode cX8_waitUnits 40 = .ok (.iconst 0, 1) := by decide +kernel
theorem dX8_waitUnits_41 : decode cX8_waitUnits 41 = .ok (.ireturn, 1) := by decide +kernel
theorem dX8_waitUnits_36 : decode cX8_waitUnits 36 = .ok (.iconst 5, 1) := by decide +kernel
theorem dX8_waitUnits_37 : decode cX8_waitUnits 37 = .ok (.goto 4, 3) := by decide +kernel
theorem dX8_addCell_0 : decode cX8_addCell 0 = .ok (.aload_n 2, 1) := by decide +kernel
theorem dX8_addCell_1 : decode cX8_addCell 1 = .ok (.invokevirtual 114, 3) := by decide +kernel
theorem dX8_addCell_4 : decode cX8_addCell 4 = .ok (.ifCond .eq 22, 3) := by decide +kernel
theorem dX8_addCell_26 : decode cX8_addCell 26 = .ok (.return_, 1) := by decide +kernel
theorem dX8_addCell_7 : decode cX8_addCell 7 = .ok (.aload_n 1, 1) := by decide +kernel
theorem dX8_addCell_8 : decode cX8_addCell 8 = .ok (.aload_n 1, 1) := by decide +kernel
theorem dX8_addCell_9 : decode cX8_addCell 9 = .ok (.getfield 53, 3) := by decide +kernel
theorem dX8_addCell_12 : decode cX8_addCell 12 = .ok (.aload_n 2, 1) := by decide +kernel
theorem dX8_addCell_13 : decode cX8_addCell 13 = .ok (.iconst 0, 1) := by decide +kernel
theorem dX8_addCell_14 : decode cX8_addCell 14 = .ok (.aload_n 2, 1) := by decide +kernel
theorem dX8_addCell_15 : decode cX8_addCell 15 = .ok (.getfield 120, 3) := by decide +kernel
theorem dX8_addCell_18 : decode cX8_addCell 18 = .ok (.invokevirtual 123, 3) := by decide +kernel
theorem dX8_addCell_21 : decode cX8_addCell 21 = .ok (.i2d, 1) := by decide +kernel
theorem dX8_addCell_22 : decode cX8_addCell 22 = .ok (.dadd, 1) := by decide +kernel
theorem dX8_addCell_23 : decode cX8_addCell 23 = .ok (.putfield 53, 3) := by decide +kernel
theorem dX8_addLength_0 : decode cX8_addLength 0 = .ok (.aload_n 3, 1) := by decide +kernel
theorem dX8_addLength_1 : decode cX8_addLength 1 = .ok (.ifnull 11, 3) := by decide +kernel
theorem dX8_addLength_12 : decode cX8_addLength 12 = .ok (.iconst 5, 1) := by decide +kernel
theorem dX8_addLength_13 : decode cX8_addLength 13 = .ok (.ireturn, 1) := by decide +kernel
theorem dX8_addLength_4 : decode cX8_addLength 4 = .ok (.aload_n 3, 1) := by decide +kernel
theorem dX8_addLength_5 : decode cX8_addLength 5 = .ok (.iload_n 1, 1) := by decide +kernel
theorem dX8_addLength_6 : decode cX8_addLength 6 = .ok (.invokevirtual 72, 3) := by decide +kernel
theorem dX8_addLength_9 : decode cX8_addLength 9 = .ok (.ifCond .ne 5, 3) := by decide +kernel
theorem dX8_addLength_14 : decode cX8_addLength 14 = .ok (.aload_n 2, 1) := by decide +kernel
theorem dX8_addLength_15 : decode cX8_addLength 15 = .ok (.aload_n 2, 1) := by decide +kernel
theorem dX8_addLength_16 : decode cX8_addLength 16 = .ok (.getfield 53, 3) := by decide +kernel
theorem dX8_addLength_19 : decode cX8_addLength 19 = .ok (.aload_n 3, 1) := by decide +kernel
theorem dX8_addLength_20 : decode cX8_addLength 20 = .ok (.getfield 75, 3) := by decide +kernel
theorem dX8_addLength_23 : decode cX8_addLength 23 = .ok (.iload_n 1, 1) := by decide +kernel
theorem dX8_addLength_24 : decode cX8_addLength 24 = .ok (.iaload, 1) := by decide +kernel
theorem dX8_addLength_25 : decode cX8_addLength 25 = .ok (.i2d, 1) := by decide +kernel
theorem dX8_addLength_26 : decode cX8_addLength 26 = .ok (.dadd, 1) := by decide +kernel
theorem dX8_addLength_27 : decode cX8_addLength 27 = .ok (.putfield 53, 3) := by decide +kernel
theorem dX8_addLength_30 : decode cX8_addLength 30 = .ok (.iconst 0, 1) := by decide +kernel
theorem dX8_addLength_31 : decode cX8_addLength 31 = .ok (.ireturn, 1) := by decide +kernel
theorem dX8_reckon_0 : decode cX8_reckon 0 = .ok (.aload 4, 2) := by decide +kernel
theorem dX8_reckon_2 : decode cX8_reckon 2 = .ok (.ifnull 12, 3) := by decide +kernel
theorem dX8_reckon_14 : decode cX8_reckon 14 = .ok (.iconst 5, 1) := by decide +kernel
theorem dX8_reckon_15 : decode cX8_reckon 15 = .ok (.ireturn, 1) := by decide +kernel
theorem dX8_reckon_5 : decode cX8_reckon 5 = .ok (.aload 4, 2) := by decide +kernel
theorem dX8_reckon_7 : decode cX8_reckon 7 = .ok (.iload_n 2, 1) := by decide +kernel
theorem dX8_reckon_8 : decode cX8_reckon 8 = .ok (.invokevirtual 64, 3) := by decide +kernel
theorem dX8_reckon_11 : decode cX8_reckon 11 = .ok (.ifCond .ne 5, 3) := by decide +kernel
theorem dX8_reckon_16 : decode cX8_reckon 16 = .ok (.aload 4, 2) := by decide +kernel
theorem dX8_reckon_18 : decode cX8_reckon 18 = .ok (.aload 5, 2) := by decide +kernel
theorem dX8_reckon_20 : decode cX8_reckon 20 = .ok (.iload_n 2, 1) := by decide +kernel
theorem dX8_reckon_21 : decode cX8_reckon 21 = .ok (.invokevirtual 69, 3) := by decide +kernel
theorem dX8_reckon_24 : decode cX8_reckon 24 = .ok (.dstore 6, 2) := by decide +kernel
theorem dX8_reckon_26 : decode cX8_reckon 26 = .ok (.iload_n 1, 1) := by decide +kernel
theorem dX8_reckon_27 : decode cX8_reckon 27 = .ok (.iconst 3, 1) := by decide +kernel
theorem dX8_reckon_28 : decode cX8_reckon 28 = .ok (.if_icmp .ne 19, 3) := by decide +kernel
theorem dX8_reckon_47 : decode cX8_reckon 47 = .ok (.aload_n 3, 1) := by decide +kernel
theorem dX8_reckon_48 : decode cX8_reckon 48 = .ok (.iload_n 1, 1) := by decide +kernel
theorem dX8_reckon_49 : decode cX8_reckon 49 = .ok (.ifCond .ne 8, 3) := by decide +kernel
theorem dX8_reckon_57 : decode cX8_reckon 57 = .ok (.iload_n 1, 1) := by decide +kernel
theorem dX8_reckon_58 : decode cX8_reckon 58 = .ok (.iconst 1, 1) := by decide +kernel
theorem dX8_reckon_59 : decode cX8_reckon 59 = .ok (.if_icmp .ne 13, 3) := by decide +kernel
theorem dX8_reckon_72 : decode cX8_reckon 72 = .ok (.aload_n 3, 1) := by decide +kernel
theorem dX8_reckon_73 : decode cX8_reckon 73 = .ok (.getfield 53, 3) := by decide +kernel
theorem dX8_reckon_76 : decode cX8_reckon 76 = .ok (.dload 6, 2) := by decide +kernel
theorem dX8_reckon_78 : decode cX8_reckon 78 = .ok (.dmul, 1) := by decide +kernel
theorem dX8_reckon_79 : decode cX8_reckon 79 = .ok (.putfield 53, 3) := by decide +kernel
theorem dX8_reckon_82 : decode cX8_reckon 82 = .ok (.iconst 0, 1) := by decide +kernel
theorem dX8_reckon_83 : decode cX8_reckon 83 = .ok (.ireturn, 1) := by decide +kernel
theorem dX8_reckon_62 : decode cX8_reckon 62 = .ok (.aload_n 3, 1) := by decide +kernel
theorem dX8_reckon_63 : decode cX8_reckon 63 = .ok (.getfield 53, 3) := by decide +kernel
theorem dX8_reckon_66 : decode cX8_reckon 66 = .ok (.dload 6, 2) := by decide +kernel
theorem dX8_reckon_68 : decode cX8_reckon 68 = .ok (.dadd, 1) := by decide +kernel
theorem dX8_reckon_69 : decode cX8_reckon 69 = .ok (.goto 10, 3) := by decide +kernel
theorem dX8_reckon_52 : decode cX8_reckon 52 = .ok (.dload 6, 2) := by decide +kernel
theorem dX8_reckon_54 : decode cX8_reckon 54 = .ok (.goto 25, 3) := by decide +kernel
theorem dX8_reckon_31 : decode cX8_reckon 31 = .ok (.aload_n 3, 1) := by decide +kernel
theorem dX8_reckon_32 : decode cX8_reckon 32 = .ok (.getfield 53, 3) := by decide +kernel
theorem dX8_reckon_35 : decode cX8_reckon 35 = .ok (.dload 6, 2) := by decide +kernel
theorem dX8_reckon_37 : decode cX8_reckon 37 = .ok (.dcmp .l, 1) := by decide +kernel
theorem dX8_reckon_38 : decode cX8_reckon 38 = .ok (.ifCond .ne 7, 3) := by decide +kernel
theorem dX8_reckon_45 : decode cX8_reckon 45 = .ok (.iconst 5, 1) := by decide +kernel
theorem dX8_reckon_46 : decode cX8_reckon 46 = .ok (.ireturn, 1) := by decide +kernel
theorem dX8_reckon_41 : decode cX8_reckon 41 = .ok (.iconst 0, 1) := by decide +kernel
theorem dX8_reckon_42 : decode cX8_reckon 42 = .ok (.goto 4, 3) := by decide +kernel
theorem gw_X3_wholeNumber : wsX3_wholeNumber.all goodWord = true := by decide +kernel
theorem gX2_number_X3_wholeNumber : GoodIn wsX2_number (wsV RX2 138 RX3 yX3_wholeNumber wsX3_wholeNumber) := goodIn_app (goodIn_sub (List.forall_mem_cons.mpr ⟨(List.mem_cons_of_mem _ (List.mem_append_left _ (List.mem_append_left _ lm4))), List.forall_mem_cons.mpr ⟨(List.mem_cons_of_mem _ (List.mem_append_left _ (List.mem_append_left _ lm5))), List.forall_mem_cons.mpr ⟨(List.mem_cons_of_mem _ (List.mem_append_left _ (List.mem_append_left _ lm6))), List.forall_mem_cons.mpr ⟨(List.mem_cons_of_mem _ (List.mem_append_left _ (List.mem_append_left _ lm7))), (fun _ h => absurd h List.not_mem_nil)⟩⟩⟩⟩) (by decide +kernel)) (goodIn_sub (by unfold wsX3_wholeNumber; exact List.forall_mem_cons.mpr ⟨(List.mem_cons_of_mem _ (List.mem_append_left _ (List.mem_append_left _ lm8))), List.forall_mem_append.mpr ⟨List.forall_mem_cons.mpr ⟨(List.mem_cons_of_mem _ (List.mem_append_left _ (List.mem_append_left _ lm9))), List.forall_mem_cons.mpr ⟨(List.mem_cons_of_mem _ (List.mem_append_left _ (List.mem_append_left _ lm10))), List.forall_mem_cons.mpr ⟨(List.mem_cons_of_mem _ (List.mem_append_left _ (List.mem_append_left _ lm11))), List.forall_mem_cons.mpr ⟨(List.mem_cons_of_mem _ (List.mem_append_left _ (List.mem_append_left _ lm7))), List.forall_mem_cons.mpr ⟨(List.mem_cons_of_mem _ (List.mem_append_left _ (List.mem_append_left _ lm12))), List.forall_mem_cons.mpr ⟨(List.mem_cons_of_mem _ (List.mem_append_left _ (List.mem_append_left _ lm13))), List.forall_mem_cons.mpr ⟨(List.mem_cons_of_mem _ (List.mem_append_left _ (List.mem_append_left _ lm14))), (fun _ h => absurd h List.not_mem_nil)⟩⟩⟩⟩⟩⟩⟩, (fun _ h => (List.mem_cons_of_mem _ (List.mem_append_right _ h)))⟩⟩) gw_X3_wholeNumber)
theorem gX2_number_X3_at : GoodIn wsX2_number (wsV RX2 77 RX3 yX3_at wsX3_at) := goodIn_app (goodIn_sub (List.forall_mem_cons.mpr ⟨(List.mem_cons_of_mem _ (List.mem_append_left _ (List.mem_append_left _ lm15))), List.forall_mem_cons.mpr ⟨(List.mem_cons_of_mem _ (List.mem_append_left _ (List.mem_append_left _ lm10))), List.forall_mem_cons.mpr ⟨(List.mem_cons_of_mem _ (List.mem_append_left _ (List.mem_append_left _ lm11))), List.forall_mem_cons.mpr ⟨(List.mem_cons_of_mem _ (List.mem_append_left _ (List.mem_append_left _ lm7))), (fun _ h => absurd h List.not_mem_nil)⟩⟩⟩⟩) (by decide +kernel)) (goodIn_sub (by unfold wsX3_at; exact List.forall_mem_cons.mpr ⟨(List.mem_cons_of_mem _ (List.mem_append_left _ (List.mem_append_left _ lm12))), List.forall_mem_append.mpr ⟨List.forall_mem_cons.mpr ⟨(List.mem_cons_of_mem _ (List.mem_append_left _ (List.mem_append_left _ lm13))), List.forall_mem_cons.mpr ⟨(List.mem_cons_of_mem _ (List.mem_append_left _ (List.mem_append_left _ lm14))), (fun _ h => absurd h List.not_mem_nil)⟩⟩, (fun _ h => (List.mem_cons_of_mem _ (List.mem_append_right _ h)))⟩⟩) gw_X3_at)
theorem gw_X8_has : wsX8_has.all goodWord = true := by decide +kernel
theorem gX8_append_X8_has : GoodIn wsX8_append (wsV RX8 21 RX8 yX8_has wsX8_has) := goodIn_app (goodIn_sub (List.forall_mem_cons.mpr ⟨(List.mem_cons_of_mem _ (List.mem_append_left _ lm3)), List.forall_mem_cons.mpr ⟨(List.mem_cons_of_mem _ (List.mem_append_left _ lm4)), List.forall_mem_cons.mpr ⟨(List.mem_cons_of_mem _ (List.mem_append_left _ lm5)), List.forall_mem_cons.mpr ⟨(List.mem_cons_of_mem _ (List.mem_append_left _ lm6)), (fun _ h => absurd h List.not_mem_nil)⟩⟩⟩⟩) (by decide +kernel)) (goodIn_sub (by unfold wsX8_has; exact List.forall_mem_cons.mpr ⟨(List.mem_cons_of_mem _ (List.mem_append_left _ lm7)), (fun _ h => absurd h List.not_mem_nil)⟩) gw_X8_has)
theorem gw_X3_isWholeNumber : wsX3_isWholeNumber.all goodWord = true := by decide +kernel
theorem gX8_addCell_X3_isWholeNumber : GoodIn wsX8_addCell (wsV RX8 114 RX3 yX3_isWholeNumber wsX3_isWholeNumber) := goodIn_app (goodIn_sub (List.forall_mem_cons.mpr ⟨(List.mem_cons_of_mem _ (List.mem_append_left _ (List.mem_append_left _ lm2))), List.forall_mem_cons.mpr ⟨(List.mem_cons_of_mem _ (List.mem_append_left _ (List.mem_append_left _ lm3))), List.forall_mem_cons.mpr ⟨(List.mem_cons_of_mem _ (List.mem_append_left _ (List.mem_append_left _ lm4))), List.forall_mem_cons.mpr ⟨(List.mem_cons_of_mem _ (List.mem_append_left _ (List.mem_append_left _ lm5))), (fun _ h => absurd h List.not_mem_nil)⟩⟩⟩⟩) (by decide +kernel)) (goodIn_sub (by unfold wsX3_isWholeNumber; exact List.forall_mem_cons.mpr ⟨(List.mem_cons_of_mem _ (List.mem_append_left _ (List.mem_append_left _ lm6))), List.forall_mem_append.mpr ⟨List.forall_mem_cons.mpr ⟨(List.mem_cons_of_mem _ (List.mem_append_left _ (List.mem_append_left _ lm7))), List.forall_mem_cons.mpr ⟨(List.mem_cons_of_mem _ (List.mem_append_left _ (List.mem_append_left _ lm8))), List.forall_mem_cons.mpr ⟨(List.mem_cons_of_mem _ (List.mem_append_left _ (List.mem_append_left _ lm9))), List.forall_mem_cons.mpr ⟨(List.mem_cons_of_mem _ (List.mem_append_left _ (List.mem_append_left _ lm10))), List.forall_mem_cons.mpr ⟨(List.mem_cons_of_mem _ (List.mem_append_left _ (List.mem_append_left _ lm5))), List.forall_mem_cons.mpr ⟨(List.mem_cons_of_mem _ (List.mem_append_left _ (List.mem_append_left _ lm11))), List.forall_mem_cons.mpr ⟨(List.mem_cons_of_mem _ (List.mem_append_left _ (List.mem_append_left _ lm12))), List.forall_mem_cons.mpr ⟨(List.mem_cons_of_mem _ (List.mem_append_left _ (List.mem_append_left _ lm13))), List.forall_mem_cons.mpr ⟨(List.mem_cons_of_mem _ (List.mem_append_left _ (List.mem_append_left _ lm14))), List.forall_mem_cons.mpr ⟨(List.mem_cons_of_mem _ (List.mem_append_left _ (List.mem_append_left _ lm15))), List.forall_mem_cons.mpr ⟨(List.mem_cons_of_mem _ (List.mem_append_left _ (List.mem_append_left _ lm16))), (fun _ h => absurd h List.not_mem_nil)⟩⟩⟩⟩⟩⟩⟩⟩⟩⟩⟩, (fun _ h => (List.mem_cons_of_mem _ (List.mem_append_right _ h)))⟩⟩) gw_X3_isWholeNumber)
theorem gX8_addCell_X3_wholeNumber : GoodIn wsX8_addCell (wsV RX8 123 RX3 yX3_wholeNumber wsX3_wholeNumber) := goodIn_app (goodIn_sub (List.forall_mem_cons.mpr ⟨(List.mem_cons_of_mem _ (List.mem_append_left _ (List.mem_append_left _ lm17))), List.forall_mem_cons.mpr ⟨(List.mem_cons_of_mem _ (List.mem_append_left _ (List.mem_append_left _ lm18))), List.forall_mem_cons.mpr ⟨(List.mem_cons_of_mem _ (List.mem_append_left _ (List.mem_append_left _ lm19))), List.forall_mem_cons.mpr ⟨(List.mem_cons_of_mem _ (List.mem_append_left _ (List.mem_append_left _ lm5))), (fun _ h => absurd h List.not_mem_nil)⟩⟩⟩⟩) (by decide +kernel)) (goodIn_sub (by unfold wsX3_wholeNumber; exact List.forall_mem_cons.mpr ⟨(List.mem_cons_of_mem _ (List.mem_append_left _ (List.mem_append_left _ lm20))), List.forall_mem_append.mpr ⟨List.forall_mem_cons.mpr ⟨(List.mem_cons_of_mem _ (List.mem_append_left _ (List.mem_append_left _ lm8))), List.forall_mem_cons.mpr ⟨(List.mem_cons_of_mem _ (List.mem_append_left _ (List.mem_append_left _ lm9))), List.forall_mem_cons.mpr ⟨(List.mem_cons_of_mem _ (List.mem_append_left _ (List.mem_append_left _ lm10))), List.forall_mem_cons.mpr ⟨(List.mem_cons_of_mem _ (List.mem_append_left _ (List.mem_append_left _ lm5))), List.forall_mem_cons.mpr ⟨(List.mem_cons_of_mem _ (List.mem_append_left _ (List.mem_append_left _ lm11))), List.forall_mem_cons.mpr ⟨(List.mem_cons_of_mem _ (List.mem_append_left _ (List.mem_append_left _ lm7))), List.forall_mem_cons.mpr ⟨(List.mem_cons_of_mem _ (List.mem_append_left _ (List.mem_append_left _ lm12))), (fun _ h => absurd h List.not_mem_nil)⟩⟩⟩⟩⟩⟩⟩, (fun _ h => (List.mem_cons_of_mem _ (List.mem_append_right _ h)))⟩⟩) gw_X3_wholeNumber)
theorem gX8_addLength_X2_hasArgument : GoodIn wsX8_addLength (wsV RX8 72 RX2 yX2_hasArgument wsX2_hasArgument) := goodIn_app (goodIn_sub (List.forall_mem_cons.mpr ⟨(List.mem_cons_of_mem _ (List.mem_append_left _ (List.mem_append_left _ lm2))), List.forall_mem_cons.mpr ⟨(List.mem_cons_of_mem _ (List.mem_append_left _ (List.mem_append_left _ lm3))), List.forall_mem_cons.mpr ⟨(List.mem_cons_of_mem _ (List.mem_append_left _ (List.mem_append_left _ lm4))), List.forall_mem_cons.mpr ⟨(List.mem_cons_of_mem _ (List.mem_append_left _ (List.mem_append_left _ lm5))), (fun _ h => absurd h List.not_mem_nil)⟩⟩⟩⟩) (by decide +kernel)) (goodIn_sub (by unfold wsX2_hasArgument; exact List.forall_mem_cons.mpr ⟨(List.mem_cons_of_mem _ (List.mem_append_left _ (List.mem_append_left _ lm6))), List.forall_mem_append.mpr ⟨List.forall_mem_cons.mpr ⟨(List.mem_cons_of_mem _ (List.mem_append_left _ (List.mem_append_left _ lm7))), (fun _ h => absurd h List.not_mem_nil)⟩, (fun _ h => (List.mem_cons_of_mem _ (List.mem_append_right _ h)))⟩⟩) gw_X2_hasArgument)
theorem gw_X2_hasNumber : wsX2_hasNumber.all goodWord = true := by decide +kernel
theorem gX8_reckon_X2_hasNumber : GoodIn wsX8_reckon (wsV RX8 64 RX2 yX2_hasNumber wsX2_hasNumber) := goodIn_app (goodIn_sub (List.forall_mem_cons.mpr ⟨(List.mem_cons_of_mem _ (List.mem_append_left _ (List.mem_append_left _ (List.mem_append_left _ (List.mem_append_left _ lm1))))), List.forall_mem_cons.mpr ⟨(List.mem_cons_of_mem _ (List.mem_append_left _ (List.mem_append_left _ (List.mem_append_left _ (List.mem_append_left _ lm2))))), List.forall_mem_cons.mpr ⟨(List.mem_cons_of_mem _ (List.mem_append_left _ (List.mem_append_left _ (List.mem_append_left _ (List.mem_append_left _ lm3))))), List.forall_mem_cons.mpr ⟨(List.mem_cons_of_mem _ (List.mem_append_left _ (List.mem_append_left _ (List.mem_append_left _ (List.mem_append_left _ lm4))))), (fun _ h => absurd h List.not_mem_nil)⟩⟩⟩⟩) (by decide +kernel)) (goodIn_sub (by unfold wsX2_hasNumber; exact List.forall_mem_cons.mpr ⟨(List.mem_cons_of_mem _ (List.mem_append_left _ (List.mem_append_left _ (List.mem_append_left _ (List.mem_append_left _ lm5))))), List.forall_mem_append.mpr ⟨List.forall_mem_cons.mpr ⟨(List.mem_cons_of_mem _ (List.mem_append_left _ (List.mem_append_left _ (List.mem_append_left _ (List.mem_append_left _ lm6))))), List.forall_mem_cons.mpr ⟨(List.mem_cons_of_mem _ (List.mem_append_left _ (List.mem_append_left _ (List.mem_append_left _ (List.mem_append_left _ lm7))))), List.forall_mem_cons.mpr ⟨(List.mem_cons_of_mem _ (List.mem_append_left _ (List.mem_append_left _ (List.mem_append_left _ (List.mem_append_left _ lm8))))), List.forall_mem_cons.mpr ⟨(List.mem_cons_of_mem _ (List.mem_append_left _ (List.mem_append_left _ (List.mem_append_left _ (List.mem_append_left _ lm9))))), List.forall_mem_cons.mpr ⟨(List.mem_cons_of_mem _ (List.mem_append_left _ (List.mem_append_left _ (List.mem_append_left _ (List.mem_append_left _ lm4))))), List.forall_mem_cons.mpr ⟨(List.mem_cons_of_mem _ (List.mem_append_left _ (List.mem_append_left _ (List.mem_append_left _ (List.mem_append_left _ lm10))))), List.forall_mem_cons.mpr ⟨(List.mem_cons_of_mem _ (List.mem_append_left _ (List.mem_append_left _ (List.mem_append_left _ (List.mem_append_left _ lm11))))), (fun _ h => absurd h List.not_mem_nil)⟩⟩⟩⟩⟩⟩⟩, (fun _ h => (List.mem_cons_of_mem _ (List.mem_append_left _ (List.mem_append_right _ h))))⟩⟩) gw_X2_hasNumber)
theorem gw_X2_number : wsX2_number.all goodWord = true := by decide +kernel
theorem gX8_reckon_X2_number : GoodIn wsX8_reckon (wsV RX8 69 RX2 yX2_number wsX2_number) := goodIn_app (goodIn_sub (List.forall_mem_cons.mpr ⟨(List.mem_cons_of_mem _ (List.mem_append_left _ (List.mem_append_left _ (List.mem_append_left _ (List.mem_append_left _ lm12))))), List.forall_mem_cons.mpr ⟨(List.mem_cons_of_mem _ (List.mem_append_left _ (List.mem_append_left _ (List.mem_append_left _ (List.mem_append_left _ lm13))))), List.forall_mem_cons.mpr ⟨(List.mem_cons_of_mem _ (List.mem_append_left _ (List.mem_append_left _ (List.mem_append_left _ (List.mem_append_left _ lm14))))), List.forall_mem_cons.mpr ⟨(List.mem_cons_of_mem _ (List.mem_append_left _ (List.mem_append_left _ (List.mem_append_left _ (List.mem_append_left _ lm4))))), (fun _ h => absurd h List.not_mem_nil)⟩⟩⟩⟩) (by decide +kernel)) (goodIn_sub (by unfold wsX2_number; exact List.forall_mem_cons.mpr ⟨(List.mem_cons_of_mem _ (List.mem_append_left _ (List.mem_append_left _ (List.mem_append_left _ (List.mem_append_left _ lm15))))), List.forall_mem_append.mpr ⟨List.forall_mem_append.mpr ⟨List.forall_mem_cons.mpr ⟨(List.mem_cons_of_mem _ (List.mem_append_left _ (List.mem_append_left _ (List.mem_append_left _ (List.mem_append_left _ lm16))))), List.forall_mem_cons.mpr ⟨(List.mem_cons_of_mem _ (List.mem_append_left _ (List.mem_append_left _ (List.mem_append_left _ (List.mem_append_left _ lm17))))), List.forall_mem_cons.mpr ⟨(List.mem_cons_of_mem _ (List.mem_append_left _ (List.mem_append_left _ (List.mem_append_left _ (List.mem_append_left _ lm6))))), List.forall_mem_cons.mpr ⟨(List.mem_cons_of_mem _ (List.mem_append_left _ (List.mem_append_left _ (List.mem_append_left _ (List.mem_append_left _ lm18))))), List.forall_mem_cons.mpr ⟨(List.mem_cons_of_mem _ (List.mem_append_left _ (List.mem_append_left _ (List.mem_append_left _ (List.mem_append_left _ lm19))))), List.forall_mem_cons.mpr ⟨(List.mem_cons_of_mem _ (List.mem_append_left _ (List.mem_append_left _ (List.mem_append_left _ (List.mem_append_left _ lm20))))), List.forall_mem_cons.mpr ⟨(List.mem_cons_of_mem _ (List.mem_append_left _ (List.mem_append_left _ (List.mem_append_left _ (List.mem_append_left _ lm21))))), List.forall_mem_cons.mpr ⟨(List.mem_cons_of_mem _ (List.mem_append_left _ (List.mem_append_left _ (List.mem_append_left _ (List.mem_append_left _ lm22))))), List.forall_mem_cons.mpr ⟨(List.mem_cons_of_mem _ (List.mem_append_left _ (List.mem_append_left _ (List.mem_append_left _ (List.mem_append_left _ lm23))))), List.forall_mem_cons.mpr ⟨(List.mem_cons_of_mem _ (List.mem_append_left _ (List.mem_append_left _ (List.mem_append_left _ (List.mem_append_right _ lm0))))), List.forall_mem_cons.mpr ⟨(List.mem_cons_of_mem _ (List.mem_append_left _ (List.mem_append_left _ (List.mem_append_left _ (List.mem_append_right _ lm1))))), List.forall_mem_cons.mpr ⟨(List.mem_cons_of_mem _ (List.mem_append_left _ (List.mem_append_left _ (List.mem_append_left _ (List.mem_append_right _ lm2))))), List.forall_mem_cons.mpr ⟨(List.mem_cons_of_mem _ (List.mem_append_left _ (List.mem_append_left _ (List.mem_append_left _ (List.mem_append_right _ lm3))))), List.forall_mem_cons.mpr ⟨(List.mem_cons_of_mem _ (List.mem_append_left _ (List.mem_append_left _ (List.mem_append_left _ (List.mem_append_right _ lm4))))), List.forall_mem_cons.mpr ⟨(List.mem_cons_of_mem _ (List.mem_append_left _ (List.mem_append_left _ (List.mem_append_left _ (List.mem_append_right _ lm5))))), List.forall_mem_cons.mpr ⟨(List.mem_cons_of_mem _ (List.mem_append_left _ (List.mem_append_left _ (List.mem_append_left _ (List.mem_append_right _ lm6))))), (fun _ h => absurd h List.not_mem_nil)⟩⟩⟩⟩⟩⟩⟩⟩⟩⟩⟩⟩⟩⟩⟩⟩, (fun _ h => (List.mem_cons_of_mem _ (List.mem_append_left _ (List.mem_append_right _ h))))⟩, (fun _ h => (List.mem_cons_of_mem _ (List.mem_append_right _ h)))⟩⟩) gw_X2_number)
set_option maxHeartbeats 2000000 in
set_option maxRecDepth 100000 in
theorem k_number (l : Launch) (D : va_G) (g : Nat → Nat) (ka : Nat → ClassId) (ad : Nat → Nat) (i : Nat → Nat → Int32) (r : Nat → Nat → Nat) (L : Nat → Nat → Int64) (d : Nat → Nat → UInt64) (j : Nat) (x : Int32) (hO : OkI i) (hR : RS r) (sz : Nat) (hj : j < 13) (hx0 : 0 ≤ x.toInt) (hx1 : x.toInt ≤ 5) : Met l yX2_number wsX2_number ({ frames := 2, cells := 0, slots := 0, locals := 46 }) (va_Pc [.ref (g (240 + 9 * j)), .ref (g 14), .int x] (sj_B D (hwc g ka i r L d) (hT ka) sz (gx ad (va_A (hwc g ka i r L d) sz)))) (sj_Qd (S := Unit) D (fun v u => (dfin v)) (fun _ => hwc g ka i r L d) (fun _ => []) (va_A (hwc g ka i r L d) sz)) 0 0 (va_A (hwc g ka i r L d) sz) := by
  refine x_met (Ex := gx ad) (cc := cX2_number) (maxL := 9) (ret := (some .double)) (by decide) rfl (Nat.le_of_ble_eq_true rfl) ?_
  intro p e s m below meth c A ls hx hb hr hml hts hown hlocks hA hS hH hK hE hl
  have hown : s.vm.findClass RX2 = some m.cls := hown
  have in2 : ∀ w ∈ wsX20, w ∈ wsX2_number := (fun _ h => (List.mem_cons_of_mem _ (List.mem_append_left _ (List.mem_append_right _ h))))
  have wd0 := hts (.fieldLink RX2 29 "StoryDesk$Expression" "begins" "[I") (List.mem_cons_of_mem _ (List.mem_append_left _ (List.mem_append_left _ lm0)))
  have wd1 := hts (.fieldLink RX2 32 "StoryDesk$Expression" "lengths" "[I") (List.mem_cons_of_mem _ (List.mem_append_left _ (List.mem_append_left _ lm1)))
  have wd2 := hts (.fieldLink RX2 35 "StoryDesk$Expression" "argumentKinds" "[C") (List.mem_cons_of_mem _ (List.mem_append_left _ (List.mem_append_left _ lm2)))
  have wd3 := hts (.constantDouble RX2 141 (4621819117588971520)) (List.mem_cons_of_mem _ (List.mem_append_left _ (List.mem_append_left _ lm3)))
  have hl : lv_has ls 9 [(0, .ref (g (240 + 9 * j))), (1, .ref (g 14)), (2, .int x)] := hl
  have hK : va_K D vwCl (hT ka) s := hK
  refine lv_aload_n hx hb dX2_number_0 rfl (lv_at hl 0 rfl) ?_
  refine h_getr (ci := 2) (C := RX2) (F := TX2) (N := 11) hx hb hts in2 hown hK hH (lt_nK (by omega)) (kd_expr (t := 0) hj (by decide)) (by decide) rfl 8 (by decide) wd0 (fun _ h9 => h9) (by decide) rfl (t := (240 + 9 * j + 6)) ((hR _ _ (by unfold dyn; simp <;> omega)).trans (sr_expr (by omega) (by omega))) (lt_nK (by omega)) dX2_number_1 ?_
  refine lv_iload_n hx hb dX2_number_4 rfl (lv_at hl 2 rfl) ?_
  have bx_1 : (0 : Int) ≤ (i (240 + 9 * j + 6) (x.toInt).toNat).toInt ∧ (i (240 + 9 * j + 6) (x.toInt).toNat).toInt ≤ 61 := by have h9 := hO (240 + 9 * j + 6) (x.toInt).toNat; rw [bx_expr (t := 6) hj (by decide) (by decide) (x.toInt).toNat] at h9; exact h9
  refine h_iald hx hb hK hH (lt_nK (by omega)) (kd_expr (t := 6) hj (by decide)) (s_vin (N := 6) (rfl : x.toInt = _) (ln_expr (t := 6) hj (by decide)) (by omega) (by omega)) dX2_number_5 ?_
  have ek_2 : x.toNatClampNeg = (x.toInt).toNat := (s_cl (show x.toInt = x.toInt by omega))
  refine sj_i (y := (i (240 + 9 * j + 6) (x.toInt).toNat)) (by rw [ek_2]) ?_
  refine lv_aload_n hx hb dX2_number_6 rfl (lv_at hl 0 rfl) ?_
  refine h_getr (ci := 2) (C := RX2) (F := TX2) (N := 11) hx hb hts in2 hown hK hH (lt_nK (by omega)) (kd_expr (t := 0) hj (by decide)) (by decide) rfl 9 (by decide) wd1 (fun _ h9 => h9) (by decide) rfl (t := (240 + 9 * j + 7)) ((hR _ _ (by unfold dyn; simp <;> omega)).trans (sr_expr (by omega) (by omega))) (lt_nK (by omega)) dX2_number_7 ?_
  refine lv_iload_n hx hb dX2_number_10 rfl (lv_at hl 2 rfl) ?_
  have bx_3 : (-62 : Int) ≤ (i (240 + 9 * j + 7) (x.toInt).toNat).toInt ∧ (i (240 + 9 * j + 7) (x.toInt).toNat).toInt ≤ 60 := by have h9 := hO (240 + 9 * j + 7) (x.toInt).toNat; rw [bx_expr (t := 7) hj (by decide) (by decide) (x.toInt).toNat] at h9; exact h9
  refine h_iald hx hb hK hH (lt_nK (by omega)) (kd_expr (t := 7) hj (by decide)) (s_vin (N := 6) (rfl : x.toInt = _) (ln_expr (t := 7) hj (by decide)) (by omega) (by omega)) dX2_number_11 ?_
  have ek_4 : x.toNatClampNeg = (x.toInt).toNat := (s_cl (show x.toInt = x.toInt by omega))
  refine sj_i (y := (i (240 + 9 * j + 7) (x.toInt).toNat)) (by rw [ek_4]) ?_
  refine lv_iadd hx hb dX2_number_12 ?_
  obtain ⟨z_5, ez_5, hz_5⟩ := s_add (rfl : (i (240 + 9 * j + 6) (x.toInt).toNat).toInt = _) (rfl : (i (240 + 9 * j + 7) (x.toInt).toNat).toInt = _) (by omega) (by omega)
  refine sj_i ez_5 ?_
  refine lv_istore_n (lv' := [(3, .int z_5), (0, .ref (g (240 + 9 * j))), (1, .ref (g 14)), (2, .int x)]) hx hb dX2_number_13 rfl hl (by decide) rfl (fun ls hl => ?_)
  refine lv_aload_n hx hb dX2_number_14 rfl (lv_at hl 2 rfl) ?_
  refine lv_aload_n hx hb dX2_number_15 rfl (lv_at hl 1 rfl) ?_
  refine h_getr (ci := 2) (C := RX2) (F := TX2) (N := 11) hx hb hts in2 hown hK hH (lt_nK (by omega)) (kd_expr (t := 0) hj (by decide)) (by decide) rfl 8 (by decide) wd0 (fun _ h9 => h9) (by decide) rfl (t := (240 + 9 * j + 6)) ((hR _ _ (by unfold dyn; simp <;> omega)).trans (sr_expr (by omega) (by omega))) (lt_nK (by omega)) dX2_number_16 ?_
  refine lv_iload_n hx hb dX2_number_19 rfl (lv_at hl 3 rfl) ?_
  refine h_iald hx hb hK hH (lt_nK (by omega)) (kd_expr (t := 6) hj (by decide)) (s_vin (N := 6) (rfl : x.toInt = _) (ln_expr (t := 6) hj (by decide)) (by omega) (by omega)) dX2_number_20 ?_
  have ek_6 : x.toNatClampNeg = (x.toInt).toNat := (s_cl (show x.toInt = x.toInt by omega))
  refine sj_i (y := (i (240 + 9 * j + 6) (x.toInt).toNat)) (by rw [ek_6]) ?_
  refine lv_iload_n hx hb dX2_number_21 rfl (lv_at hl 0 rfl) ?_
  refine x_calli (va_runV (As := [.int (i (240 + 9 * j + 6) (x.toInt).toNat), .int z_5]) (rest := []) ⟨hx, hb, hml, hown, hts⟩ (k_whole_stepText l D g ka ad i r L d (i (240 + 9 * j + 6) (x.toInt).toNat) z_5 hO hR s.heap.size ) (cwV 2 hts gX2_number_X3_wholeNumber rfl rfl rfl (by decide +kernel) ⟨(Nat.le_of_ble_eq_true rfl), (Nat.le_of_ble_eq_true rfl)⟩) (x_preV (q := (RX3, TX3, 2)) hH hK (q_obj (by decide) (rfl : kd 14 = 3) (by decide)) rfl gxb (gxw hE hS (x_F hH hS hA))) rfl rfl hl.1 rfl (lv_room (Nat.le_of_ble_eq_true rfl)) dX2_number_22 ⟨(Nat.le_of_ble_eq_true rfl), (Nat.le_of_ble_eq_true rfl)⟩) hH hS hA rfl rfl (fun r_7 _ H locs hw_8 hH hS => ?_)
  refine lv_i2d hx hb dX2_number_25 ?_
  refine lv_topd (fun z_10 ez_10 => ?_)
  refine lv_dstore (lv' := [(4, .double z_10), (3, .int z_5), (0, .ref (g (240 + 9 * j))), (1, .ref (g 14)), (2, .int x)]) hx hb dX2_number_26 hl (by decide) rfl (fun ls hl => ?_)
  refine lv_dconst1 hx hb dX2_number_28 ?_
  refine lv_dstore (lv' := [(6, .double 0x3ff0000000000000), (4, .double z_10), (3, .int z_5), (0, .ref (g (240 + 9 * j))), (1, .ref (g 14)), (2, .int x)]) hx hb dX2_number_29 hl (by decide) rfl (fun ls hl => ?_)
  refine lv_aload_n hx hb dX2_number_31 rfl (lv_at hl 3 rfl) ?_
  refine h_getr (ci := 2) (C := RX2) (F := TX2) (N := 11) hx hb hts in2 hown hK hH (lt_nK (by omega)) (kd_expr (t := 0) hj (by decide)) (by decide) rfl 10 (by decide) wd2 (fun _ h9 => h9) (by decide) rfl (t := (240 + 9 * j + 8)) ((hR _ _ (by unfold dyn; simp <;> omega)).trans (sr_expr (by omega) (by omega))) (lt_nK (by omega)) dX2_number_32 ?_
  refine lv_iload_n hx hb dX2_number_35 rfl (lv_at hl 5 rfl) ?_
  have bx_11 : (0 : Int) ≤ (i (240 + 9 * j + 8) (x.toInt).toNat).toInt ∧ (i (240 + 9 * j + 8) (x.toInt).toNat).toInt ≤ 65535 := by have h9 := hO (240 + 9 * j + 8) (x.toInt).toNat; rw [bx_expr (t := 8) hj (by decide) (by decide) (x.toInt).toNat] at h9; exact h9
  refine h_cald hx hb hK hH (lt_nK (by omega)) (kd_expr (t := 8) hj (by decide)) (s_vin (N := 6) (rfl : x.toInt = _) (ln_expr (t := 8) hj (by decide)) (by omega) (by omega)) dX2_number_36 ?_
  have ek_12 : x.toNatClampNeg = (x.toInt).toNat := (s_cl (show x.toInt = x.toInt by omega))
  refine sj_i (y := (i (240 + 9 * j + 8) (x.toInt).toNat)) (by rw [ek_12]) ?_
  refine lv_bipush (v := 100) hx hb dX2_number_37 (by decide) ?_
  refine lv_icmp_ne (tgt := 83) hx hb dX2_number_39 (by decide) (fun c_13 => ?_) (fun c_13 => ?_)
  · skip
    have h_14 := s_ne (rfl : (i (240 + 9 * j + 8) (x.toInt).toNat).toInt = _) (show (100 : Int32).toInt = 100 from rfl) c_13
    refine lv_dload hx hb dX2_number_83 (lv_at hl 1 rfl) ?_
    refine lv_dload hx hb dX2_number_85 (lv_at hl 0 rfl) ?_
    have hq : dfin (FP.ddiv z_10 0x3ff0000000000000) := by rw [ez_10]; exact div_fin (show dok (0x3ff0000000000000 : UInt64) = true from dT_ok 0 (by decide))
    refine lv_ddiv hx hb dX2_number_87 (dfin_n hq) ?_
    refine lv_topd (fun z_15 ez_15 => ?_)
    exact sj_dret hx hb hr hlocks hS () (by rw [ez_15]; exact hq) hH (sj_Knil hK) (Nat.le_of_ble_eq_true rfl) (Nat.le_of_ble_eq_true rfl) dX2_number_88
  · skip
    have h_16 := s_eq (rfl : (i (240 + 9 * j + 8) (x.toInt).toNat).toInt = _) (show (100 : Int32).toInt = 100 from rfl) c_13
    refine lv_iload_n hx hb dX2_number_42 rfl (lv_at hl 2 rfl) ?_
    refine lv_iconst (v := 1) hx hb dX2_number_43 (by decide) ?_
    refine lv_isub hx hb dX2_number_44 ?_
    obtain ⟨z_17, ez_17, hz_17⟩ := s_sub (rfl : z_5.toInt = _) (show (1 : Int32).toInt = 1 from rfl) (by omega) (by omega)
    refine sj_i ez_17 ?_
    refine lv_istore (lv' := [(8, .int z_17), (6, .double 0x3ff0000000000000), (4, .double z_10), (3, .int z_5), (0, .ref (g (240 + 9 * j))), (1, .ref (g 14)), (2, .int x)]) hx hb dX2_number_45 hl (by decide) rfl (fun ls hl => ?_)
    -- loop at 47
    have lp_18 : ∀ (fuel_lp_18 : Nat) (f : Int32) (dv : UInt64) (H : Heap) (locs : List Loc) (ls : Array Slot), (f.toInt + 200).toNat < fuel_lp_18 → (-200 : Int) ≤ f.toInt ∧ f.toInt ≤ 200 → f.toInt = z_5.toInt - 1 ∨ ((i (240 + 9 * j + 6) (x.toInt).toNat).toInt ≤ f.toInt ∧ f.toInt ≤ z_5.toInt - 1) → dv = dT (z_5.toInt - 1 - f.toInt).toNat → lv_has ls 9 [(8, .int f), (6, .double dv), (4, .double z_10), (3, .int z_5), (0, .ref (g (240 + 9 * j))), (1, .ref (g 14)), (2, .int x)] → sj_H D A (hwc g ka i r L d) H → va_S A s.heap H locs → W p l e (headSpec wsX2_number ({ frames := 2, cells := 0, slots := 0, locals := 46 })).room s m ([.ref (g (240 + 9 * j)), .ref (g 14), .int x] : List Value).toArray below meth c H locs 0 0 (MQ below (sj_Qd (S := Unit) D (fun v u => (dfin v)) (fun _ => hwc g ka i r L d) (fun _ => []) A) ([.ref (g (240 + 9 * j)), .ref (g 14), .int x] : List Value).toArray s 0 0 A) (F0 m 47 ls []) := by
      intro fuel_lp_18
      induction fuel_lp_18 with
      | zero => intros; omega
      | succ fuel_lp_18 ih_lp_18 =>
        intro f dv H locs ls hm hr_f hi_lp_18_0 hi_lp_18_1 hl hH hS
        have hdv := hi_lp_18_1
        refine lv_iload hx hb dX2_number_47 (lv_at hl 0 rfl) ?_
        refine lv_aload_n hx hb dX2_number_49 rfl (lv_at hl 4 rfl) ?_
        refine h_getr (ci := 2) (C := RX2) (F := TX2) (N := 11) hx hb hts in2 hown hK hH (lt_nK (by omega)) (kd_expr (t := 0) hj (by decide)) (by decide) rfl 8 (by decide) wd0 (fun _ h9 => h9) (by decide) rfl (t := (240 + 9 * j + 6)) ((hR _ _ (by unfold dyn; simp <;> omega)).trans (sr_expr (by omega) (by omega))) (lt_nK (by omega)) dX2_number_50 ?_
        refine lv_iload_n hx hb dX2_number_53 rfl (lv_at hl 6 rfl) ?_
        refine h_iald hx hb hK hH (lt_nK (by omega)) (kd_expr (t := 6) hj (by decide)) (s_vin (N := 6) (rfl : x.toInt = _) (ln_expr (t := 6) hj (by decide)) (by omega) (by omega)) dX2_number_54 ?_
        have ek_19 : x.toNatClampNeg = (x.toInt).toNat := (s_cl (show x.toInt = x.toInt by omega))
        refine sj_i (y := (i (240 + 9 * j + 6) (x.toInt).toNat)) (by rw [ek_19]) ?_
        refine lv_icmp_le (tgt := 83) hx hb dX2_number_55 (by decide) (fun c_20 => ?_) (fun c_20 => ?_)
        · skip
          have h_21 := s_le (rfl : f.toInt = _) (rfl : (i (240 + 9 * j + 6) (x.toInt).toNat).toInt = _) c_20
          refine lv_dload hx hb dX2_number_83 (lv_at hl 2 rfl) ?_
          refine lv_dload hx hb dX2_number_85 (lv_at hl 1 rfl) ?_
          have hq : dfin (FP.ddiv z_10 dv) := by rw [ez_10, hdv]; exact div_fin (dT_ok _ (by omega))
          refine lv_ddiv hx hb dX2_number_87 (dfin_n hq) ?_
          refine lv_topd (fun z_22 ez_22 => ?_)
          exact sj_dret hx hb hr hlocks hS () (by rw [ez_22]; exact hq) hH (sj_Knil hK) (Nat.le_of_ble_eq_true rfl) (Nat.le_of_ble_eq_true rfl) dX2_number_88
        · skip
          have h_23 := s_nle (rfl : f.toInt = _) (rfl : (i (240 + 9 * j + 6) (x.toInt).toNat).toInt = _) c_20
          refine lv_aload_n hx hb dX2_number_58 rfl (lv_at hl 5 rfl) ?_
          refine lv_iload hx hb dX2_number_59 (lv_at hl 0 rfl) ?_
          refine x_calli (va_runV (As := [.int f]) (rest := []) ⟨hx, hb, hml, hown, hts⟩ (k_at_stepText l D g ka ad i r L d f hO hR H.size ) (cwV 1 hts gX2_number_X3_at rfl rfl rfl (by decide +kernel) ⟨(Nat.le_of_ble_eq_true rfl), (Nat.le_of_ble_eq_true rfl)⟩) (x_preV (q := (RX3, TX3, 2)) hH hK (q_obj (by decide) (rfl : kd 14 = 3) (by decide)) rfl gxb (gxw hE hS (x_F hH hS hA))) rfl rfl hl.1 rfl (lv_room (Nat.le_of_ble_eq_true rfl)) dX2_number_61 ⟨(Nat.le_of_ble_eq_true rfl), (Nat.le_of_ble_eq_true rfl)⟩) hH hS hA rfl rfl (fun r_24 _ H locs hw_25 hH hS => ?_)
          obtain ⟨hr_27, he_28⟩ := hw_25
          have hr_27 : (-1 : Int) ≤ r_24.toInt ∧ r_24.toInt ≤ 65535 := hr_27
          refine lv_bipush (v := 46) hx hb dX2_number_64 (by decide) ?_
          refine lv_icmp_eq (tgt := 83) hx hb dX2_number_66 (by decide) (fun c_29 => ?_) (fun c_29 => ?_)
          · skip
            have h_30 := s_eq (rfl : r_24.toInt = _) (show (46 : Int32).toInt = 46 from rfl) c_29
            refine lv_dload hx hb dX2_number_83 (lv_at hl 2 rfl) ?_
            refine lv_dload hx hb dX2_number_85 (lv_at hl 1 rfl) ?_
            have hq : dfin (FP.ddiv z_10 dv) := by rw [ez_10, hdv]; exact div_fin (dT_ok _ (by omega))
            refine lv_ddiv hx hb dX2_number_87 (dfin_n hq) ?_
            refine lv_topd (fun z_31 ez_31 => ?_)
            exact sj_dret hx hb hr hlocks hS () (by rw [ez_31]; exact hq) hH (sj_Knil hK) (Nat.le_of_ble_eq_true rfl) (Nat.le_of_ble_eq_true rfl) dX2_number_88
          · skip
            have h_32 := s_ne (rfl : r_24.toInt = _) (show (46 : Int32).toInt = 46 from rfl) c_29
            refine lv_dload hx hb dX2_number_69 (lv_at hl 1 rfl) ?_
            refine lv_ldc2d hx hb hown wd3 dX2_number_71 ?_
            refine lv_dmul hx hb dX2_number_74 (mul_n (by rw [hdv]; exact dT_fin (by omega)) ten_fin) ?_
            refine lv_topd (fun z_33 ez_33 => ?_)
            refine lv_dstore (lv' := [(6, .double z_33), (8, .int f), (4, .double z_10), (3, .int z_5), (0, .ref (g (240 + 9 * j))), (1, .ref (g 14)), (2, .int x)]) hx hb dX2_number_75 hl (by decide) rfl (fun ls hl => ?_)
            obtain ⟨z_34, ez_34, hz_34⟩ := s_add (rfl : f.toInt = _) (show ((-1) : Int32).toInt = (-1) from rfl) (by omega) (by omega)
            refine lv_iinc (v := z_34) (lv' := [(8, .int z_34), (6, .double z_33), (4, .double z_10), (3, .int z_5), (0, .ref (g (240 + 9 * j))), (1, .ref (g 14)), (2, .int x)]) hx hb dX2_number_77 hl (k := 1) rfl ez_34 (by decide) rfl (fun ls hl => ?_)
            refine lv_goto (tgt := 47) hx hb dX2_number_80 (by decide) ?_
            exact ih_lp_18 z_34 z_33 _ _ ls (by omega) (by omega) (by omega) (by rw [show (z_5.toInt - 1 - z_34.toInt).toNat = (z_5.toInt - 1 - f.toInt).toNat + 1 by omega, ez_33, hdv]; rfl) (lv_sub hl [0, 1, 2, 3, 4, 5, 6] rfl) hH hS
    exact lp_18 _ z_17 0x3ff0000000000000 _ _ ls (Nat.lt_succ_self _) (by omega) (by omega) (by rw [show (_ : Int).toNat = 0 by omega]; rfl) (lv_sub hl [0, 1, 2, 3, 4, 5, 6] rfl) hH hS
set_option maxHeartbeats 2000000 in
set_option maxRecDepth 100000 in
theorem k_within (l : Launch) (D : va_G) (g : Nat → Nat) (ka : Nat → ClassId) (ad : Nat → Nat) (i : Nat → Nat → Int32) (r : Nat → Nat → Nat) (L : Nat → Nat → Int64) (d : Nat → Nat → UInt64) (b : UInt64) (hO : OkI i) (hR : RS r) (sz : Nat)  : Met l yX8_isWithin wsX8_isWithin ({ frames := 0, cells := 0, slots := 0, locals := 0 }) (va_Pc [.ref (g 19), .double b] (sj_B D (hwc g ka i r L d) (hT ka) sz (gx ad (va_A (hwc g ka i r L d) sz)))) (sj_Qi (S := Unit) D (fun v u => ((0 : Int) ≤ v.toInt ∧ v.toInt ≤ 1) ∧ (v.toInt = 1 → dfin b)) (fun _ => hwc g ka i r L d) (fun _ => []) (va_A (hwc g ka i r L d) sz)) 0 0 (va_A (hwc g ka i r L d) sz) := by
  refine x_met (Ex := gx ad) (cc := cX8_isWithin) (maxL := 3) (ret := (some .boolean)) (by decide) rfl (Nat.le_of_ble_eq_true rfl) ?_
  intro p e s m below meth c A ls hx hb hr hml hts hown hlocks hA hS hH hK hE hl
  have hown : s.vm.findClass RX8 = some m.cls := hown
  have wd0 := hts (.constantDouble RX8 135 (13965043853221167104)) (List.mem_cons_of_mem _ lm0)
  have wd1 := hts (.constantDouble RX8 137 (4741671816366391296)) (List.mem_cons_of_mem _ lm1)
  have hl : lv_has ls 3 [(0, .ref (g 19)), (1, .double b)] := hl
  have hK : va_K D vwCl (hT ka) s := hK
  refine lv_dload_n hx hb dX8_isWithin_0 rfl (lv_at hl 1 rfl) ?_
  refine lv_ldc2d hx hb hown wd0 dX8_isWithin_1 ?_
  refine lv_dcmp hx hb dX8_isWithin_4 ?_
  refine lv_topi (fun z_1 ez_1 => ?_)
  refine lv_if_lt (tgt := 20) hx hb dX8_isWithin_5 (by decide) (fun c_2 => ?_) (fun c_2 => ?_)
  · skip
    have h_3 := s_lt (rfl : z_1.toInt = _) (show (0 : Int32).toInt = 0 from rfl) c_2
    refine lv_iconst (v := 0) hx hb dX8_isWithin_20 (by decide) ?_
    exact sj_zret hx hb hr hlocks (by decide +kernel) hS () ⟨⟨by decide, by decide⟩, (fun h => absurd h (by decide))⟩ hH (sj_Knil hK) (Nat.le_of_ble_eq_true rfl) (Nat.le_of_ble_eq_true rfl) dX8_isWithin_21
  · skip
    have h_4 := s_nlt (rfl : z_1.toInt = _) (show (0 : Int32).toInt = 0 from rfl) c_2
    refine lv_dload_n hx hb dX8_isWithin_8 rfl (lv_at hl 1 rfl) ?_
    refine lv_ldc2d hx hb hown wd1 dX8_isWithin_9 ?_
    refine lv_dcmp hx hb dX8_isWithin_12 ?_
    refine lv_topi (fun z_5 ez_5 => ?_)
    refine lv_if_gt (tgt := 20) hx hb dX8_isWithin_13 (by decide) (fun c_6 => ?_) (fun c_6 => ?_)
    · skip
      have h_7 := s_lt (show (0 : Int32).toInt = 0 from rfl) (rfl : z_5.toInt = _) c_6
      refine lv_iconst (v := 0) hx hb dX8_isWithin_20 (by decide) ?_
      exact sj_zret hx hb hr hlocks (by decide +kernel) hS () ⟨⟨by decide, by decide⟩, (fun h => absurd h (by decide))⟩ hH (sj_Knil hK) (Nat.le_of_ble_eq_true rfl) (Nat.le_of_ble_eq_true rfl) dX8_isWithin_21
    · skip
      have h_8 := s_nlt (show (0 : Int32).toInt = 0 from rfl) (rfl : z_5.toInt = _) c_6
      refine lv_iconst (v := 1) hx hb dX8_isWithin_16 (by decide) ?_
      refine lv_goto (tgt := 21) hx hb dX8_isWithin_17 (by decide) ?_
      exact sj_zret hx hb hr hlocks (by decide +kernel) hS () ⟨⟨by decide, by decide⟩, (fun _ => in_fin ez_1 (by omega) ez_5 (by omega))⟩ hH (sj_Knil hK) (Nat.le_of_ble_eq_true rfl) (Nat.le_of_ble_eq_true rfl) dX8_isWithin_21
set_option maxHeartbeats 2000000 in
set_option maxRecDepth 100000 in
theorem k_has (l : Launch) (D : va_G) (g : Nat → Nat) (ka : Nat → ClassId) (ad : Nat → Nat) (i : Nat → Nat → Int32) (r : Nat → Nat → Nat) (L : Nat → Nat → Int64) (d : Nat → Nat → UInt64) (x : Int32) (hO : OkI i) (hR : RS r) (sz : Nat)  : Met l yX8_has wsX8_has ({ frames := 0, cells := 0, slots := 0, locals := 0 }) (va_Pc [.ref (g 19), .int x] (sj_B D (hwc g ka i r L d) (hT ka) sz (gx ad (va_A (hwc g ka i r L d) sz)))) (sj_Qi (S := Unit) D (fun v u => ((0 : Int) ≤ v.toInt ∧ v.toInt ≤ 1) ∧ ((v.toInt = 1 ∧ 0 ≤ x.toInt ∧ x.toInt ≤ 7) ∨ (v.toInt = 0 ∧ (x.toInt < 0 ∨ 7 < x.toInt)))) (fun _ => hwc g ka i r L d) (fun _ => []) (va_A (hwc g ka i r L d) sz)) 0 0 (va_A (hwc g ka i r L d) sz) := by
  refine x_met (Ex := gx ad) (cc := cX8_has) (maxL := 2) (ret := (some .boolean)) (by decide) rfl (Nat.le_of_ble_eq_true rfl) ?_
  intro p e s m below meth c A ls hx hb hr hml hts hown hlocks hA hS hH hK hE hl
  have hown : s.vm.findClass RX8 = some m.cls := hown
  have hl : lv_has ls 2 [(0, .ref (g 19)), (1, .int x)] := hl
  have hK : va_K D vwCl (hT ka) s := hK
  have hg_1 := s_rng x
  refine lv_iload_n hx hb dX8_has_0 rfl (lv_at hl 1 rfl) ?_
  refine lv_if_lt (tgt := 14) hx hb dX8_has_1 (by decide) (fun c_2 => ?_) (fun c_2 => ?_)
  · skip
    have h_3 := s_lt (rfl : x.toInt = _) (show (0 : Int32).toInt = 0 from rfl) c_2
    refine lv_iconst (v := 0) hx hb dX8_has_14 (by decide) ?_
    have hlv_4 : (0 : Int32).toInt = 0 := rfl
    exact sj_zret hx hb hr hlocks (by decide +kernel) hS () ⟨⟨by decide, by decide⟩, (by omega)⟩ hH (sj_Knil hK) (Nat.le_of_ble_eq_true rfl) (Nat.le_of_ble_eq_true rfl) dX8_has_15
  · skip
    have h_5 := s_nlt (rfl : x.toInt = _) (show (0 : Int32).toInt = 0 from rfl) c_2
    refine lv_iload_n hx hb dX8_has_4 rfl (lv_at hl 1 rfl) ?_
    refine lv_bipush (v := 8) hx hb dX8_has_5 (by decide) ?_
    refine lv_icmp_ge (tgt := 14) hx hb dX8_has_7 (by decide) (fun c_6 => ?_) (fun c_6 => ?_)
    · skip
      have h_7 := s_le (show (8 : Int32).toInt = 8 from rfl) (rfl : x.toInt = _) c_6
      refine lv_iconst (v := 0) hx hb dX8_has_14 (by decide) ?_
      have hlv_8 : (0 : Int32).toInt = 0 := rfl
      exact sj_zret hx hb hr hlocks (by decide +kernel) hS () ⟨⟨by decide, by decide⟩, (by omega)⟩ hH (sj_Knil hK) (Nat.le_of_ble_eq_true rfl) (Nat.le_of_ble_eq_true rfl) dX8_has_15
    · skip
      have h_9 := s_nle (show (8 : Int32).toInt = 8 from rfl) (rfl : x.toInt = _) c_6
      refine lv_iconst (v := 1) hx hb dX8_has_10 (by decide) ?_
      refine lv_goto (tgt := 15) hx hb dX8_has_11 (by decide) ?_
      have hlv_10 : (1 : Int32).toInt = 1 := rfl
      exact sj_zret hx hb hr hlocks (by decide +kernel) hS () ⟨⟨by decide, by decide⟩, (by omega)⟩ hH (sj_Knil hK) (Nat.le_of_ble_eq_true rfl) (Nat.le_of_ble_eq_true rfl) dX8_has_15
set_option maxHeartbeats 2000000 in
set_option maxRecDepth 100000 in
theorem k_append (l : Launch) (D : va_G) (g : Nat → Nat) (ka : Nat → ClassId) (ad : Nat → Nat) (i : Nat → Nat → Int32) (r : Nat → Nat → Nat) (L : Nat → Nat → Int64) (d : Nat → Nat → UInt64) (x : Int32) (y : Int32) (z : Int32) (hO : OkI i) (hR : RS r) (sz : Nat)  : Met l yX8_append wsX8_append ({ frames := 1, cells := 0, slots := 0, locals := 21 }) (va_Pc [.ref (g 19), .int x, .int y, .int z] (sj_B D (hwc g ka i r L d) (hT ka) sz (gx ad (va_A (hwc g ka i r L d) sz)))) (sj_Qi (S := (Nat → Nat → Int32)) D (fun v u => OkI u ∧ (∀ a, ¬ (a = 20 ∨ a = 21 ∨ a = 22) → u a = i a) ∧ ((0 : Int) ≤ v.toInt ∧ v.toInt ≤ 1)) (fun u => hwc g ka u r L d) (fun _ => []) (va_A (hwc g ka i r L d) sz)) 0 0 (va_A (hwc g ka i r L d) sz) := by
  refine x_met (Ex := gx ad) (cc := cX8_append) (maxL := 5) (ret := (some .boolean)) (by decide) rfl (Nat.le_of_ble_eq_true rfl) ?_
  intro p e s m below meth c A ls hx hb hr hml hts hown hlocks hA hS hH hK hE hl
  have hown : s.vm.findClass RX8 = some m.cls := hown
  have in8 : ∀ w ∈ wsX80, w ∈ wsX8_append := (fun _ h => (List.mem_cons_of_mem _ (List.mem_append_right _ h)))
  have wd0 := hts (.fieldLink RX8 18 "StoryDesk$Scripts" "counts" "[I") (List.mem_cons_of_mem _ (List.mem_append_left _ lm0))
  have wd1 := hts (.fieldLink RX8 11 "StoryDesk$Scripts" "commands" "[I") (List.mem_cons_of_mem _ (List.mem_append_left _ lm1))
  have wd2 := hts (.fieldLink RX8 15 "StoryDesk$Scripts" "amounts" "[I") (List.mem_cons_of_mem _ (List.mem_append_left _ lm2))
  have hl : lv_has ls 5 [(0, .ref (g 19)), (1, .int x), (2, .int y), (3, .int z)] := hl
  have hK : va_K D vwCl (hT ka) s := hK
  have hg_1 := s_rng x
  have hg_2 := s_rng y
  have hg_3 := s_rng z
  refine lv_aload_n hx hb dX8_append_0 rfl (lv_at hl 0 rfl) ?_
  refine lv_iload_n hx hb dX8_append_1 rfl (lv_at hl 1 rfl) ?_
  refine x_calli (va_runV (As := [.int x]) (rest := []) ⟨hx, hb, hml, hown, hts⟩ (k_has l D g ka ad i r L d x hO hR s.heap.size ) (cwV 1 hts gX8_append_X8_has rfl rfl rfl (by decide +kernel) ⟨(Nat.le_of_ble_eq_true rfl), (Nat.le_of_ble_eq_true rfl)⟩) (x_preV (q := (RX8, TX8, 3)) hH hK (q_obj (by decide) (rfl : kd 19 = 8) (by decide)) rfl gxb (gxw hE hS (x_F hH hS hA))) rfl rfl hl.1 rfl (lv_room (Nat.le_of_ble_eq_true rfl)) dX8_append_2 ⟨(Nat.le_of_ble_eq_true rfl), (Nat.le_of_ble_eq_true rfl)⟩) hH hS hA rfl rfl (fun r_4 _ H locs hw_5 hH hS => ?_)
  obtain ⟨hr_7, he_8⟩ := hw_5
  have hr_7 : (0 : Int) ≤ r_4.toInt ∧ r_4.toInt ≤ 1 := hr_7
  refine lv_if_eq (tgt := 28) hx hb dX8_append_5 (by decide) (fun c_9 => ?_) (fun c_9 => ?_)
  · skip
    have h_10 := s_eq (rfl : r_4.toInt = _) (show (0 : Int32).toInt = 0 from rfl) c_9
    refine lv_iconst (v := 0) hx hb dX8_append_28 (by decide) ?_
    exact sj_zret hx hb hr hlocks (by decide +kernel) hS i ⟨hO, (fun a ha => rfl), ⟨by decide, by decide⟩⟩ hH (sj_Knil hK) (Nat.le_of_ble_eq_true rfl) (Nat.le_of_ble_eq_true rfl) dX8_append_29
  · skip
    have h_11 := s_ne (rfl : r_4.toInt = _) (show (0 : Int32).toInt = 0 from rfl) c_9
    refine lv_iload_n hx hb dX8_append_8 rfl (lv_at hl 2 rfl) ?_
    refine lv_if_lt (tgt := 28) hx hb dX8_append_9 (by decide) (fun c_12 => ?_) (fun c_12 => ?_)
    · skip
      have h_13 := s_lt (rfl : y.toInt = _) (show (0 : Int32).toInt = 0 from rfl) c_12
      refine lv_iconst (v := 0) hx hb dX8_append_28 (by decide) ?_
      exact sj_zret hx hb hr hlocks (by decide +kernel) hS i ⟨hO, (fun a ha => rfl), ⟨by decide, by decide⟩⟩ hH (sj_Knil hK) (Nat.le_of_ble_eq_true rfl) (Nat.le_of_ble_eq_true rfl) dX8_append_29
    · skip
      have h_14 := s_nlt (rfl : y.toInt = _) (show (0 : Int32).toInt = 0 from rfl) c_12
      refine lv_iload_n hx hb dX8_append_12 rfl (lv_at hl 2 rfl) ?_
      refine lv_bipush (v := 8) hx hb dX8_append_13 (by decide) ?_
      refine lv_icmp_gt (tgt := 28) hx hb dX8_append_15 (by decide) (fun c_15 => ?_) (fun c_15 => ?_)
      · skip
        have h_16 := s_lt (show (8 : Int32).toInt = 8 from rfl) (rfl : y.toInt = _) c_15
        refine lv_iconst (v := 0) hx hb dX8_append_28 (by decide) ?_
        exact sj_zret hx hb hr hlocks (by decide +kernel) hS i ⟨hO, (fun a ha => rfl), ⟨by decide, by decide⟩⟩ hH (sj_Knil hK) (Nat.le_of_ble_eq_true rfl) (Nat.le_of_ble_eq_true rfl) dX8_append_29
      · skip
        have h_17 := s_nlt (show (8 : Int32).toInt = 8 from rfl) (rfl : y.toInt = _) c_15
        refine lv_aload_n hx hb dX8_append_18 rfl (lv_at hl 0 rfl) ?_
        refine h_getr (ci := 8) (C := RX8) (F := TX8) (N := 3) hx hb hts in8 hown hK hH (by decide) (rfl : kd 19 = 8) (by decide) rfl 2 (by decide) wd0 (fun _ h9 => h9) (by decide) rfl (t := 22) (hR 19 2 rfl) (by decide) dX8_append_19 ?_
        refine lv_iload_n hx hb dX8_append_22 rfl (lv_at hl 1 rfl) ?_
        have bx_18 : (0 : Int) ≤ (i 22 (x.toInt).toNat).toInt ∧ (i 22 (x.toInt).toNat).toInt ≤ 4 := hO 22 (x.toInt).toNat
        refine h_iald hx hb hK hH (by decide) (rfl : kd 22 = 13) (s_vin (N := 8) (rfl : x.toInt = _) (rfl : ln 22 = 8) (by omega) (by omega)) dX8_append_23 ?_
        have ek_19 : x.toNatClampNeg = (x.toInt).toNat := (s_cl (show x.toInt = x.toInt by omega))
        refine sj_i (y := (i 22 (x.toInt).toNat)) (by rw [ek_19]) ?_
        refine lv_iconst (v := 4) hx hb dX8_append_24 (by decide) ?_
        refine lv_icmp_lt (tgt := 30) hx hb dX8_append_25 (by decide) (fun c_20 => ?_) (fun c_20 => ?_)
        · skip
          have h_21 := s_lt (rfl : (i 22 (x.toInt).toNat).toInt = _) (show (4 : Int32).toInt = 4 from rfl) c_20
          refine lv_iload_n hx hb dX8_append_30 rfl (lv_at hl 1 rfl) ?_
          refine lv_iconst (v := 4) hx hb dX8_append_31 (by decide) ?_
          refine lv_imul hx hb dX8_append_32 ?_
          obtain ⟨z_22, ez_22, hz_22⟩ := s_mul (rfl : x.toInt = _) (show (4 : Int32).toInt = 4 from rfl) (by omega) (by omega)
          refine sj_i ez_22 ?_
          refine lv_aload_n hx hb dX8_append_33 rfl (lv_at hl 0 rfl) ?_
          refine h_getr (ci := 8) (C := RX8) (F := TX8) (N := 3) hx hb hts in8 hown hK hH (by decide) (rfl : kd 19 = 8) (by decide) rfl 2 (by decide) wd0 (fun _ h9 => h9) (by decide) rfl (t := 22) (hR 19 2 rfl) (by decide) dX8_append_34 ?_
          refine lv_iload_n hx hb dX8_append_37 rfl (lv_at hl 1 rfl) ?_
          refine h_iald hx hb hK hH (by decide) (rfl : kd 22 = 13) (s_vin (N := 8) (rfl : x.toInt = _) (rfl : ln 22 = 8) (by omega) (by omega)) dX8_append_38 ?_
          have ek_23 : x.toNatClampNeg = (x.toInt).toNat := (s_cl (show x.toInt = x.toInt by omega))
          refine sj_i (y := (i 22 (x.toInt).toNat)) (by rw [ek_23]) ?_
          refine lv_iadd hx hb dX8_append_39 ?_
          obtain ⟨z_24, ez_24, hz_24⟩ := s_add (rfl : z_22.toInt = _) (rfl : (i 22 (x.toInt).toNat).toInt = _) (by omega) (by omega)
          refine sj_i ez_24 ?_
          refine lv_istore (lv' := [(4, .int z_24), (0, .ref (g 19)), (1, .int x), (2, .int y), (3, .int z)]) hx hb dX8_append_40 hl (by decide) rfl (fun ls hl => ?_)
          refine lv_aload_n hx hb dX8_append_42 rfl (lv_at hl 1 rfl) ?_
          refine h_getr (ci := 8) (C := RX8) (F := TX8) (N := 3) hx hb hts in8 hown hK hH (by decide) (rfl : kd 19 = 8) (by decide) rfl 0 (by decide) wd1 (fun _ h9 => h9) (by decide) rfl (t := 20) (hR 19 0 rfl) (by decide) dX8_append_43 ?_
          refine lv_iload hx hb dX8_append_46 (lv_at hl 0 rfl) ?_
          refine lv_iload_n hx hb dX8_append_48 rfl (lv_at hl 3 rfl) ?_
          have hO_25 := okp hO (n := 20) (k := ((i 22 (x.toInt).toNat).toInt + 4 * x.toInt).toNat) (v := y) (show (0 : Int) ≤ (y : Int32).toInt ∧ (y : Int32).toInt ≤ 8 from ⟨by omega, by omega⟩)
          refine h_iast hx hb hK hH hS (by decide) (rfl : kd 20 = 13) (s_vin (N := 32) (rfl : z_24.toInt = _) (rfl : ln 20 = 32) (by omega) (by omega)) dX8_append_49 (fun H locs hH hS => ?_)
          rw [s_cl (show z_24.toInt = (i 22 (x.toInt).toNat).toInt + 4 * x.toInt by omega)] at hH
          refine lv_aload_n hx hb dX8_append_50 rfl (lv_at hl 1 rfl) ?_
          refine h_getr (ci := 8) (C := RX8) (F := TX8) (N := 3) hx hb hts in8 hown hK hH (by decide) (rfl : kd 19 = 8) (by decide) rfl 1 (by decide) wd2 (fun _ h9 => h9) (by decide) rfl (t := 21) (hR 19 1 rfl) (by decide) dX8_append_51 ?_
          refine lv_iload hx hb dX8_append_54 (lv_at hl 0 rfl) ?_
          refine lv_iload_n hx hb dX8_append_56 rfl (lv_at hl 4 rfl) ?_
          have hO_26 := okp hO_25 (n := 21) (k := ((i 22 (x.toInt).toNat).toInt + 4 * x.toInt).toNat) (v := z) (show (-2147483648 : Int) ≤ (z : Int32).toInt ∧ (z : Int32).toInt ≤ 2147483647 from s_rng z)
          refine h_iast hx hb hK hH hS (by decide) (rfl : kd 21 = 13) (s_vin (N := 32) (rfl : z_24.toInt = _) (rfl : ln 21 = 32) (by omega) (by omega)) dX8_append_57 (fun H locs hH hS => ?_)
          rw [s_cl (show z_24.toInt = (i 22 (x.toInt).toNat).toInt + 4 * x.toInt by omega)] at hH
          refine lv_aload_n hx hb dX8_append_58 rfl (lv_at hl 1 rfl) ?_
          refine h_getr (ci := 8) (C := RX8) (F := TX8) (N := 3) hx hb hts in8 hown hK hH (by decide) (rfl : kd 19 = 8) (by decide) rfl 2 (by decide) wd0 (fun _ h9 => h9) (by decide) rfl (t := 22) (hR 19 2 rfl) (by decide) dX8_append_59 ?_
          refine lv_iload_n hx hb dX8_append_62 rfl (lv_at hl 2 rfl) ?_
          refine lv_dup2_11 hx hb dX8_append_63 rfl rfl ?_
          refine h_iald hx hb hK hH (by decide) (rfl : kd 22 = 13) (s_vin (N := 8) (rfl : x.toInt = _) (rfl : ln 22 = 8) (by omega) (by omega)) dX8_append_64 ?_
          have ek_27 : x.toNatClampNeg = (x.toInt).toNat := (s_cl (show x.toInt = x.toInt by omega))
          refine sj_i (y := (i 22 (x.toInt).toNat)) (by rw [ek_27]; exact ((congrFun (up2_n _ _ (by decide)) _).trans (congrFun (up2_n _ _ (by decide)) _))) ?_
          refine lv_iconst (v := 1) hx hb dX8_append_65 (by decide) ?_
          refine lv_iadd hx hb dX8_append_66 ?_
          obtain ⟨z_28, ez_28, hz_28⟩ := s_add (rfl : (i 22 (x.toInt).toNat).toInt = _) (show (1 : Int32).toInt = 1 from rfl) (by omega) (by omega)
          refine sj_i ez_28 ?_
          have hO_29 := okp hO_26 (n := 22) (k := (x.toInt).toNat) (v := z_28) (show (0 : Int) ≤ (z_28 : Int32).toInt ∧ (z_28 : Int32).toInt ≤ 4 from ⟨by omega, by omega⟩)
          refine h_iast hx hb hK hH hS (by decide) (rfl : kd 22 = 13) (s_vin (N := 8) (rfl : x.toInt = _) (rfl : ln 22 = 8) (by omega) (by omega)) dX8_append_67 (fun H locs hH hS => ?_)
          rw [s_cl (show x.toInt = x.toInt by omega)] at hH
          refine lv_iconst (v := 1) hx hb dX8_append_68 (by decide) ?_
          exact sj_zret hx hb hr hlocks (by decide +kernel) hS (up2 (up2 (up2 i 20 ((i 22 (x.toInt).toNat).toInt + 4 * x.toInt).toNat y) 21 ((i 22 (x.toInt).toNat).toInt + 4 * x.toInt).toNat z) 22 (x.toInt).toNat z_28) ⟨hO_29, (fun a ha => ((up2_n _ _ (by omega)).trans ((up2_n _ _ (by omega)).trans (up2_n _ _ (by omega))))), ⟨by decide, by decide⟩⟩ hH (sj_Knil hK) (Nat.le_of_ble_eq_true rfl) (Nat.le_of_ble_eq_true rfl) dX8_append_69
        · skip
          have h_30 := s_nlt (rfl : (i 22 (x.toInt).toNat).toInt = _) (show (4 : Int32).toInt = 4 from rfl) c_20
          refine lv_iconst (v := 0) hx hb dX8_append_28 (by decide) ?_
          exact sj_zret hx hb hr hlocks (by decide +kernel) hS i ⟨hO, (fun a ha => rfl), ⟨by decide, by decide⟩⟩ hH (sj_Knil hK) (Nat.le_of_ble_eq_true rfl) (Nat.le_of_ble_eq_true rfl) dX8_append_29
set_option maxHeartbeats 2000000 in
set_option maxRecDepth 100000 in
theorem k_waitUnits (l : Launch) (D : va_G) (g : Nat → Nat) (ka : Nat → ClassId) (ad : Nat → Nat) (i : Nat → Nat → Int32) (r : Nat → Nat → Nat) (L : Nat → Nat → Int64) (d : Nat → Nat → UInt64) (w : Nat) (x : Int32) (hO : OkI i) (hR : RS r) (sz : Nat) (hw : w < 3) : Met l yX8_waitUnits wsX8_waitUnits ({ frames := 1, cells := 0, slots := 0, locals := 30 }) (va_Pc [.ref (g 19), .int x, .ref (g (25 + 1 * w))] (sj_B D (hwc g ka i r L d) (hT ka) sz (gx ad (va_A (hwc g ka i r L d) sz)))) (sj_Qi (S := (Nat → Nat → Int32)) D (fun v u => OkI u ∧ (∀ a, ¬ (a = 25 + 1 * w) → u a = i a) ∧ ((0 : Int) ≤ v.toInt ∧ v.toInt ≤ 5) ∧ ((u (25 + 1 * w) 1).toInt = (i (25 + 1 * w) 1).toInt ∧ (u (25 + 1 * w) 2).toInt = (i (25 + 1 * w) 2).toInt ∧ (u (25 + 1 * w) 3).toInt = (i (25 + 1 * w) 3).toInt ∧ (u (25 + 1 * w) 4).toInt = (i (25 + 1 * w) 4).toInt)) (fun u => hwc g ka u r L d) (fun _ => []) (va_A (hwc g ka i r L d) sz)) 0 0 (va_A (hwc g ka i r L d) sz) := by
  refine x_met (Ex := gx ad) (cc := cX8_waitUnits) (maxL := 5) (ret := (some .int)) (by decide) rfl (Nat.le_of_ble_eq_true rfl) ?_
  intro p e s m below meth c A ls hx hb hr hml hts hown hlocks hA hS hH hK hE hl
  have hown : s.vm.findClass RX8 = some m.cls := hown
  have in10 : ∀ w ∈ wsX100, w ∈ wsX8_waitUnits := (fun _ h => (List.mem_cons_of_mem _ (List.mem_append_right _ h)))
  have wd0 := hts (.methodLink RX8 127 Lib.Math.max.name) (List.mem_cons_of_mem _ (List.mem_append_left _ lm0))
  have wd1 := hts (.static Lib.Math.max.name) (List.mem_cons_of_mem _ (List.mem_append_left _ lm1))
  have wd2 := hts (.initialized "java/lang/Math") (List.mem_cons_of_mem _ (List.mem_append_left _ lm2))
  have wd3 := hts (.code Lib.Math.max.name Lib.Math.max.code 2 (some .int)) (List.mem_cons_of_mem _ (List.mem_append_left _ lm3))
  have wd4 := hts (.fieldLink RX8 25 "StoryDesk$Worker" "waited" "I") (List.mem_cons_of_mem _ (List.mem_append_left _ lm4))
  have wd5 := hts (.methodLink RX8 132 Lib.Math.min.name) (List.mem_cons_of_mem _ (List.mem_append_left _ lm5))
  have wd6 := hts (.static Lib.Math.min.name) (List.mem_cons_of_mem _ (List.mem_append_left _ lm6))
  have wd7 := hts (.code Lib.Math.min.name Lib.Math.min.code 2 (some .int)) (List.mem_cons_of_mem _ (List.mem_append_left _ lm7))
  have hl : lv_has ls 5 [(0, .ref (g 19)), (1, .int x), (2, .ref (g (25 + 1 * w)))] := hl
  have hK : va_K D vwCl (hT ka) s := hK
  have hg_1 := s_rng x
  refine lv_iload_n hx hb dX8_waitUnits_0 rfl (lv_at hl 1 rfl) ?_
  refine lv_iconst (v := 0) hx hb dX8_waitUnits_1 (by decide) ?_
  refine va_mmax hx hb (hml.trans hl.1.symm) hown wd0 wd1 wd2 wd3 (Nat.le_of_ble_eq_true rfl) (Nat.le_of_ble_eq_true rfl) (Nat.le_of_ble_eq_true rfl) (Nat.le_of_ble_eq_true rfl) dX8_waitUnits_2 ?_
  obtain ⟨z_2, ez_2⟩ : ∃ z, (if x < 0 then 0 else x) = z := ⟨_, rfl⟩
  refine sj_i ez_2 ?_
  have hz_2 := s_max (rfl : x.toInt = _) (show (0 : Int32).toInt = 0 from rfl) ez_2
  refine lv_istore_n (lv' := [(3, .int z_2), (0, .ref (g 19)), (1, .int x), (2, .ref (g (25 + 1 * w)))]) hx hb dX8_waitUnits_5 rfl hl (by decide) rfl (fun ls hl => ?_)
  refine lv_iload_n hx hb dX8_waitUnits_6 rfl (lv_at hl 0 rfl) ?_
  refine lv_bipush (v := 50) hx hb dX8_waitUnits_7 (by decide) ?_
  refine lv_aload_n hx hb dX8_waitUnits_9 rfl (lv_at hl 3 rfl) ?_
  refine h_geti (ci := 10) (C := RX10) (F := TX10) (N := 8) hx hb hts in10 hown hK hH (lt_nK (by omega)) (kd_wk hw) (by decide) rfl 6 (by decide) wd4 (fun _ h9 => h9) (by decide) rfl dX8_waitUnits_10 ?_
  refine lv_isub hx hb dX8_waitUnits_13 ?_
  obtain ⟨z_3, ez_3⟩ : ∃ z, 50 - (i (25 + 1 * w) 6) = z := ⟨_, rfl⟩
  refine sj_i ez_3 ?_
  refine va_mmin hx hb (hml.trans hl.1.symm) hown wd5 wd6 wd2 wd7 (Nat.le_of_ble_eq_true rfl) (Nat.le_of_ble_eq_true rfl) (Nat.le_of_ble_eq_true rfl) (Nat.le_of_ble_eq_true rfl) dX8_waitUnits_14 ?_
  obtain ⟨z_4, ez_4⟩ : ∃ z, (if z_3 < z_2 then z_3 else z_2) = z := ⟨_, rfl⟩
  refine sj_i ez_4 ?_
  have hz_4 := s_min (rfl : z_2.toInt = _) (rfl : z_3.toInt = _) ez_4
  refine lv_istore (lv' := [(4, .int z_4), (3, .int z_2), (0, .ref (g 19)), (1, .int x), (2, .ref (g (25 + 1 * w)))]) hx hb dX8_waitUnits_17 hl (by decide) rfl (fun ls hl => ?_)
  refine lv_aload_n hx hb dX8_waitUnits_19 rfl (lv_at hl 4 rfl) ?_
  refine lv_dup hx hb dX8_waitUnits_20 rfl ?_
  refine h_geti (ci := 10) (C := RX10) (F := TX10) (N := 8) hx hb hts in10 hown hK hH (lt_nK (by omega)) (kd_wk hw) (by decide) rfl 6 (by decide) wd4 (fun _ h9 => h9) (by decide) rfl dX8_waitUnits_21 ?_
  refine lv_iload hx hb dX8_waitUnits_24 (lv_at hl 0 rfl) ?_
  refine lv_iadd hx hb dX8_waitUnits_26 ?_
  obtain ⟨z_5, ez_5⟩ : ∃ z, (i (25 + 1 * w) 6) + z_4 = z := ⟨_, rfl⟩
  refine sj_i ez_5 ?_
  have hO_6 := okp hO (n := (25 + 1 * w)) (k := 6) (v := z_5) (by rw [bx_wk hw 6]; exact (show (-2147483648 : Int) ≤ (z_5 : Int32).toInt ∧ (z_5 : Int32).toInt ≤ 2147483647 from s_rng z_5))
  refine h_puti (ty := .int) (ci := 10) (C := RX10) (F := TX10) (N := 8) hx hb hts in10 tyX10 tyX10_ok nmX10 hown hK hH hS (lt_nK (by omega)) (kd_wk hw) (by decide) rfl 6 (by decide) wd4 (fun _ h9 => h9) rfl (by decide +kernel) rfl rfl (by decide) rfl dX8_waitUnits_27 (fun H locs hH hS => ?_)
  refine lv_iload hx hb dX8_waitUnits_30 (lv_at hl 0 rfl) ?_
  refine lv_iload_n hx hb dX8_waitUnits_32 rfl (lv_at hl 1 rfl) ?_
  refine lv_icmp_ge (tgt := 40) hx hb dX8_waitUnits_33 (by decide) (fun c_7 => ?_) (fun c_7 => ?_)
  · skip
    have h_8 := s_le (rfl : z_2.toInt = _) (rfl : z_4.toInt = _) c_7
    refine lv_iconst (v := 0) hx hb dX8_waitUnits_40 (by decide) ?_
    have hlv_9 : (0 : Int32).toInt = 0 := rfl
    have hq_10 : (up2 i (25 + 1 * w) 6 z_5) (25 + 1 * w) 1 = (i (25 + 1 * w) 1) := (up2_k _ _ (by decide))
    have hq_10i := congrArg Int32.toInt hq_10
    have hq_11 : (up2 i (25 + 1 * w) 6 z_5) (25 + 1 * w) 2 = (i (25 + 1 * w) 2) := (up2_k _ _ (by decide))
    have hq_11i := congrArg Int32.toInt hq_11
    have hq_12 : (up2 i (25 + 1 * w) 6 z_5) (25 + 1 * w) 3 = (i (25 + 1 * w) 3) := (up2_k _ _ (by decide))
    have hq_12i := congrArg Int32.toInt hq_12
    have hq_13 : (up2 i (25 + 1 * w) 6 z_5) (25 + 1 * w) 4 = (i (25 + 1 * w) 4) := (up2_k _ _ (by decide))
    have hq_13i := congrArg Int32.toInt hq_13
    exact sj_zret hx hb hr hlocks rfl hS (up2 i (25 + 1 * w) 6 z_5) ⟨hO_6, (fun a ha => (up2_n _ _ (by omega))), ⟨by decide, by decide⟩, (by first | omega | (refine ⟨?_, ?_, ?_, ?_⟩ <;> first | assumption | omega))⟩ hH (sj_Knil hK) (Nat.le_of_ble_eq_true rfl) (Nat.le_of_ble_eq_true rfl) dX8_waitUnits_41
  · skip
    have h_14 := s_nle (rfl : z_2.toInt = _) (rfl : z_4.toInt = _) c_7
    refine lv_iconst (v := 5) hx hb dX8_waitUnits_36 (by decide) ?_
    refine lv_goto (tgt := 41) hx hb dX8_waitUnits_37 (by decide) ?_
    have hlv_15 : (5 : Int32).toInt = 5 := rfl
    have hq_16 : (up2 i (25 + 1 * w) 6 z_5) (25 + 1 * w) 1 = (i (25 + 1 * w) 1) := (up2_k _ _ (by decide))
    have hq_16i := congrArg Int32.toInt hq_16
    have hq_17 : (up2 i (25 + 1 * w) 6 z_5) (25 + 1 * w) 2 = (i (25 + 1 * w) 2) := (up2_k _ _ (by decide))
    have hq_17i := congrArg Int32.toInt hq_17
    have hq_18 : (up2 i (25 + 1 * w) 6 z_5) (25 + 1 * w) 3 = (i (25 + 1 * w) 3) := (up2_k _ _ (by decide))
    have hq_18i := congrArg Int32.toInt hq_18
    have hq_19 : (up2 i (25 + 1 * w) 6 z_5) (25 + 1 * w) 4 = (i (25 + 1 * w) 4) := (up2_k _ _ (by decide))
    have hq_19i := congrArg Int32.toInt hq_19
    exact sj_zret hx hb hr hlocks rfl hS (up2 i (25 + 1 * w) 6 z_5) ⟨hO_6, (fun a ha => (up2_n _ _ (by omega))), ⟨by decide, by decide⟩, (by first | omega | (refine ⟨?_, ?_, ?_, ?_⟩ <;> first | assumption | omega))⟩ hH (sj_Knil hK) (Nat.le_of_ble_eq_true rfl) (Nat.le_of_ble_eq_true rfl) dX8_waitUnits_41
set_option maxHeartbeats 2000000 in
set_option maxRecDepth 100000 in
theorem k_addCell (l : Launch) (D : va_G) (g : Nat → Nat) (ka : Nat → ClassId) (ad : Nat → Nat) (i : Nat → Nat → Int32) (r : Nat → Nat → Nat) (L : Nat → Nat → Int64) (d : Nat → Nat → UInt64) (w : Nat) (hO : OkI i) (hR : RS r) (sz : Nat) (hw : w < 3) (hfin : dfin (d (25 + 1 * w) 5)) : Met l yX8_addCell wsX8_addCell ({ frames := 2, cells := 0, slots := 0, locals := 46 }) (va_Pc [.ref (g 19), .ref (g (25 + 1 * w)), .ref (g 16)] (sj_B D (hwc g ka i r L d) (hT ka) sz (gx ad (va_A (hwc g ka i r L d) sz)))) (sj_Qv (S := (Nat → Nat → UInt64)) D (fun u => (∀ a, ¬ (a = 25 + 1 * w) → u a = d a)) (fun u => hwc g ka i r L u) (fun _ => []) (va_A (hwc g ka i r L d) sz)) 0 0 (va_A (hwc g ka i r L d) sz) := by
  refine x_met (Ex := gx ad) (cc := cX8_addCell) (maxL := 3) (ret := none) (by decide) rfl (Nat.le_of_ble_eq_true rfl) ?_
  intro p e s m below meth c A ls hx hb hr hml hts hown hlocks hA hS hH hK hE hl
  have hown : s.vm.findClass RX8 = some m.cls := hown
  have in3 : ∀ w ∈ wsX30, w ∈ wsX8_addCell := (fun _ h => (List.mem_cons_of_mem _ (List.mem_append_right _ h)))
  have in10 : ∀ w ∈ wsX100, w ∈ wsX8_addCell := (fun _ h => (List.mem_cons_of_mem _ (List.mem_append_left _ (List.mem_append_right _ h))))
  have wd0 := hts (.fieldLink RX8 53 "StoryDesk$Worker" "number" "D") (List.mem_cons_of_mem _ (List.mem_append_left _ (List.mem_append_left _ lm0)))
  have wd1 := hts (.fieldLink RX8 120 "StoryDesk$Letters" "length" "I") (List.mem_cons_of_mem _ (List.mem_append_left _ (List.mem_append_left _ lm1)))
  have hl : lv_has ls 3 [(0, .ref (g 19)), (1, .ref (g (25 + 1 * w))), (2, .ref (g 16))] := hl
  have hK : va_K D vwCl (hT ka) s := hK
  refine lv_aload_n hx hb dX8_addCell_0 rfl (lv_at hl 2 rfl) ?_
  refine x_calli (va_runV (As := []) (rest := []) ⟨hx, hb, hml, hown, hts⟩ (k_isWhole_cellText l D g ka ad i r L d  hO hR s.heap.size ) (cwV 0 hts gX8_addCell_X3_isWholeNumber rfl rfl rfl (by decide +kernel) ⟨(Nat.le_of_ble_eq_true rfl), (Nat.le_of_ble_eq_true rfl)⟩) (x_preV (q := (RX3, TX3, 2)) hH hK (q_obj (by decide) (rfl : kd 16 = 3) (by decide)) rfl gxb (gxw hE hS (x_F hH hS hA))) rfl rfl hl.1 rfl (lv_room (Nat.le_of_ble_eq_true rfl)) dX8_addCell_1 ⟨(Nat.le_of_ble_eq_true rfl), (Nat.le_of_ble_eq_true rfl)⟩) hH hS hA rfl rfl (fun r_1 _ H locs hw_2 hH hS => ?_)
  have hr_4 := hw_2
  have hr_4 : (0 : Int) ≤ r_1.toInt ∧ r_1.toInt ≤ 1 := hr_4
  refine lv_if_eq (tgt := 26) hx hb dX8_addCell_4 (by decide) (fun c_5 => ?_) (fun c_5 => ?_)
  · skip
    have h_6 := s_eq (rfl : r_1.toInt = _) (show (0 : Int32).toInt = 0 from rfl) c_5
    exact sj_vret hx hb hr hlocks hS d (fun a ha => rfl) hH (sj_Knil hK) (Nat.le_of_ble_eq_true rfl) (Nat.le_of_ble_eq_true rfl) dX8_addCell_26
  · skip
    have h_7 := s_ne (rfl : r_1.toInt = _) (show (0 : Int32).toInt = 0 from rfl) c_5
    refine lv_aload_n hx hb dX8_addCell_7 rfl (lv_at hl 1 rfl) ?_
    refine lv_aload_n hx hb dX8_addCell_8 rfl (lv_at hl 1 rfl) ?_
    refine h_getd (ci := 10) (C := RX10) (F := TX10) (N := 8) hx hb hts in10 hown hK hH (lt_nK (by omega)) (kd_wk hw) (by decide) rfl 5 (by decide) wd0 (fun _ h9 => h9) (by decide) rfl dX8_addCell_9 ?_
    refine lv_topd (fun z_8 ez_8 => ?_)
    have fz_8 : z_8 = (d (25 + 1 * w) 5) := ez_8.trans rfl
    refine lv_aload_n hx hb dX8_addCell_12 rfl (lv_at hl 2 rfl) ?_
    refine lv_iconst (v := 0) hx hb dX8_addCell_13 (by decide) ?_
    refine lv_aload_n hx hb dX8_addCell_14 rfl (lv_at hl 2 rfl) ?_
    have bx_9 : (0 : Int) ≤ (i 16 1).toInt ∧ (i 16 1).toInt ≤ 60 := hO 16 1
    refine h_geti (ci := 3) (C := RX3) (F := TX3) (N := 2) hx hb hts in3 hown hK hH (by decide) (rfl : kd 16 = 3) (by decide) rfl 1 (by decide) wd1 (fun _ h9 => h9) (by decide) rfl dX8_addCell_15 ?_
    have hl_10 : (0 : Int32).toInt = 0 := rfl
    refine x_calli (va_runV (As := [.int 0, .int (i 16 1)]) (rest := [.double z_8, .ref (g (25 + 1 * w))]) ⟨hx, hb, hml, hown, hts⟩ (k_whole_cellText l D g ka ad i r L d 0 (i 16 1) hO hR H.size ) (cwV 2 hts gX8_addCell_X3_wholeNumber rfl rfl rfl (by decide +kernel) ⟨(Nat.le_of_ble_eq_true rfl), (Nat.le_of_ble_eq_true rfl)⟩) (x_preV (q := (RX3, TX3, 2)) hH hK (q_obj (by decide) (rfl : kd 16 = 3) (by decide)) rfl gxb (gxw hE hS (x_F hH hS hA))) rfl rfl hl.1 rfl (lv_room (Nat.le_of_ble_eq_true rfl)) dX8_addCell_18 ⟨(Nat.le_of_ble_eq_true rfl), (Nat.le_of_ble_eq_true rfl)⟩) hH hS hA rfl rfl (fun r_11 _ H locs hw_12 hH hS => ?_)
    refine lv_i2d hx hb dX8_addCell_21 ?_
    refine lv_topd (fun z_14 ez_14 => ?_)
    refine lv_dadd hx hb dX8_addCell_22 (add_n (by rw [fz_8]; exact hfin) (by rw [ez_14]; exact i2d_f _)) ?_
    refine lv_topd (fun z_15 ez_15 => ?_)
    refine h_putd (ty := .double) (ci := 10) (C := RX10) (F := TX10) (N := 8) hx hb hts in10 tyX10 tyX10_ok nmX10 hown hK hH hS (lt_nK (by omega)) (kd_wk hw) (by decide) rfl 5 (by decide) wd0 (fun _ h9 => h9) rfl (by decide +kernel) rfl rfl (by decide) rfl dX8_addCell_23 (fun H locs hH hS => ?_)
    exact sj_vret hx hb hr hlocks hS (upf d (25 + 1 * w) 5 z_15) (fun a ha => (upf_n _ _ (by omega))) hH (sj_Knil hK) (Nat.le_of_ble_eq_true rfl) (Nat.le_of_ble_eq_true rfl) dX8_addCell_26
set_option maxHeartbeats 2000000 in
set_option maxRecDepth 100000 in
theorem k_addLen0 (l : Launch) (D : va_G) (g : Nat → Nat) (ka : Nat → ClassId) (ad : Nat → Nat) (i : Nat → Nat → Int32) (r : Nat → Nat → Nat) (L : Nat → Nat → Int64) (d : Nat → Nat → UInt64) (w : Nat) (x : Int32) (hO : OkI i) (hR : RS r) (sz : Nat) (hw : w < 3) : Met l yX8_addLength wsX8_addLength ({ frames := 0, cells := 0, slots := 0, locals := 0 }) (va_Pc [.ref (g 19), .int x, .ref (g (25 + 1 * w)), .null] (sj_B D (hwc g ka i r L d) (hT ka) sz (gx ad (va_A (hwc g ka i r L d) sz)))) (sj_Qi (S := Unit) D (fun v u => ((5 : Int) ≤ v.toInt ∧ v.toInt ≤ 5)) (fun _ => hwc g ka i r L d) (fun _ => []) (va_A (hwc g ka i r L d) sz)) 0 0 (va_A (hwc g ka i r L d) sz) := by
  refine x_met (Ex := gx ad) (cc := cX8_addLength) (maxL := 4) (ret := (some .int)) (by decide) rfl (Nat.le_of_ble_eq_true rfl) ?_
  intro p e s m below meth c A ls hx hb hr hml hts hown hlocks hA hS hH hK hE hl
  have hown : s.vm.findClass RX8 = some m.cls := hown
  have hl : lv_has ls 4 [(0, .ref (g 19)), (1, .int x), (2, .ref (g (25 + 1 * w))), (3, .null)] := hl
  have hK : va_K D vwCl (hT ka) s := hK
  have hg_1 := s_rng x
  refine lv_aload_nN hx hb dX8_addLength_0 rfl (lv_at hl 3 rfl) ?_
  refine lv_ifnullN (tgt := 12) hx hb dX8_addLength_1 (by decide) ?_
  refine lv_iconst (v := 5) hx hb dX8_addLength_12 (by decide) ?_
  exact sj_zret hx hb hr hlocks rfl hS () ⟨by decide, by decide⟩ hH (sj_Knil hK) (Nat.le_of_ble_eq_true rfl) (Nat.le_of_ble_eq_true rfl) dX8_addLength_13
set_option maxHeartbeats 2000000 in
set_option maxRecDepth 100000 in
theorem k_addLen (l : Launch) (D : va_G) (g : Nat → Nat) (ka : Nat → ClassId) (ad : Nat → Nat) (i : Nat → Nat → Int32) (r : Nat → Nat → Nat) (L : Nat → Nat → Int64) (d : Nat → Nat → UInt64) (w : Nat) (j : Nat) (x : Int32) (hO : OkI i) (hR : RS r) (sz : Nat) (hw : w < 3) (hj : j < 13) (hfin : dfin (d (25 + 1 * w) 5)) : Met l yX8_addLength wsX8_addLength ({ frames := 1, cells := 0, slots := 0, locals := 21 }) (va_Pc [.ref (g 19), .int x, .ref (g (25 + 1 * w)), .ref (g (240 + 9 * j))] (sj_B D (hwc g ka i r L d) (hT ka) sz (gx ad (va_A (hwc g ka i r L d) sz)))) (sj_Qi (S := (Nat → Nat → UInt64)) D (fun v u => (∀ a, ¬ (a = 25 + 1 * w) → u a = d a) ∧ ((0 : Int) ≤ v.toInt ∧ v.toInt ≤ 5)) (fun u => hwc g ka i r L u) (fun _ => []) (va_A (hwc g ka i r L d) sz)) 0 0 (va_A (hwc g ka i r L d) sz) := by
  refine x_met (Ex := gx ad) (cc := cX8_addLength) (maxL := 4) (ret := (some .int)) (by decide) rfl (Nat.le_of_ble_eq_true rfl) ?_
  intro p e s m below meth c A ls hx hb hr hml hts hown hlocks hA hS hH hK hE hl
  have hown : s.vm.findClass RX8 = some m.cls := hown
  have in2 : ∀ w ∈ wsX20, w ∈ wsX8_addLength := (fun _ h => (List.mem_cons_of_mem _ (List.mem_append_right _ h)))
  have in10 : ∀ w ∈ wsX100, w ∈ wsX8_addLength := (fun _ h => (List.mem_cons_of_mem _ (List.mem_append_left _ (List.mem_append_right _ h))))
  have wd0 := hts (.fieldLink RX8 53 "StoryDesk$Worker" "number" "D") (List.mem_cons_of_mem _ (List.mem_append_left _ (List.mem_append_left _ lm0)))
  have wd1 := hts (.fieldLink RX8 75 "StoryDesk$Expression" "lengths" "[I") (List.mem_cons_of_mem _ (List.mem_append_left _ (List.mem_append_left _ lm1)))
  have hl : lv_has ls 4 [(0, .ref (g 19)), (1, .int x), (2, .ref (g (25 + 1 * w))), (3, .ref (g (240 + 9 * j)))] := hl
  have hK : va_K D vwCl (hT ka) s := hK
  have hg_1 := s_rng x
  refine lv_aload_n hx hb dX8_addLength_0 rfl (lv_at hl 3 rfl) ?_
  refine lv_ifnull hx hb dX8_addLength_1 ?_
  refine lv_aload_n hx hb dX8_addLength_4 rfl (lv_at hl 3 rfl) ?_
  refine lv_iload_n hx hb dX8_addLength_5 rfl (lv_at hl 1 rfl) ?_
  refine x_calli (va_runV (As := [.int x]) (rest := []) ⟨hx, hb, hml, hown, hts⟩ (k_hasArg l D g ka ad i r L d j x hO hR s.heap.size (by first | omega | decide)) (cwV 1 hts gX8_addLength_X2_hasArgument rfl rfl rfl (by decide +kernel) ⟨(Nat.le_of_ble_eq_true rfl), (Nat.le_of_ble_eq_true rfl)⟩) (x_preV (q := (RX2, TX2, 11)) hH hK (q_obj (lt_nK (by omega)) (kd_expr (t := 0) hj (by decide)) (by decide)) rfl gxb (gxw hE hS (x_F hH hS hA))) rfl rfl hl.1 rfl (lv_room (Nat.le_of_ble_eq_true rfl)) dX8_addLength_6 ⟨(Nat.le_of_ble_eq_true rfl), (Nat.le_of_ble_eq_true rfl)⟩) hH hS hA rfl rfl (fun r_2 _ H locs hw_3 hH hS => ?_)
  obtain ⟨hr_5, he_6⟩ := hw_3
  have hr_5 : (0 : Int) ≤ r_2.toInt ∧ r_2.toInt ≤ 1 := hr_5
  refine lv_if_ne (tgt := 14) hx hb dX8_addLength_9 (by decide) (fun c_7 => ?_) (fun c_7 => ?_)
  · skip
    have h_8 := s_ne (rfl : r_2.toInt = _) (show (0 : Int32).toInt = 0 from rfl) c_7
    refine lv_aload_n hx hb dX8_addLength_14 rfl (lv_at hl 2 rfl) ?_
    refine lv_aload_n hx hb dX8_addLength_15 rfl (lv_at hl 2 rfl) ?_
    refine h_getd (ci := 10) (C := RX10) (F := TX10) (N := 8) hx hb hts in10 hown hK hH (lt_nK (by omega)) (kd_wk hw) (by decide) rfl 5 (by decide) wd0 (fun _ h9 => h9) (by decide) rfl dX8_addLength_16 ?_
    refine lv_topd (fun z_9 ez_9 => ?_)
    have fz_9 : z_9 = (d (25 + 1 * w) 5) := ez_9.trans rfl
    refine lv_aload_n hx hb dX8_addLength_19 rfl (lv_at hl 3 rfl) ?_
    refine h_getr (ci := 2) (C := RX2) (F := TX2) (N := 11) hx hb hts in2 hown hK hH (lt_nK (by omega)) (kd_expr (t := 0) hj (by decide)) (by decide) rfl 9 (by decide) wd1 (fun _ h9 => h9) (by decide) rfl (t := (240 + 9 * j + 7)) ((hR _ _ (by unfold dyn; simp <;> omega)).trans (sr_expr (by omega) (by omega))) (lt_nK (by omega)) dX8_addLength_20 ?_
    refine lv_iload_n hx hb dX8_addLength_23 rfl (lv_at hl 1 rfl) ?_
    have bx_10 : (-62 : Int) ≤ (i (240 + 9 * j + 7) (x.toInt).toNat).toInt ∧ (i (240 + 9 * j + 7) (x.toInt).toNat).toInt ≤ 60 := by have h9 := hO (240 + 9 * j + 7) (x.toInt).toNat; rw [bx_expr (t := 7) hj (by decide) (by decide) (x.toInt).toNat] at h9; exact h9
    refine h_iald hx hb hK hH (lt_nK (by omega)) (kd_expr (t := 7) hj (by decide)) (s_vin (N := 6) (rfl : x.toInt = _) (ln_expr (t := 7) hj (by decide)) (by omega) (by omega)) dX8_addLength_24 ?_
    have ek_11 : x.toNatClampNeg = (x.toInt).toNat := (s_cl (show x.toInt = x.toInt by omega))
    refine sj_i (y := (i (240 + 9 * j + 7) (x.toInt).toNat)) (by rw [ek_11]) ?_
    refine lv_i2d hx hb dX8_addLength_25 ?_
    refine lv_topd (fun z_12 ez_12 => ?_)
    refine lv_dadd hx hb dX8_addLength_26 (add_n (by rw [fz_9]; exact hfin) (by rw [ez_12]; exact i2d_f _)) ?_
    refine lv_topd (fun z_13 ez_13 => ?_)
    refine h_putd (ty := .double) (ci := 10) (C := RX10) (F := TX10) (N := 8) hx hb hts in10 tyX10 tyX10_ok nmX10 hown hK hH hS (lt_nK (by omega)) (kd_wk hw) (by decide) rfl 5 (by decide) wd0 (fun _ h9 => h9) rfl (by decide +kernel) rfl rfl (by decide) rfl dX8_addLength_27 (fun H locs hH hS => ?_)
    refine lv_iconst (v := 0) hx hb dX8_addLength_30 (by decide) ?_
    exact sj_zret hx hb hr hlocks rfl hS (upf d (25 + 1 * w) 5 z_13) ⟨(fun a ha => (upf_n _ _ (by omega))), ⟨by decide, by decide⟩⟩ hH (sj_Knil hK) (Nat.le_of_ble_eq_true rfl) (Nat.le_of_ble_eq_true rfl) dX8_addLength_31
  · skip
    have h_14 := s_eq (rfl : r_2.toInt = _) (show (0 : Int32).toInt = 0 from rfl) c_7
    refine lv_iconst (v := 5) hx hb dX8_addLength_12 (by decide) ?_
    exact sj_zret hx hb hr hlocks rfl hS d ⟨(fun a ha => rfl), ⟨by decide, by decide⟩⟩ hH (sj_Knil hK) (Nat.le_of_ble_eq_true rfl) (Nat.le_of_ble_eq_true rfl) dX8_addLength_13
set_option maxHeartbeats 2000000 in
set_option maxRecDepth 100000 in
theorem k_reckon0 (l : Launch) (D : va_G) (g : Nat → Nat) (ka : Nat → ClassId) (ad : Nat → Nat) (i : Nat → Nat → Int32) (r : Nat → Nat → Nat) (L : Nat → Nat → Int64) (d : Nat → Nat → UInt64) (w : Nat) (x : Int32) (y : Int32) (hO : OkI i) (hR : RS r) (sz : Nat) (hw : w < 3) : Met l yX8_reckon wsX8_reckon ({ frames := 0, cells := 0, slots := 0, locals := 0 }) (va_Pc [.ref (g 19), .int x, .int y, .ref (g (25 + 1 * w)), .null, .ref (g 14)] (sj_B D (hwc g ka i r L d) (hT ka) sz (gx ad (va_A (hwc g ka i r L d) sz)))) (sj_Qi (S := Unit) D (fun v u => ((5 : Int) ≤ v.toInt ∧ v.toInt ≤ 5)) (fun _ => hwc g ka i r L d) (fun _ => []) (va_A (hwc g ka i r L d) sz)) 0 0 (va_A (hwc g ka i r L d) sz) := by
  refine x_met (Ex := gx ad) (cc := cX8_reckon) (maxL := 8) (ret := (some .int)) (by decide) rfl (Nat.le_of_ble_eq_true rfl) ?_
  intro p e s m below meth c A ls hx hb hr hml hts hown hlocks hA hS hH hK hE hl
  have hown : s.vm.findClass RX8 = some m.cls := hown
  have hl : lv_has ls 8 [(0, .ref (g 19)), (1, .int x), (2, .int y), (3, .ref (g (25 + 1 * w))), (4, .null), (5, .ref (g 14))] := hl
  have hK : va_K D vwCl (hT ka) s := hK
  have hg_1 := s_rng x
  have hg_2 := s_rng y
  refine lv_aloadN hx hb dX8_reckon_0 (lv_at hl 4 rfl) ?_
  refine lv_ifnullN (tgt := 14) hx hb dX8_reckon_2 (by decide) ?_
  refine lv_iconst (v := 5) hx hb dX8_reckon_14 (by decide) ?_
  exact sj_zret hx hb hr hlocks rfl hS () ⟨by decide, by decide⟩ hH (sj_Knil hK) (Nat.le_of_ble_eq_true rfl) (Nat.le_of_ble_eq_true rfl) dX8_reckon_15
set_option maxHeartbeats 2000000 in
set_option maxRecDepth 100000 in
theorem k_reckon (l : Launch) (D : va_G) (g : Nat → Nat) (ka : Nat → ClassId) (ad : Nat → Nat) (i : Nat → Nat → Int32) (r : Nat → Nat → Nat) (L : Nat → Nat → Int64) (d : Nat → Nat → UInt64) (w : Nat) (j : Nat) (x : Int32) (y : Int32) (hO : OkI i) (hR : RS r) (sz : Nat) (hw : w < 3) (hj : j < 13) (hfin : dfin (d (25 + 1 * w) 5)) : Met l yX8_reckon wsX8_reckon ({ frames := 3, cells := 0, slots := 0, locals := 74 }) (va_Pc [.ref (g 19), .int x, .int y, .ref (g (25 + 1 * w)), .ref (g (240 + 9 * j)), .ref (g 14)] (sj_B D (hwc g ka i r L d) (hT ka) sz (gx ad (va_A (hwc g ka i r L d) sz)))) (sj_Qi (S := (Nat → Nat → UInt64)) D (fun v u => (∀ a, ¬ (a = 25 + 1 * w) → u a = d a) ∧ ((0 : Int) ≤ v.toInt ∧ v.toInt ≤ 5)) (fun u => hwc g ka i r L u) (fun _ => []) (va_A (hwc g ka i r L d) sz)) 0 0 (va_A (hwc g ka i r L d) sz) := by
  refine x_met (Ex := gx ad) (cc := cX8_reckon) (maxL := 8) (ret := (some .int)) (by decide) rfl (Nat.le_of_ble_eq_true rfl) ?_
  intro p e s m below meth c A ls hx hb hr hml hts hown hlocks hA hS hH hK hE hl
  have hown : s.vm.findClass RX8 = some m.cls := hown
  have in10 : ∀ w ∈ wsX100, w ∈ wsX8_reckon := (fun _ h => (List.mem_cons_of_mem _ (List.mem_append_left _ (List.mem_append_left _ (List.mem_append_right _ h)))))
  have wd0 := hts (.fieldLink RX8 53 "StoryDesk$Worker" "number" "D") (List.mem_cons_of_mem _ (List.mem_append_left _ (List.mem_append_left _ (List.mem_append_left _ (List.mem_append_left _ lm0)))))
  have hl : lv_has ls 8 [(0, .ref (g 19)), (1, .int x), (2, .int y), (3, .ref (g (25 + 1 * w))), (4, .ref (g (240 + 9 * j))), (5, .ref (g 14))] := hl
  have hK : va_K D vwCl (hT ka) s := hK
  have hg_1 := s_rng x
  have hg_2 := s_rng y
  refine lv_aload hx hb dX8_reckon_0 (lv_at hl 4 rfl) ?_
  refine lv_ifnull hx hb dX8_reckon_2 ?_
  refine lv_aload hx hb dX8_reckon_5 (lv_at hl 4 rfl) ?_
  refine lv_iload_n hx hb dX8_reckon_7 rfl (lv_at hl 2 rfl) ?_
  refine x_calli (va_runV (As := [.int y]) (rest := []) ⟨hx, hb, hml, hown, hts⟩ (k_hasNum l D g ka ad i r L d j y hO hR s.heap.size (by first | omega | decide)) (cwV 1 hts gX8_reckon_X2_hasNumber rfl rfl rfl (by decide +kernel) ⟨(Nat.le_of_ble_eq_true rfl), (Nat.le_of_ble_eq_true rfl)⟩) (x_preV (q := (RX2, TX2, 11)) hH hK (q_obj (lt_nK (by omega)) (kd_expr (t := 0) hj (by decide)) (by decide)) rfl gxb (gxw hE hS (x_F hH hS hA))) rfl rfl hl.1 rfl (lv_room (Nat.le_of_ble_eq_true rfl)) dX8_reckon_8 ⟨(Nat.le_of_ble_eq_true rfl), (Nat.le_of_ble_eq_true rfl)⟩) hH hS hA rfl rfl (fun r_3 _ H locs hw_4 hH hS => ?_)
  obtain ⟨hr_6, he_7⟩ := hw_4
  have hr_6 : (0 : Int) ≤ r_3.toInt ∧ r_3.toInt ≤ 1 := hr_6
  refine lv_if_ne (tgt := 16) hx hb dX8_reckon_11 (by decide) (fun c_8 => ?_) (fun c_8 => ?_)
  · skip
    have h_9 := s_ne (rfl : r_3.toInt = _) (show (0 : Int32).toInt = 0 from rfl) c_8
    refine lv_aload hx hb dX8_reckon_16 (lv_at hl 4 rfl) ?_
    refine lv_aload hx hb dX8_reckon_18 (lv_at hl 5 rfl) ?_
    refine lv_iload_n hx hb dX8_reckon_20 rfl (lv_at hl 2 rfl) ?_
    refine x_calld (va_runV (As := [.ref (g 14), .int y]) (rest := []) ⟨hx, hb, hml, hown, hts⟩ (k_number l D g ka ad i r L d j y hO hR H.size (by first | omega | decide) (by first | omega | decide) (by first | omega | decide)) (cwV 2 hts gX8_reckon_X2_number rfl rfl rfl (by decide +kernel) ⟨(Nat.le_of_ble_eq_true rfl), (Nat.le_of_ble_eq_true rfl)⟩) (x_preV (q := (RX2, TX2, 11)) hH hK (q_obj (lt_nK (by omega)) (kd_expr (t := 0) hj (by decide)) (by decide)) rfl gxb (gxw hE hS (x_F hH hS hA))) rfl rfl hl.1 rfl (lv_room (Nat.le_of_ble_eq_true rfl)) dX8_reckon_21 ⟨(Nat.le_of_ble_eq_true rfl), (Nat.le_of_ble_eq_true rfl)⟩) hH hS hA rfl rfl (fun r_10 _ H locs hw_11 hH hS => ?_)
    have hx2_13 := hw_11
    refine lv_dstore (lv' := [(6, .double r_10), (0, .ref (g 19)), (1, .int x), (2, .int y), (3, .ref (g (25 + 1 * w))), (4, .ref (g (240 + 9 * j))), (5, .ref (g 14))]) hx hb dX8_reckon_24 hl (by decide) rfl (fun ls hl => ?_)
    refine lv_iload_n hx hb dX8_reckon_26 rfl (lv_at hl 2 rfl) ?_
    refine lv_iconst (v := 3) hx hb dX8_reckon_27 (by decide) ?_
    refine lv_icmp_ne (tgt := 47) hx hb dX8_reckon_28 (by decide) (fun c_14 => ?_) (fun c_14 => ?_)
    · skip
      have h_15 := s_ne (rfl : x.toInt = _) (show (3 : Int32).toInt = 3 from rfl) c_14
      refine lv_aload_n hx hb dX8_reckon_47 rfl (lv_at hl 4 rfl) ?_
      refine lv_iload_n hx hb dX8_reckon_48 rfl (lv_at hl 2 rfl) ?_
      refine lv_if_ne (tgt := 57) hx hb dX8_reckon_49 (by decide) (fun c_16 => ?_) (fun c_16 => ?_)
      · skip
        have h_17 := s_ne (rfl : x.toInt = _) (show (0 : Int32).toInt = 0 from rfl) c_16
        refine lv_iload_n hx hb dX8_reckon_57 rfl (lv_at hl 2 rfl) ?_
        refine lv_iconst (v := 1) hx hb dX8_reckon_58 (by decide) ?_
        refine lv_icmp_ne (tgt := 72) hx hb dX8_reckon_59 (by decide) (fun c_18 => ?_) (fun c_18 => ?_)
        · skip
          have h_19 := s_ne (rfl : x.toInt = _) (show (1 : Int32).toInt = 1 from rfl) c_18
          refine lv_aload_n hx hb dX8_reckon_72 rfl (lv_at hl 4 rfl) ?_
          refine h_getd (ci := 10) (C := RX10) (F := TX10) (N := 8) hx hb hts in10 hown hK hH (lt_nK (by omega)) (kd_wk hw) (by decide) rfl 5 (by decide) wd0 (fun _ h9 => h9) (by decide) rfl dX8_reckon_73 ?_
          refine lv_topd (fun z_20 ez_20 => ?_)
          have fz_20 : z_20 = (d (25 + 1 * w) 5) := ez_20.trans rfl
          refine lv_dload hx hb dX8_reckon_76 (lv_at hl 0 rfl) ?_
          refine lv_dmul hx hb dX8_reckon_78 (mul_n (by rw [fz_20]; exact hfin) hx2_13) ?_
          refine lv_topd (fun z_21 ez_21 => ?_)
          refine h_putd (ty := .double) (ci := 10) (C := RX10) (F := TX10) (N := 8) hx hb hts in10 tyX10 tyX10_ok nmX10 hown hK hH hS (lt_nK (by omega)) (kd_wk hw) (by decide) rfl 5 (by decide) wd0 (fun _ h9 => h9) rfl (by decide +kernel) rfl rfl (by decide) rfl dX8_reckon_79 (fun H locs hH hS => ?_)
          refine lv_iconst (v := 0) hx hb dX8_reckon_82 (by decide) ?_
          exact sj_zret hx hb hr hlocks rfl hS (upf d (25 + 1 * w) 5 z_21) ⟨(fun a ha => (upf_n _ _ (by omega))), ⟨by decide, by decide⟩⟩ hH (sj_Knil hK) (Nat.le_of_ble_eq_true rfl) (Nat.le_of_ble_eq_true rfl) dX8_reckon_83
        · skip
          have h_22 := s_eq (rfl : x.toInt = _) (show (1 : Int32).toInt = 1 from rfl) c_18
          refine lv_aload_n hx hb dX8_reckon_62 rfl (lv_at hl 4 rfl) ?_
          refine h_getd (ci := 10) (C := RX10) (F := TX10) (N := 8) hx hb hts in10 hown hK hH (lt_nK (by omega)) (kd_wk hw) (by decide) rfl 5 (by decide) wd0 (fun _ h9 => h9) (by decide) rfl dX8_reckon_63 ?_
          refine lv_topd (fun z_23 ez_23 => ?_)
          have fz_23 : z_23 = (d (25 + 1 * w) 5) := ez_23.trans rfl
          refine lv_dload hx hb dX8_reckon_66 (lv_at hl 0 rfl) ?_
          refine lv_dadd hx hb dX8_reckon_68 (add_n (by rw [fz_23]; exact hfin) hx2_13) ?_
          refine lv_topd (fun z_24 ez_24 => ?_)
          refine lv_goto (tgt := 79) hx hb dX8_reckon_69 (by decide) ?_
          refine h_putd (ty := .double) (ci := 10) (C := RX10) (F := TX10) (N := 8) hx hb hts in10 tyX10 tyX10_ok nmX10 hown hK hH hS (lt_nK (by omega)) (kd_wk hw) (by decide) rfl 5 (by decide) wd0 (fun _ h9 => h9) rfl (by decide +kernel) rfl rfl (by decide) rfl dX8_reckon_79 (fun H locs hH hS => ?_)
          refine lv_iconst (v := 0) hx hb dX8_reckon_82 (by decide) ?_
          exact sj_zret hx hb hr hlocks rfl hS (upf d (25 + 1 * w) 5 z_24) ⟨(fun a ha => (upf_n _ _ (by omega))), ⟨by decide, by decide⟩⟩ hH (sj_Knil hK) (Nat.le_of_ble_eq_true rfl) (Nat.le_of_ble_eq_true rfl) dX8_reckon_83
      · skip
        have h_25 := s_eq (rfl : x.toInt = _) (show (0 : Int32).toInt = 0 from rfl) c_16
        refine lv_dload hx hb dX8_reckon_52 (lv_at hl 0 rfl) ?_
        refine lv_goto (tgt := 79) hx hb dX8_reckon_54 (by decide) ?_
        refine h_putd (ty := .double) (ci := 10) (C := RX10) (F := TX10) (N := 8) hx hb hts in10 tyX10 tyX10_ok nmX10 hown hK hH hS (lt_nK (by omega)) (kd_wk hw) (by decide) rfl 5 (by decide) wd0 (fun _ h9 => h9) rfl (by decide +kernel) rfl rfl (by decide) rfl dX8_reckon_79 (fun H locs hH hS => ?_)
        refine lv_iconst (v := 0) hx hb dX8_reckon_82 (by decide) ?_
        exact sj_zret hx hb hr hlocks rfl hS (upf d (25 + 1 * w) 5 r_10) ⟨(fun a ha => (upf_n _ _ (by omega))), ⟨by decide, by decide⟩⟩ hH (sj_Knil hK) (Nat.le_of_ble_eq_true rfl) (Nat.le_of_ble_eq_true rfl) dX8_reckon_83
    · skip
      have h_26 := s_eq (rfl : x.toInt = _) (show (3 : Int32).toInt = 3 from rfl) c_14
      refine lv_aload_n hx hb dX8_reckon_31 rfl (lv_at hl 4 rfl) ?_
      refine h_getd (ci := 10) (C := RX10) (F := TX10) (N := 8) hx hb hts in10 hown hK hH (lt_nK (by omega)) (kd_wk hw) (by decide) rfl 5 (by decide) wd0 (fun _ h9 => h9) (by decide) rfl dX8_reckon_32 ?_
      refine lv_topd (fun z_27 ez_27 => ?_)
      have fz_27 : z_27 = (d (25 + 1 * w) 5) := ez_27.trans rfl
      refine lv_dload hx hb dX8_reckon_35 (lv_at hl 0 rfl) ?_
      refine lv_dcmp hx hb dX8_reckon_37 ?_
      refine lv_topi (fun z_28 ez_28 => ?_)
      refine lv_if_ne (tgt := 45) hx hb dX8_reckon_38 (by decide) (fun c_29 => ?_) (fun c_29 => ?_)
      · skip
        have h_30 := s_ne (rfl : z_28.toInt = _) (show (0 : Int32).toInt = 0 from rfl) c_29
        refine lv_iconst (v := 5) hx hb dX8_reckon_45 (by decide) ?_
        exact sj_zret hx hb hr hlocks rfl hS d ⟨(fun a ha => rfl), ⟨by decide, by decide⟩⟩ hH (sj_Knil hK) (Nat.le_of_ble_eq_true rfl) (Nat.le_of_ble_eq_true rfl) dX8_reckon_46
      · skip
        have h_31 := s_eq (rfl : z_28.toInt = _) (show (0 : Int32).toInt = 0 from rfl) c_29
        refine lv_iconst (v := 0) hx hb dX8_reckon_41 (by decide) ?_
        refine lv_goto (tgt := 46) hx hb dX8_reckon_42 (by decide) ?_
        exact sj_zret hx hb hr hlocks rfl hS d ⟨(fun a ha => rfl), ⟨by decide, by decide⟩⟩ hH (sj_Knil hK) (Nat.le_of_ble_eq_true rfl) (Nat.le_of_ble_eq_true rfl) dX8_reckon_46
  · skip
    have h_32 := s_eq (rfl : r_3.toInt = _) (show (0 : Int32).toInt = 0 from rfl) c_8
    refine lv_iconst (v := 5) hx hb dX8_reckon_14 (by decide) ?_
    exact sj_zret hx hb hr hlocks rfl hS d ⟨(fun a ha => rfl), ⟨by decide, by decide⟩⟩ hH (sj_Knil hK) (Nat.le_of_ble_eq_true rfl) (Nat.le_of_ble_eq_true rfl) dX8_reckon_15
