theorem dX5_forgetAll_0 : decode cX5_forgetAll 0 = .ok (.aload_n 0, 1) := by decide +kernel
theorem dX5_forgetAll_1 : decode cX5_forgetAll 1 = .ok (.iconst 0, 1) := by decide +kernel
theorem dX5_forgetAll_2 : decode cX5_forgetAll 2 = .ok (.putfield 88, 3) := by decide +kernel
theorem dX5_forgetAll_5 : decode cX5_forgetAll 5 = .ok (.aload_n 0, 1) := by decide +kernel
theorem dX5_forgetAll_6 : decode cX5_forgetAll 6 = .ok (.iconst 0, 1) := by decide +kernel
theorem dX5_forgetAll_7 : decode cX5_forgetAll 7 = .ok (.putfield 91, 3) := by decide +kernel
theorem dX5_forgetAll_10 : decode cX5_forgetAll 10 = .ok (.aload_n 0, 1) := by decide +kernel
theorem dX5_forgetAll_11 : decode cX5_forgetAll 11 = .ok (.iconst 0, 1) := by decide +kernel
theorem dX5_forgetAll_12 : decode cX5_forgetAll 12 = .ok (.putfield 94, 3) := by decide +kernel
theorem dX5_forgetAll_15 : decode cX5_forgetAll 15 = .ok (.aload_n 0, 1) := by decide +kernel
theorem dX5_forgetAll_16 : decode cX5_forgetAll 16 = .ok (.iconst 0, 1) := by decide +kernel
theorem dX5_forgetAll_17 : decode cX5_forgetAll 17 = .ok (.putfield 97, 3) := by decide +kernel
theorem dX5_forgetAll_20 : decode cX5_forgetAll 20 = .ok (.aload_n 0, 1) := by decide +kernel
theorem dX5_forgetAll_21 : decode cX5_forgetAll 21 = .ok (.iconst 0, 1) := by decide +kernel
theorem dX5_forgetAll_22 : decode cX5_forgetAll 22 = .ok (.putfield 100, 3) := by decide +kernel
theorem dX5_forgetAll_25 : decode cX5_forgetAll 25 = .ok (.aload_n 0, 1) := by decide +kernel
theorem dX5_forgetAll_26 : decode cX5_forgetAll 26 = .ok (.iconst 0, 1) := by decide +kernel
theorem dX5_forgetAll_27 : decode cX5_forgetAll 27 = .ok (.putfield 103, 3) := by decide +kernel
theorem dX5_forgetAll_30 : decode cX5_forgetAll 30 = .ok (.aload_n 0, 1) := by decide +kernel
theorem dX5_forgetAll_31 : decode cX5_forgetAll 31 = .ok (.iconst 0, 1) := by decide +kernel
theorem dX5_forgetAll_32 : decode cX5_forgetAll 32 = .ok (.putfield 106, 3) := by decide +kernel
theorem dX5_forgetAll_35 : decode cX5_forgetAll 35 = .ok (.aload_n 0, 1) := by decide +kernel
theorem dX5_forgetAll_36 : decode cX5_forgetAll 36 = .ok (.iconst 0, 1) := by decide +kernel
theorem dX5_forgetAll_37 : decode cX5_forgetAll 37 = .ok (.putfield 78, 3) := by decide +kernel
theorem dX5_forgetAll_40 : decode cX5_forgetAll 40 = .ok (.aload_n 0, 1) := by decide +kernel
theorem dX5_forgetAll_41 : decode cX5_forgetAll 41 = .ok (.iconst 0, 1) := by decide +kernel
theorem dX5_forgetAll_42 : decode cX5_forgetAll 42 = .ok (.putfield 85, 3) := by decide +kernel
theorem dX5_forgetAll_45 : decode cX5_forgetAll 45 = .ok (.return_, 1) := by decide +kernel
theorem dX5_skipBlanks_0 : decode cX5_skipBlanks 0 = .ok (.iload_n 1, 1) := by decide +kernel
theorem dX5_skipBlanks_1 : decode cX5_skipBlanks 1 = .ok (.istore_n 3, 1) := by decide +kernel
theorem dX5_skipBlanks_2 : decode cX5_skipBlanks 2 = .ok (.iload_n 3, 1) := by decide +kernel
theorem dX5_skipBlanks_3 : decode cX5_skipBlanks 3 = .ok (.iload_n 2, 1) := by decide +kernel
theorem dX5_skipBlanks_4 : decode cX5_skipBlanks 4 = .ok (.if_icmp .ge 22, 3) := by decide +kernel
theorem dX5_skipBlanks_26 : decode cX5_skipBlanks 26 = .ok (.iload_n 3, 1) := by decide +kernel
theorem dX5_skipBlanks_27 : decode cX5_skipBlanks 27 = .ok (.ireturn, 1) := by decide +kernel
theorem dX5_dropBlanks_0 : decode cX5_dropBlanks 0 = .ok (.iload_n 2, 1) := by decide +kernel
theorem dX5_dropBlanks_1 : decode cX5_dropBlanks 1 = .ok (.istore_n 3, 1) := by decide +kernel
theorem dX5_dropBlanks_2 : decode cX5_dropBlanks 2 = .ok (.iload_n 3, 1) := by decide +kernel
theorem dX5_dropBlanks_3 : decode cX5_dropBlanks 3 = .ok (.iload_n 1, 1) := by decide +kernel
theorem dX5_dropBlanks_4 : decode cX5_dropBlanks 4 = .ok (.if_icmp .le 24, 3) := by decide +kernel
theorem dX5_dropBlanks_28 : decode cX5_dropBlanks 28 = .ok (.iload_n 3, 1) := by decide +kernel
theorem dX5_dropBlanks_29 : decode cX5_dropBlanks 29 = .ok (.ireturn, 1) := by decide +kernel
theorem dX5_kindOf_0 : decode cX5_kindOf 0 = .ok (.iload_n 1, 1) := by decide +kernel
theorem dX5_kindOf_1 : decode cX5_kindOf 1 = .ok (.iload_n 2, 1) := by decide +kernel
theorem dX5_kindOf_2 : decode cX5_kindOf 2 = .ok (.if_icmp .lt 5, 3) := by decide +kernel
theorem dX5_kindOf_5 : decode cX5_kindOf 5 = .ok (.iconst 0, 1) := by decide +kernel
theorem dX5_kindOf_6 : decode cX5_kindOf 6 = .ok (.ireturn, 1) := by decide +kernel
theorem dX5_takeLine_0 : decode cX5_takeLine 0 = .ok (.aload_n 0, 1) := by decide +kernel
theorem dX5_takeLine_1 : decode cX5_takeLine 1 = .ok (.iload_n 2, 1) := by decide +kernel
theorem dX5_takeLine_2 : decode cX5_takeLine 2 = .ok (.iload_n 3, 1) := by decide +kernel
theorem dX5_takeLine_3 : decode cX5_takeLine 3 = .ok (.invokevirtual 109, 3) := by decide +kernel
theorem dX5_takeLine_6 : decode cX5_takeLine 6 = .ok (.istore 4, 2) := by decide +kernel
theorem dX5_takeLine_8 : decode cX5_takeLine 8 = .ok (.aload_n 0, 1) := by decide +kernel
theorem dX5_takeLine_9 : decode cX5_takeLine 9 = .ok (.iload 4, 2) := by decide +kernel
theorem dX5_takeLine_11 : decode cX5_takeLine 11 = .ok (.iload_n 3, 1) := by decide +kernel
theorem dX5_takeLine_12 : decode cX5_takeLine 12 = .ok (.invokevirtual 113, 3) := by decide +kernel
theorem dX5_takeLine_15 : decode cX5_takeLine 15 = .ok (.istore 5, 2) := by decide +kernel
theorem dX5_takeLine_17 : decode cX5_takeLine 17 = .ok (.iload_n 1, 1) := by decide +kernel
theorem dX5_takeLine_18 : decode cX5_takeLine 18 = .ok (.iconst 1, 1) := by decide +kernel
theorem dX5_takeLine_19 : decode cX5_takeLine 19 = .ok (.if_icmp .ne 47, 3) := by decide +kernel
theorem dX5_takeLine_22 : decode cX5_takeLine 22 = .ok (.iload 5, 2) := by decide +kernel
theorem dX5_takeLine_24 : decode cX5_takeLine 24 = .ok (.iload 4, 2) := by decide +kernel
theorem dX5_takeLine_26 : decode cX5_takeLine 26 = .ok (.isub, 1) := by decide +kernel
theorem dX5_takeLine_27 : decode cX5_takeLine 27 = .ok (.iconst 2, 1) := by decide +kernel
theorem dX5_takeLine_28 : decode cX5_takeLine 28 = .ok (.if_icmp .ne 38, 3) := by decide +kernel
theorem dX5_takeLine_66 : decode cX5_takeLine 66 = .ok (.aload_n 0, 1) := by decide +kernel
theorem dX5_takeLine_67 : decode cX5_takeLine 67 = .ok (.iload 4, 2) := by decide +kernel
theorem dX5_takeLine_69 : decode cX5_takeLine 69 = .ok (.iload 5, 2) := by decide +kernel
theorem dX5_takeLine_71 : decode cX5_takeLine 71 = .ok (.invokevirtual 120, 3) := by decide +kernel
theorem dX5_takeLine_74 : decode cX5_takeLine 74 = .ok (.istore 6, 2) := by decide +kernel
theorem dX5_takeLine_76 : decode cX5_takeLine 76 = .ok (.iload 6, 2) := by decide +kernel
theorem dX5_takeLine_78 : decode cX5_takeLine 78 = .ok (.ifCond .ne 4, 3) := by decide +kernel
theorem dX5_takeLine_81 : decode cX5_takeLine 81 = .ok (.return_, 1) := by decide +kernel
theorem dX5_addError_0 : decode cX5_addError 0 = .ok (.aload_n 0, 1) := by decide +kernel
theorem dX5_addError_1 : decode cX5_addError 1 = .ok (.getfield 91, 3) := by decide +kernel
theorem dX5_addError_4 : decode cX5_addError 4 = .ok (.bipush 20, 2) := by decide +kernel
theorem dX5_addError_6 : decode cX5_addError 6 = .ok (.if_icmp .ge 33, 3) := by decide +kernel
theorem dX5_addError_9 : decode cX5_addError 9 = .ok (.aload_n 0, 1) := by decide +kernel
theorem dX5_addError_10 : decode cX5_addError 10 = .ok (.getfield 20, 3) := by decide +kernel
theorem dX5_addError_13 : decode cX5_addError 13 = .ok (.aload_n 0, 1) := by decide +kernel
theorem dX5_addError_14 : decode cX5_addError 14 = .ok (.getfield 91, 3) := by decide +kernel
theorem dX5_addError_17 : decode cX5_addError 17 = .ok (.iload_n 1, 1) := by decide +kernel
theorem dX5_addError_18 : decode cX5_addError 18 = .ok (.iastore, 1) := by decide +kernel
theorem dX5_addError_19 : decode cX5_addError 19 = .ok (.aload_n 0, 1) := by decide +kernel
theorem dX5_addError_20 : decode cX5_addError 20 = .ok (.getfield 24, 3) := by decide +kernel
theorem dX5_addError_23 : decode cX5_addError 23 = .ok (.aload_n 0, 1) := by decide +kernel
theorem dX5_addError_24 : decode cX5_addError 24 = .ok (.getfield 91, 3) := by decide +kernel
theorem dX5_addError_27 : decode cX5_addError 27 = .ok (.iload_n 2, 1) := by decide +kernel
theorem dX5_addError_28 : decode cX5_addError 28 = .ok (.iastore, 1) := by decide +kernel
theorem dX5_addError_29 : decode cX5_addError 29 = .ok (.aload_n 0, 1) := by decide +kernel
theorem dX5_addError_30 : decode cX5_addError 30 = .ok (.dup, 1) := by decide +kernel
theorem dX5_addError_31 : decode cX5_addError 31 = .ok (.getfield 91, 3) := by decide +kernel
theorem dX5_addError_34 : decode cX5_addError 34 = .ok (.iconst 1, 1) := by decide +kernel
theorem dX5_addError_35 : decode cX5_addError 35 = .ok (.iadd, 1) := by decide +kernel
theorem dX5_addError_36 : decode cX5_addError 36 = .ok (.putfield 91, 3) := by decide +kernel
theorem dX5_addError_39 : decode cX5_addError 39 = .ok (.return_, 1) := by decide +kernel
theorem dX5_take_0 : decode cX5_take 0 = .ok (.aload_n 0, 1) := by decide +kernel
theorem dX5_take_1 : decode cX5_take 1 = .ok (.invokevirtual 57, 3) := by decide +kernel
theorem dX5_take_4 : decode cX5_take 4 = .ok (.aload_n 1, 1) := by decide +kernel
theorem dX5_take_5 : decode cX5_take 5 = .ok (.getfield 60, 3) := by decide +kernel
theorem dX5_take_8 : decode cX5_take 8 = .ok (.iconst 0, 1) := by decide +kernel
theorem dX5_take_9 : decode cX5_take 9 = .ok (.aload_n 0, 1) := by decide +kernel
theorem dX5_take_10 : decode cX5_take 10 = .ok (.getfield 16, 3) := by decide +kernel
theorem dX5_take_13 : decode cX5_take 13 = .ok (.getfield 60, 3) := by decide +kernel
theorem dX5_take_16 : decode cX5_take 16 = .ok (.iconst 0, 1) := by decide +kernel
theorem dX5_take_17 : decode cX5_take 17 = .ok (.aload_n 1, 1) := by decide +kernel
theorem dX5_take_18 : decode cX5_take 18 = .ok (.getfield 64, 3) := by decide +kernel
theorem dX5_take_21 : decode cX5_take 21 = .ok (.invokestatic 68, 3) := by decide +kernel
theorem dX5_take_24 : decode cX5_take 24 = .ok (.aload_n 0, 1) := by decide +kernel
theorem dX5_take_25 : decode cX5_take 25 = .ok (.getfield 16, 3) := by decide +kernel
theorem dX5_take_28 : decode cX5_take 28 = .ok (.aload_n 1, 1) := by decide +kernel
theorem dX5_take_29 : decode cX5_take 29 = .ok (.getfield 64, 3) := by decide +kernel
theorem dX5_take_32 : decode cX5_take 32 = .ok (.putfield 64, 3) := by decide +kernel
theorem dX5_take_35 : decode cX5_take 35 = .ok (.iconst 1, 1) := by decide +kernel
theorem dX5_take_36 : decode cX5_take 36 = .ok (.istore_n 2, 1) := by decide +kernel
theorem dX5_take_37 : decode cX5_take 37 = .ok (.iconst 0, 1) := by decide +kernel
theorem dX5_take_38 : decode cX5_take 38 = .ok (.istore_n 3, 1) := by decide +kernel
theorem dX5_take_39 : decode cX5_take 39 = .ok (.iconst 0, 1) := by decide +kernel
theorem dX5_take_40 : decode cX5_take 40 = .ok (.istore 4, 2) := by decide +kernel
theorem dX5_take_42 : decode cX5_take 42 = .ok (.iload 4, 2) := by decide +kernel
theorem dX5_take_44 : decode cX5_take 44 = .ok (.aload_n 0, 1) := by decide +kernel
theorem dX5_take_45 : decode cX5_take 45 = .ok (.getfield 16, 3) := by decide +kernel
theorem dX5_take_48 : decode cX5_take 48 = .ok (.getfield 64, 3) := by decide +kernel
theorem dX5_take_51 : decode cX5_take 51 = .ok (.if_icmp .gt 52, 3) := by decide +kernel
theorem dX5_take_54 : decode cX5_take 54 = .ok (.iload 4, 2) := by decide +kernel
theorem dX5_take_56 : decode cX5_take 56 = .ok (.aload_n 0, 1) := by decide +kernel
theorem dX5_take_57 : decode cX5_take 57 = .ok (.getfield 16, 3) := by decide +kernel
theorem dX5_take_60 : decode cX5_take 60 = .ok (.getfield 64, 3) := by decide +kernel
theorem dX5_take_63 : decode cX5_take 63 = .ok (.if_icmp .eq 18, 3) := by decide +kernel
theorem dX5_take_81 : decode cX5_take 81 = .ok (.aload_n 0, 1) := by decide +kernel
theorem dX5_take_82 : decode cX5_take 82 = .ok (.iload_n 2, 1) := by decide +kernel
theorem dX5_take_83 : decode cX5_take 83 = .ok (.iload_n 3, 1) := by decide +kernel
theorem dX5_take_84 : decode cX5_take 84 = .ok (.iload 4, 2) := by decide +kernel
theorem dX5_take_86 : decode cX5_take 86 = .ok (.invokevirtual 74, 3) := by decide +kernel
theorem dX5_take_89 : decode cX5_take 89 = .ok (.iinc 2 1, 3) := by decide +kernel
theorem dX5_take_92 : decode cX5_take 92 = .ok (.iload 4, 2) := by decide +kernel
theorem dX5_take_94 : decode cX5_take 94 = .ok (.iconst 1, 1) := by decide +kernel
theorem dX5_take_95 : decode cX5_take 95 = .ok (.iadd, 1) := by decide +kernel
theorem dX5_take_96 : decode cX5_take 96 = .ok (.istore_n 3, 1) := by decide +kernel
theorem dX5_take_97 : decode cX5_take 97 = .ok (.iinc 4 1, 3) := by decide +kernel
theorem dX5_take_100 : decode cX5_take 100 = .ok (.goto (-58), 3) := by decide +kernel
theorem dX5_take_103 : decode cX5_take 103 = .ok (.aload_n 0, 1) := by decide +kernel
theorem dX5_take_104 : decode cX5_take 104 = .ok (.getfield 78, 3) := by decide +kernel
theorem dX5_take_107 : decode cX5_take 107 = .ok (.ifCond .ne 10, 3) := by decide +kernel
theorem dX5_take_110 : decode cX5_take 110 = .ok (.aload_n 0, 1) := by decide +kernel
theorem dX5_take_111 : decode cX5_take 111 = .ok (.iload_n 2, 1) := by decide +kernel
theorem dX5_take_112 : decode cX5_take 112 = .ok (.bipush 6, 2) := by decide +kernel
theorem dX5_take_114 : decode cX5_take 114 = .ok (.invokevirtual 81, 3) := by decide +kernel
theorem dX5_take_117 : decode cX5_take 117 = .ok (.aload_n 0, 1) := by decide +kernel
theorem dX5_take_118 : decode cX5_take 118 = .ok (.getfield 85, 3) := by decide +kernel
theorem dX5_take_121 : decode cX5_take 121 = .ok (.ifCond .eq 10, 3) := by decide +kernel
theorem dX5_take_131 : decode cX5_take 131 = .ok (.return_, 1) := by decide +kernel
theorem dX1_build_0 : decode cX1_build 0 = .ok (.aload_n 0, 1) := by decide +kernel
theorem dX1_build_1 : decode cX1_build 1 = .ok (.iconst 0, 1) := by decide +kernel
theorem dX1_build_2 : decode cX1_build 2 = .ok (.putfield 34, 3) := by decide +kernel
theorem dX1_build_5 : decode cX1_build 5 = .ok (.aload_n 0, 1) := by decide +kernel
theorem dX1_build_6 : decode cX1_build 6 = .ok (.getfield 9, 3) := by decide +kernel
theorem dX1_build_9 : decode cX1_build 9 = .ok (.getfield 38, 3) := by decide +kernel
theorem dX1_build_12 : decode cX1_build 12 = .ok (.ifCond .le 4, 3) := by decide +kernel
theorem dX1_build_15 : decode cX1_build 15 = .ok (.return_, 1) := by decide +kernel
theorem dX11_read_0 : decode cX11_read 0 = .ok (.aload_n 0, 1) := by decide +kernel
theorem dX11_read_1 : decode cX11_read 1 = .ok (.getfield 44, 3) := by decide +kernel
theorem dX11_read_4 : decode cX11_read 4 = .ok (.getfield 88, 3) := by decide +kernel
theorem dX11_read_7 : decode cX11_read 7 = .ok (.ifCond .eq 11, 3) := by decide +kernel
theorem dX11_read_18 : decode cX11_read 18 = .ok (.aload_n 0, 1) := by decide +kernel
theorem dX11_read_19 : decode cX11_read 19 = .ok (.getfield 21, 3) := by decide +kernel
theorem dX11_read_22 : decode cX11_read 22 = .ok (.aload_n 0, 1) := by decide +kernel
theorem dX11_read_23 : decode cX11_read 23 = .ok (.getfield 14, 3) := by decide +kernel
theorem dX11_read_26 : decode cX11_read 26 = .ok (.invokevirtual 95, 3) := by decide +kernel
theorem dX11_read_29 : decode cX11_read 29 = .ok (.aload_n 0, 1) := by decide +kernel
theorem dX11_read_30 : decode cX11_read 30 = .ok (.getfield 14, 3) := by decide +kernel
theorem dX11_read_33 : decode cX11_read 33 = .ok (.iconst 0, 1) := by decide +kernel
theorem dX11_read_34 : decode cX11_read 34 = .ok (.putfield 80, 3) := by decide +kernel
theorem dX11_read_37 : decode cX11_read 37 = .ok (.aload_n 0, 1) := by decide +kernel
theorem dX11_read_38 : decode cX11_read 38 = .ok (.getfield 30, 3) := by decide +kernel
theorem dX11_read_41 : decode cX11_read 41 = .ok (.invokevirtual 99, 3) := by decide +kernel
theorem dX11_read_44 : decode cX11_read 44 = .ok (.aload_n 0, 1) := by decide +kernel
theorem dX11_read_45 : decode cX11_read 45 = .ok (.getfield 21, 3) := by decide +kernel
theorem dX11_read_48 : decode cX11_read 48 = .ok (.getfield 102, 3) := by decide +kernel
theorem dX11_read_51 : decode cX11_read 51 = .ok (.ireturn, 1) := by decide +kernel
theorem dX12_read_0 : decode cX12_read 0 = .ok (.aload_n 0, 1) := by decide +kernel
theorem dX12_read_1 : decode cX12_read 1 = .ok (.invokevirtual 174, 3) := by decide +kernel
theorem dX12_read_4 : decode cX12_read 4 = .ok (.ifCond .eq 5, 3) := by decide +kernel
theorem dX12_read_9 : decode cX12_read 9 = .ok (.aload_n 0, 1) := by decide +kernel
theorem dX12_read_10 : decode cX12_read 10 = .ok (.invokevirtual 178, 3) := by decide +kernel
theorem dX12_read_13 : decode cX12_read 13 = .ok (.iconst 0, 1) := by decide +kernel
theorem dX12_read_14 : decode cX12_read 14 = .ok (.istore_n 1, 1) := by decide +kernel
theorem dX12_read_15 : decode cX12_read 15 = .ok (.iconst 0, 1) := by decide +kernel
theorem dX12_read_16 : decode cX12_read 16 = .ok (.istore_n 2, 1) := by decide +kernel
theorem dX12_read_17 : decode cX12_read 17 = .ok (.iconst 0, 1) := by decide +kernel
theorem dX12_read_18 : decode cX12_read 18 = .ok (.istore_n 3, 1) := by decide +kernel
theorem dX12_read_19 : decode cX12_read 19 = .ok (.iload_n 3, 1) := by decide +kernel
theorem dX12_read_20 : decode cX12_read 20 = .ok (.aload_n 0, 1) := by decide +kernel
theorem dX12_read_21 : decode cX12_read 21 = .ok (.getfield 7, 3) := by decide +kernel
theorem dX12_read_24 : decode cX12_read 24 = .ok (.if_icmp .gt 104, 3) := by decide +kernel
theorem dX12_read_27 : decode cX12_read 27 = .ok (.iload_n 3, 1) := by decide +kernel
theorem dX12_read_28 : decode cX12_read 28 = .ok (.aload_n 0, 1) := by decide +kernel
theorem dX12_read_29 : decode cX12_read 29 = .ok (.getfield 7, 3) := by decide +kernel
theorem dX12_read_32 : decode cX12_read 32 = .ok (.if_icmp .eq 14, 3) := by decide +kernel
theorem dX12_read_46 : decode cX12_read 46 = .ok (.aload_n 0, 1) := by decide +kernel
theorem dX12_read_47 : decode cX12_read 47 = .ok (.iload_n 2, 1) := by decide +kernel
theorem dX12_read_48 : decode cX12_read 48 = .ok (.iload_n 3, 1) := by decide +kernel
theorem dX12_read_49 : decode cX12_read 49 = .ok (.invokevirtual 182, 3) := by decide +kernel
theorem dX12_read_52 : decode cX12_read 52 = .ok (.iload_n 3, 1) := by decide +kernel
theorem dX12_read_53 : decode cX12_read 53 = .ok (.iconst 1, 1) := by decide +kernel
theorem dX12_read_54 : decode cX12_read 54 = .ok (.iadd, 1) := by decide +kernel
theorem dX12_read_55 : decode cX12_read 55 = .ok (.istore_n 2, 1) := by decide +kernel
theorem dX12_read_56 : decode cX12_read 56 = .ok (.iinc 1 1, 3) := by decide +kernel
theorem dX12_read_59 : decode cX12_read 59 = .ok (.iload_n 1, 1) := by decide +kernel
theorem dX12_read_60 : decode cX12_read 60 = .ok (.iconst 1, 1) := by decide +kernel
theorem dX12_read_61 : decode cX12_read 61 = .ok (.if_icmp .ne 42, 3) := by decide +kernel
theorem dX12_read_64 : decode cX12_read 64 = .ok (.aload_n 0, 1) := by decide +kernel
theorem dX12_read_65 : decode cX12_read 65 = .ok (.aload_n 0, 1) := by decide +kernel
theorem dX12_read_66 : decode cX12_read 66 = .ok (.getfield 16, 3) := by decide +kernel
theorem dX12_read_69 : decode cX12_read 69 = .ok (.iconst 2, 1) := by decide +kernel
theorem dX12_read_70 : decode cX12_read 70 = .ok (.if_icmp .ne 29, 3) := by decide +kernel
theorem dX12_read_99 : decode cX12_read 99 = .ok (.iconst 0, 1) := by decide +kernel
theorem dX12_read_100 : decode cX12_read 100 = .ok (.putfield 33, 3) := by decide +kernel
theorem dX12_read_103 : decode cX12_read 103 = .ok (.aload_n 0, 1) := by decide +kernel
theorem dX12_read_104 : decode cX12_read 104 = .ok (.iload_n 1, 1) := by decide +kernel
theorem dX12_read_105 : decode cX12_read 105 = .ok (.invokevirtual 186, 3) := by decide +kernel
theorem dX12_read_108 : decode cX12_read 108 = .ok (.istore 4, 2) := by decide +kernel
theorem dX12_read_110 : decode cX12_read 110 = .ok (.iload 4, 2) := by decide +kernel
theorem dX12_read_112 : decode cX12_read 112 = .ok (.ifCond .le 10, 3) := by decide +kernel
theorem dX12_read_122 : decode cX12_read 122 = .ok (.iinc 3 1, 3) := by decide +kernel
theorem dX12_read_125 : decode cX12_read 125 = .ok (.goto (-106), 3) := by decide +kernel
theorem dX12_read_128 : decode cX12_read 128 = .ok (.aload_n 0, 1) := by decide +kernel
theorem dX12_read_129 : decode cX12_read 129 = .ok (.iconst 0, 1) := by decide +kernel
theorem dX12_read_130 : decode cX12_read 130 = .ok (.putfield 7, 3) := by decide +kernel
theorem dX12_read_133 : decode cX12_read 133 = .ok (.aload_n 0, 1) := by decide +kernel
theorem dX12_read_134 : decode cX12_read 134 = .ok (.getfield 117, 3) := by decide +kernel
theorem dX12_read_137 : decode cX12_read 137 = .ok (.ifCond .ne 12, 3) := by decide +kernel
theorem dX12_read_140 : decode cX12_read 140 = .ok (.aload_n 0, 1) := by decide +kernel
theorem dX12_read_141 : decode cX12_read 141 = .ok (.iload_n 1, 1) := by decide +kernel
theorem dX12_read_142 : decode cX12_read 142 = .ok (.iconst 1, 1) := by decide +kernel
theorem dX12_read_143 : decode cX12_read 143 = .ok (.iadd, 1) := by decide +kernel
theorem dX12_read_144 : decode cX12_read 144 = .ok (.bipush 6, 2) := by decide +kernel
theorem dX12_read_146 : decode cX12_read 146 = .ok (.invokevirtual 189, 3) := by decide +kernel
theorem dX12_read_149 : decode cX12_read 149 = .ok (.aload_n 0, 1) := by decide +kernel
theorem dX12_read_150 : decode cX12_read 150 = .ok (.getfield 46, 3) := by decide +kernel
theorem dX12_read_153 : decode cX12_read 153 = .ok (.ifCond .eq 12, 3) := by decide +kernel
theorem dX12_read_165 : decode cX12_read 165 = .ok (.aload_n 0, 1) := by decide +kernel
theorem dX12_read_166 : decode cX12_read 166 = .ok (.getfield 57, 3) := by decide +kernel
theorem dX12_read_169 : decode cX12_read 169 = .ok (.ifCond .ne 7, 3) := by decide +kernel
theorem dX12_read_176 : decode cX12_read 176 = .ok (.aload_n 0, 1) := by decide +kernel
theorem dX12_read_177 : decode cX12_read 177 = .ok (.getfield 57, 3) := by decide +kernel
theorem dX12_read_180 : decode cX12_read 180 = .ok (.ireturn, 1) := by decide +kernel
set_option maxRecDepth 20000 in
theorem ggX5_takeLine_X5_skipBlanks : GoodIn wsX5_takeLine wsX5_skipBlanks := goodIn_r _ [8, 1, 9, 10, 11, 12, 13, 14, 15, 185, 186, 187, 188, 189, 190, 191, 192, 193, 194, 195, 196, 197, 198, 199, 200, 201, 202, 203, 204, 205] (by decide +kernel) (by decide +kernel)
set_option maxRecDepth 20000 in
theorem gX5_takeLine_X5_skipBlanks : GoodIn wsX5_takeLine (wsV RX5 109 RX5 yX5_skipBlanks wsX5_skipBlanks) := goodIn_app (goodIn_of _ (by decide +kernel)) ggX5_takeLine_X5_skipBlanks
set_option maxRecDepth 20000 in
theorem ggX5_takeLine_X5_dropBlanks : GoodIn wsX5_takeLine wsX5_dropBlanks := goodIn_r _ [19, 1, 9, 10, 11, 12, 13, 14, 15, 185, 186, 187, 188, 189, 190, 191, 192, 193, 194, 195, 196, 197, 198, 199, 200, 201, 202, 203, 204, 205] (by decide +kernel) (by decide +kernel)
set_option maxRecDepth 20000 in
theorem gX5_takeLine_X5_dropBlanks : GoodIn wsX5_takeLine (wsV RX5 113 RX5 yX5_dropBlanks wsX5_dropBlanks) := goodIn_app (goodIn_of _ (by decide +kernel)) ggX5_takeLine_X5_dropBlanks
set_option maxRecDepth 20000 in
theorem ggX5_takeLine_X5_kindOf : GoodIn wsX5_takeLine wsX5_kindOf := goodIn_r _ [23, 1, 24, 2, 9, 10, 11, 12, 13, 14, 15, 25, 26, 27, 28, 29, 30, 31, 32, 33, 34, 35, 36, 37, 38, 39, 40, 41, 42, 43, 44, 45, 46, 47, 48, 49, 50, 51, 52, 53, 54, 55, 56, 57, 58, 59, 60, 61, 62, 63, 64, 65, 66, 67, 68, 69, 70, 71, 72, 73, 74, 75, 76, 77, 78, 79, 80, 81, 82, 83, 84, 85, 86, 87, 88, 89, 90, 91, 92, 93, 94, 95, 96, 97, 98, 99, 100, 101, 102, 103, 104, 105, 106, 107, 108, 109, 110, 111, 112, 113, 185, 186, 187, 188, 189, 190, 191, 192, 193, 194, 195, 196, 197, 198, 199, 200, 201, 202, 203, 204, 205] (by decide +kernel) (by decide +kernel)
set_option maxRecDepth 20000 in
theorem gX5_takeLine_X5_kindOf : GoodIn wsX5_takeLine (wsV RX5 120 RX5 yX5_kindOf wsX5_kindOf) := goodIn_app (goodIn_of _ (by decide +kernel)) ggX5_takeLine_X5_kindOf
set_option maxRecDepth 20000 in
theorem ggX5_take_X5_forgetAll : GoodIn wsX5_take wsX5_forgetAll := goodIn_r _ [14, 15, 16, 17, 18, 19, 20, 21, 8, 9, 200, 201, 202, 203, 204, 205, 206, 207, 208, 209, 210, 211, 212, 213, 214, 215, 216, 217, 218] (by decide +kernel) (by decide +kernel)
set_option maxRecDepth 20000 in
theorem gX5_take_X5_forgetAll : GoodIn wsX5_take (wsV RX5 57 RX5 yX5_forgetAll wsX5_forgetAll) := goodIn_app (goodIn_of _ (by decide +kernel)) ggX5_take_X5_forgetAll
set_option maxRecDepth 20000 in
theorem ggX5_take_X5_takeLine : GoodIn wsX5_take wsX5_takeLine := goodIn_r _ [25, 2, 15, 9, 26, 27, 28, 13, 29, 30, 31, 32, 33, 34, 35, 36, 37, 38, 39, 40, 41, 42, 43, 44, 1, 45, 46, 47, 48, 49, 50, 51, 52, 53, 54, 55, 56, 57, 58, 59, 60, 61, 62, 63, 64, 65, 66, 67, 68, 69, 70, 71, 72, 73, 74, 75, 76, 77, 78, 79, 80, 81, 82, 83, 84, 85, 86, 87, 88, 89, 90, 91, 92, 93, 94, 95, 96, 97, 98, 99, 100, 101, 102, 103, 104, 105, 106, 107, 108, 109, 110, 111, 112, 113, 114, 115, 116, 117, 118, 119, 120, 121, 122, 123, 124, 125, 126, 127, 128, 129, 130, 131, 132, 133, 134, 135, 136, 137, 138, 8, 139, 140, 141, 142, 143, 144, 145, 146, 147, 148, 149, 150, 151, 152, 153, 154, 155, 18, 19, 21, 20, 17, 156, 157, 158, 159, 16, 160, 161, 162, 163, 164, 165, 166, 167, 168, 169, 170, 171, 172, 173, 174, 175, 176, 177, 178, 179, 180, 181, 182, 183, 184, 185, 186, 187, 188, 189, 190, 191, 192, 193, 194, 195, 196, 197, 200, 201, 202, 203, 204, 205, 206, 207, 208, 209, 210, 211, 212, 213, 214, 215, 216, 217, 218, 198, 199, 219, 220, 221, 222, 223, 224, 225, 226, 227, 228, 229, 230, 231] (by decide +kernel) (by decide +kernel)
set_option maxRecDepth 20000 in
theorem gX5_take_X5_takeLine : GoodIn wsX5_take (wsV RX5 74 RX5 yX5_takeLine wsX5_takeLine) := goodIn_app (goodIn_of _ (by decide +kernel)) ggX5_take_X5_takeLine
set_option maxRecDepth 20000 in
theorem ggX5_take_X5_addError : GoodIn wsX5_take wsX5_addError := goodIn_r _ [159, 16, 160, 161, 200, 201, 202, 203, 204, 205, 206, 207, 208, 209, 210, 211, 212, 213, 214, 215, 216, 217, 218] (by decide +kernel) (by decide +kernel)
set_option maxRecDepth 20000 in
theorem gX5_take_X5_addError : GoodIn wsX5_take (wsV RX5 81 RX5 yX5_addError wsX5_addError) := goodIn_app (goodIn_of _ (by decide +kernel)) ggX5_take_X5_addError
set_option maxRecDepth 20000 in
theorem ggX11_read_X5_take : GoodIn wsX11_read wsX5_take := goodIn_r _ [14, 15, 16, 17, 18, 19, 20, 21, 22, 23, 24, 25, 26, 13, 27, 28, 29, 30, 31, 32, 33, 34, 35, 36, 37, 38, 39, 40, 41, 42, 43, 44, 45, 46, 47, 48, 49, 50, 51, 52, 53, 54, 55, 56, 57, 58, 59, 60, 61, 62, 63, 64, 65, 66, 67, 68, 69, 70, 71, 72, 73, 74, 75, 76, 77, 78, 79, 80, 81, 82, 83, 84, 85, 86, 87, 88, 89, 90, 91, 92, 93, 94, 95, 96, 97, 98, 99, 100, 101, 102, 103, 104, 105, 106, 107, 108, 109, 110, 111, 112, 113, 114, 115, 116, 117, 118, 119, 120, 121, 122, 123, 124, 125, 126, 127, 128, 129, 130, 131, 132, 133, 134, 135, 136, 137, 138, 139, 140, 141, 142, 143, 144, 145, 146, 147, 148, 149, 150, 151, 152, 153, 154, 155, 156, 157, 158, 159, 160, 161, 162, 163, 164, 165, 166, 167, 168, 169, 170, 171, 172, 173, 174, 175, 176, 177, 178, 179, 180, 181, 182, 183, 184, 185, 186, 187, 188, 189, 190, 191, 192, 193, 194, 195, 196, 197, 198, 199, 200, 201, 202, 203, 204, 205, 206, 207, 208, 209, 210, 269, 270, 271, 272, 273, 274, 275, 276, 277, 278, 279, 280, 281, 282, 283, 284, 285, 286, 287, 288, 289, 290, 291, 292, 293, 294, 295, 296, 297, 298, 299, 300, 301, 302] (by decide +kernel) (by decide +kernel)
set_option maxRecDepth 20000 in
theorem gX11_read_X5_take : GoodIn wsX11_read (wsV RX11 95 RX5 yX5_take wsX5_take) := goodIn_app (goodIn_of _ (by decide +kernel)) ggX11_read_X5_take
set_option maxRecDepth 20000 in
theorem ggX11_read_X1_build : GoodIn wsX11_read wsX1_build := goodIn_r _ [215, 216, 217, 218, 219, 220, 221, 222, 223, 224, 225, 226, 214, 227, 228, 229, 230, 231, 232, 233, 234, 235, 236, 237, 238, 239, 240, 241, 242, 243, 303, 304, 305, 306, 307, 271, 272, 273, 274, 275, 276, 277, 278, 279, 280, 281, 282, 283, 284, 285, 286, 287, 288, 289, 290, 291, 292, 293, 294, 295, 296, 297, 298, 308, 309, 310, 311, 312] (by decide +kernel) (by decide +kernel)
set_option maxRecDepth 20000 in
theorem gX11_read_X1_build : GoodIn wsX11_read (wsV RX11 99 RX1 yX1_build wsX1_build) := goodIn_app (goodIn_of _ (by decide +kernel)) ggX11_read_X1_build
set_option maxRecDepth 20000 in
theorem ggX12_read_X12_busy : GoodIn wsX12_read wsX12_busy := goodIn_r _ [13, 14, 15, 16, 17, 12, 18, 19, 130, 131, 132, 133, 134, 135, 136, 137, 138, 139, 140, 141, 142, 143, 144, 145, 146, 147, 148, 149, 150, 151, 152, 153, 154, 155, 156, 157, 158, 159, 160, 161, 162, 163, 164, 165, 166, 167, 168, 169, 170, 171, 172, 173, 174, 175, 176, 177, 178, 179, 180, 181, 182, 183, 184, 185, 186, 187, 188, 189, 190, 191, 192, 193, 194, 195, 196, 197, 198, 199, 200, 201, 202, 203, 204, 205, 206, 207, 208, 209, 210, 211, 212, 213, 214, 215] (by decide +kernel) (by decide +kernel)
set_option maxRecDepth 20000 in
theorem gX12_read_X12_busy : GoodIn wsX12_read (wsV RX12 174 RX12 yX12_busy wsX12_busy) := goodIn_app (goodIn_of _ (by decide +kernel)) ggX12_read_X12_busy
set_option maxRecDepth 20000 in
theorem ggX12_read_X12_forget : GoodIn wsX12_read wsX12_forget := goodIn_r _ [23, 8, 24, 25, 7, 6, 26, 27, 28, 29, 30, 130, 131, 132, 133, 134, 135, 136, 137, 138, 139, 140, 141, 142, 143, 144, 145, 146, 147, 148, 149, 150, 151, 152, 153, 154, 155, 156, 157, 158, 159, 160, 161, 162, 163, 164, 165, 166, 167, 168, 169, 170, 171, 172, 173, 174, 175, 176, 177, 178, 179, 180, 181, 182, 183, 184, 185, 186, 187, 188, 189, 190, 191, 192, 193, 194, 195, 196, 197, 198, 199, 200, 201, 202, 203, 204, 205, 206, 207, 208, 209, 210, 211, 212, 213, 214, 215] (by decide +kernel) (by decide +kernel)
set_option maxRecDepth 20000 in
theorem gX12_read_X12_forget : GoodIn wsX12_read (wsV RX12 178 RX12 yX12_forget wsX12_forget) := goodIn_app (goodIn_of _ (by decide +kernel)) ggX12_read_X12_forget
set_option maxRecDepth 20000 in
theorem ggX12_read_X12_takeLine : GoodIn wsX12_read wsX12_takeLine := goodIn_r _ [34, 2, 3, 4, 35, 36, 12, 37, 38, 39, 40, 130, 131, 132, 133, 134, 135, 136, 137, 138, 139, 140, 141, 142, 143, 144, 145, 146, 147, 148, 149, 150, 151, 152, 153, 154, 155, 156, 157, 158, 159, 160, 161, 162, 163, 164, 165, 166, 167, 168, 169, 170, 171, 172, 173, 174, 175, 176, 177, 178, 179, 180, 181, 182, 183, 184, 185, 186, 187, 188, 189, 190, 191, 192, 193, 194, 195, 196, 197, 198, 199, 200, 201, 202, 203, 204, 205, 206, 207, 208, 209, 210, 211, 212, 213, 214, 215] (by decide +kernel) (by decide +kernel)
set_option maxRecDepth 20000 in
theorem gX12_read_X12_takeLine : GoodIn wsX12_read (wsV RX12 182 RX12 yX12_takeLine wsX12_takeLine) := goodIn_app (goodIn_of _ (by decide +kernel)) ggX12_read_X12_takeLine
set_option maxRecDepth 20000 in
theorem ggX12_read_X12_lineError : GoodIn wsX12_read wsX12_lineError := goodIn_r _ [44, 6, 45, 24, 46, 47, 48, 12, 49, 3, 4, 5, 50, 51, 52, 53, 54, 55, 56, 57, 58, 59, 60, 61, 62, 63, 7, 64, 65, 66, 67, 68, 69, 70, 71, 72, 25, 35, 36, 37, 73, 74, 75, 76, 77, 78, 29, 79, 80, 81, 82, 83, 84, 85, 86, 87, 88, 89, 90, 91, 92, 93, 38, 39, 40, 94, 95, 96, 97, 27, 98, 99, 100, 101, 102, 103, 104, 105, 26, 28, 106, 107, 108, 109, 110, 111, 130, 131, 132, 133, 134, 135, 136, 137, 138, 139, 140, 141, 142, 143, 144, 145, 146, 147, 148, 149, 150, 151, 152, 153, 154, 155, 156, 157, 158, 159, 160, 161, 162, 163, 164, 165, 166, 167, 168, 169, 170, 171, 172, 173, 174, 175, 176, 177, 178, 179, 180, 181, 182, 183, 184, 185, 186, 187, 188, 189, 190, 191, 192, 193, 194, 195, 196, 197, 198, 199, 200, 201, 202, 203, 204, 205, 206, 207, 208, 209, 210, 211, 212, 213, 214, 215] (by decide +kernel) (by decide +kernel)
set_option maxRecDepth 20000 in
theorem gX12_read_X12_lineError : GoodIn wsX12_read (wsV RX12 186 RX12 yX12_lineError wsX12_lineError) := goodIn_app (goodIn_of _ (by decide +kernel)) ggX12_read_X12_lineError
set_option maxRecDepth 20000 in
theorem ggX12_read_X12_note : GoodIn wsX12_read wsX12_note := goodIn_r _ [115, 8, 116, 130, 131, 132, 133, 134, 135, 136, 137, 138, 139, 140, 141, 142, 143, 144, 145, 146, 147, 148, 149, 150, 151, 152, 153, 154, 155, 156, 157, 158, 159, 160, 161, 162, 163, 164, 165, 166, 167, 168, 169, 170, 171, 172, 173, 174, 175, 176, 177, 178, 179, 180, 181, 182, 183, 184, 185, 186, 187, 188, 189, 190, 191, 192, 193, 194, 195, 196, 197, 198, 199, 200, 201, 202, 203, 204, 205, 206, 207, 208, 209, 210, 211, 212, 213, 214, 215] (by decide +kernel) (by decide +kernel)
set_option maxRecDepth 20000 in
theorem gX12_read_X12_note : GoodIn wsX12_read (wsV RX12 189 RX12 yX12_note wsX12_note) := goodIn_app (goodIn_of _ (by decide +kernel)) ggX12_read_X12_note
set_option maxHeartbeats 4000000 in
set_option maxRecDepth 100000 in
theorem c_X5_forgetAll (l : Launch) (D : va_G) (h0 : Nat) (e_source : Nat) (e_errorLines : Nat) (e_errorNumbers : Nat) (e_sections : Nat) (e_scenarios : Nat) (e_steps : Nat) (e_examples : Nat) (e_rows : Nat) (e_owner : Nat) (e_table : Nat) (sz : Nat)  : Met l yX5_forgetAll wsX5_forgetAll ({ frames := 0, cells := 0, slots := 0, locals := 0 }) (va_Pc [.ref h0] (sj_B D [(h0, .inr (5, [.ref e_source, .int 0, .ref e_errorLines, .ref e_errorNumbers, .int 0, .ref e_sections, .int 0, .ref e_scenarios, .int 0, .ref e_steps, .int 0, .ref e_examples, .int 0, .ref e_rows, .int 0, .int 0, .int 0, .ref e_owner, .ref e_table]))] [] sz sj_n)) (sj_Qv (S := Unit) D (fun _ => True) (fun u => [(h0, .inr (5, [.ref e_source, .int 0, .ref e_errorLines, .ref e_errorNumbers, .int 0, .ref e_sections, .int 0, .ref e_scenarios, .int 0, .ref e_steps, .int 0, .ref e_examples, .int 0, .ref e_rows, .int 0, .int 0, .int 0, .ref e_owner, .ref e_table]))]) (fun u => []) (va_A [(h0, .inr (5, [.ref e_source, .int 0, .ref e_errorLines, .ref e_errorNumbers, .int 0, .ref e_sections, .int 0, .ref e_scenarios, .int 0, .ref e_steps, .int 0, .ref e_examples, .int 0, .ref e_rows, .int 0, .int 0, .int 0, .ref e_owner, .ref e_table]))] sz)) 0 0 (va_A [(h0, .inr (5, [.ref e_source, .int 0, .ref e_errorLines, .ref e_errorNumbers, .int 0, .ref e_sections, .int 0, .ref e_scenarios, .int 0, .ref e_steps, .int 0, .ref e_examples, .int 0, .ref e_rows, .int 0, .int 0, .int 0, .ref e_owner, .ref e_table]))] sz) := by
  refine sj_met (cc := cX5_forgetAll) (maxL := 1) (ret := none) (by decide) rfl (Nat.le_of_ble_eq_true rfl) ?_
  intro p e s m below meth c A ls hx hb hr hml hts hown hlocks hnm hA hsz hS hH hK hE hl
  have hown : s.vm.findClass RX5 = some m.cls := hown
  have in5 : ∀ w ∈ wsX50, w ∈ wsX5_forgetAll := by decide +kernel
  have wd0 := hts (.fieldLink RX5 88 "StoryDesk$Reading" "dialect" "I") (by decide +kernel)
  have wd1 := hts (.fieldLink RX5 91 "StoryDesk$Reading" "errors" "I") (by decide +kernel)
  have wd2 := hts (.fieldLink RX5 94 "StoryDesk$Reading" "rules" "I") (by decide +kernel)
  have wd3 := hts (.fieldLink RX5 97 "StoryDesk$Reading" "scenarioCount" "I") (by decide +kernel)
  have wd4 := hts (.fieldLink RX5 100 "StoryDesk$Reading" "stepCount" "I") (by decide +kernel)
  have wd5 := hts (.fieldLink RX5 103 "StoryDesk$Reading" "exampleCount" "I") (by decide +kernel)
  have wd6 := hts (.fieldLink RX5 106 "StoryDesk$Reading" "rowCount" "I") (by decide +kernel)
  have wd7 := hts (.fieldLink RX5 78 "StoryDesk$Reading" "state" "I") (by decide +kernel)
  have wd8 := hts (.fieldLink RX5 85 "StoryDesk$Reading" "waitingTags" "I") (by decide +kernel)
  have hl : lv_has ls 1 [(0, .ref h0)] := hl
  have hH : sj_H D A ([(h0, .inr (5, [.ref e_source, .int 0, .ref e_errorLines, .ref e_errorNumbers, .int 0, .ref e_sections, .int 0, .ref e_scenarios, .int 0, .ref e_steps, .int 0, .ref e_examples, .int 0, .ref e_rows, .int 0, .int 0, .int 0, .ref e_owner, .ref e_table]))] ++ []) s.heap := hH
  refine lv_aload_n hx hb dX5_forgetAll_0 rfl (lv_at hl 0 rfl) ?_
  refine lv_iconst (v := 0) hx hb dX5_forgetAll_1 (by decide) ?_
  refine sj_put (D := D) (ci := 5) (v := .int 0) (ty := .int) (C := RX5) (F := TX5) (N := 19) hx hb hts in5 tyX5 tyX5_ok nmX5 hown hK hH hS 0 rfl rfl 1 (by decide) wd0 (fun _ h9 => h9) rfl (by decide +kernel) rfl rfl (Nat.le_of_ble_eq_true rfl) dX5_forgetAll_2 (fun H locs (hH : sj_H D A ([(h0, .inr (5, [.ref e_source, .int 0, .ref e_errorLines, .ref e_errorNumbers, .int 0, .ref e_sections, .int 0, .ref e_scenarios, .int 0, .ref e_steps, .int 0, .ref e_examples, .int 0, .ref e_rows, .int 0, .int 0, .int 0, .ref e_owner, .ref e_table]))] ++ []) H) hS => ?_)
  refine lv_aload_n hx hb dX5_forgetAll_5 rfl (lv_at hl 0 rfl) ?_
  refine lv_iconst (v := 0) hx hb dX5_forgetAll_6 (by decide) ?_
  refine sj_put (D := D) (ci := 5) (v := .int 0) (ty := .int) (C := RX5) (F := TX5) (N := 19) hx hb hts in5 tyX5 tyX5_ok nmX5 hown hK hH hS 0 rfl rfl 4 (by decide) wd1 (fun _ h9 => h9) rfl (by decide +kernel) rfl rfl (Nat.le_of_ble_eq_true rfl) dX5_forgetAll_7 (fun H locs (hH : sj_H D A ([(h0, .inr (5, [.ref e_source, .int 0, .ref e_errorLines, .ref e_errorNumbers, .int 0, .ref e_sections, .int 0, .ref e_scenarios, .int 0, .ref e_steps, .int 0, .ref e_examples, .int 0, .ref e_rows, .int 0, .int 0, .int 0, .ref e_owner, .ref e_table]))] ++ []) H) hS => ?_)
  refine lv_aload_n hx hb dX5_forgetAll_10 rfl (lv_at hl 0 rfl) ?_
  refine lv_iconst (v := 0) hx hb dX5_forgetAll_11 (by decide) ?_
  refine sj_put (D := D) (ci := 5) (v := .int 0) (ty := .int) (C := RX5) (F := TX5) (N := 19) hx hb hts in5 tyX5 tyX5_ok nmX5 hown hK hH hS 0 rfl rfl 6 (by decide) wd2 (fun _ h9 => h9) rfl (by decide +kernel) rfl rfl (Nat.le_of_ble_eq_true rfl) dX5_forgetAll_12 (fun H locs (hH : sj_H D A ([(h0, .inr (5, [.ref e_source, .int 0, .ref e_errorLines, .ref e_errorNumbers, .int 0, .ref e_sections, .int 0, .ref e_scenarios, .int 0, .ref e_steps, .int 0, .ref e_examples, .int 0, .ref e_rows, .int 0, .int 0, .int 0, .ref e_owner, .ref e_table]))] ++ []) H) hS => ?_)
  refine lv_aload_n hx hb dX5_forgetAll_15 rfl (lv_at hl 0 rfl) ?_
  refine lv_iconst (v := 0) hx hb dX5_forgetAll_16 (by decide) ?_
  refine sj_put (D := D) (ci := 5) (v := .int 0) (ty := .int) (C := RX5) (F := TX5) (N := 19) hx hb hts in5 tyX5 tyX5_ok nmX5 hown hK hH hS 0 rfl rfl 8 (by decide) wd3 (fun _ h9 => h9) rfl (by decide +kernel) rfl rfl (Nat.le_of_ble_eq_true rfl) dX5_forgetAll_17 (fun H locs (hH : sj_H D A ([(h0, .inr (5, [.ref e_source, .int 0, .ref e_errorLines, .ref e_errorNumbers, .int 0, .ref e_sections, .int 0, .ref e_scenarios, .int 0, .ref e_steps, .int 0, .ref e_examples, .int 0, .ref e_rows, .int 0, .int 0, .int 0, .ref e_owner, .ref e_table]))] ++ []) H) hS => ?_)
  refine lv_aload_n hx hb dX5_forgetAll_20 rfl (lv_at hl 0 rfl) ?_
  refine lv_iconst (v := 0) hx hb dX5_forgetAll_21 (by decide) ?_
  refine sj_put (D := D) (ci := 5) (v := .int 0) (ty := .int) (C := RX5) (F := TX5) (N := 19) hx hb hts in5 tyX5 tyX5_ok nmX5 hown hK hH hS 0 rfl rfl 10 (by decide) wd4 (fun _ h9 => h9) rfl (by decide +kernel) rfl rfl (Nat.le_of_ble_eq_true rfl) dX5_forgetAll_22 (fun H locs (hH : sj_H D A ([(h0, .inr (5, [.ref e_source, .int 0, .ref e_errorLines, .ref e_errorNumbers, .int 0, .ref e_sections, .int 0, .ref e_scenarios, .int 0, .ref e_steps, .int 0, .ref e_examples, .int 0, .ref e_rows, .int 0, .int 0, .int 0, .ref e_owner, .ref e_table]))] ++ []) H) hS => ?_)
  refine lv_aload_n hx hb dX5_forgetAll_25 rfl (lv_at hl 0 rfl) ?_
  refine lv_iconst (v := 0) hx hb dX5_forgetAll_26 (by decide) ?_
  refine sj_put (D := D) (ci := 5) (v := .int 0) (ty := .int) (C := RX5) (F := TX5) (N := 19) hx hb hts in5 tyX5 tyX5_ok nmX5 hown hK hH hS 0 rfl rfl 12 (by decide) wd5 (fun _ h9 => h9) rfl (by decide +kernel) rfl rfl (Nat.le_of_ble_eq_true rfl) dX5_forgetAll_27 (fun H locs (hH : sj_H D A ([(h0, .inr (5, [.ref e_source, .int 0, .ref e_errorLines, .ref e_errorNumbers, .int 0, .ref e_sections, .int 0, .ref e_scenarios, .int 0, .ref e_steps, .int 0, .ref e_examples, .int 0, .ref e_rows, .int 0, .int 0, .int 0, .ref e_owner, .ref e_table]))] ++ []) H) hS => ?_)
  refine lv_aload_n hx hb dX5_forgetAll_30 rfl (lv_at hl 0 rfl) ?_
  refine lv_iconst (v := 0) hx hb dX5_forgetAll_31 (by decide) ?_
  refine sj_put (D := D) (ci := 5) (v := .int 0) (ty := .int) (C := RX5) (F := TX5) (N := 19) hx hb hts in5 tyX5 tyX5_ok nmX5 hown hK hH hS 0 rfl rfl 14 (by decide) wd6 (fun _ h9 => h9) rfl (by decide +kernel) rfl rfl (Nat.le_of_ble_eq_true rfl) dX5_forgetAll_32 (fun H locs (hH : sj_H D A ([(h0, .inr (5, [.ref e_source, .int 0, .ref e_errorLines, .ref e_errorNumbers, .int 0, .ref e_sections, .int 0, .ref e_scenarios, .int 0, .ref e_steps, .int 0, .ref e_examples, .int 0, .ref e_rows, .int 0, .int 0, .int 0, .ref e_owner, .ref e_table]))] ++ []) H) hS => ?_)
  refine lv_aload_n hx hb dX5_forgetAll_35 rfl (lv_at hl 0 rfl) ?_
  refine lv_iconst (v := 0) hx hb dX5_forgetAll_36 (by decide) ?_
  refine sj_put (D := D) (ci := 5) (v := .int 0) (ty := .int) (C := RX5) (F := TX5) (N := 19) hx hb hts in5 tyX5 tyX5_ok nmX5 hown hK hH hS 0 rfl rfl 15 (by decide) wd7 (fun _ h9 => h9) rfl (by decide +kernel) rfl rfl (Nat.le_of_ble_eq_true rfl) dX5_forgetAll_37 (fun H locs (hH : sj_H D A ([(h0, .inr (5, [.ref e_source, .int 0, .ref e_errorLines, .ref e_errorNumbers, .int 0, .ref e_sections, .int 0, .ref e_scenarios, .int 0, .ref e_steps, .int 0, .ref e_examples, .int 0, .ref e_rows, .int 0, .int 0, .int 0, .ref e_owner, .ref e_table]))] ++ []) H) hS => ?_)
  refine lv_aload_n hx hb dX5_forgetAll_40 rfl (lv_at hl 0 rfl) ?_
  refine lv_iconst (v := 0) hx hb dX5_forgetAll_41 (by decide) ?_
  refine sj_put (D := D) (ci := 5) (v := .int 0) (ty := .int) (C := RX5) (F := TX5) (N := 19) hx hb hts in5 tyX5 tyX5_ok nmX5 hown hK hH hS 0 rfl rfl 16 (by decide) wd8 (fun _ h9 => h9) rfl (by decide +kernel) rfl rfl (Nat.le_of_ble_eq_true rfl) dX5_forgetAll_42 (fun H locs (hH : sj_H D A ([(h0, .inr (5, [.ref e_source, .int 0, .ref e_errorLines, .ref e_errorNumbers, .int 0, .ref e_sections, .int 0, .ref e_scenarios, .int 0, .ref e_steps, .int 0, .ref e_examples, .int 0, .ref e_rows, .int 0, .int 0, .int 0, .ref e_owner, .ref e_table]))] ++ []) H) hS => ?_)
  exact sj_vret hx hb hr hlocks hS () trivial (sj_sub hH [0] rfl rfl) (sj_Knil hK) (Nat.le_of_ble_eq_true rfl) (Nat.le_of_ble_eq_true rfl) dX5_forgetAll_45
set_option maxHeartbeats 4000000 in
set_option maxRecDepth 100000 in
theorem c_X5_skipBlanks (l : Launch) (D : va_G) (h0 : Nat) (e_source : Nat) (e_errorLines : Nat) (e_errorNumbers : Nat) (e_sections : Nat) (e_scenarios : Nat) (e_steps : Nat) (e_examples : Nat) (e_rows : Nat) (e_owner : Nat) (e_table : Nat) (sz : Nat)  : Met l yX5_skipBlanks wsX5_skipBlanks ({ frames := 0, cells := 0, slots := 0, locals := 0 }) (va_Pc [.ref h0, .int 0, .int 0] (sj_B D [(h0, .inr (5, [.ref e_source, .int 0, .ref e_errorLines, .ref e_errorNumbers, .int 0, .ref e_sections, .int 0, .ref e_scenarios, .int 0, .ref e_steps, .int 0, .ref e_examples, .int 0, .ref e_rows, .int 0, .int 0, .int 0, .ref e_owner, .ref e_table]))] [] sz sj_n)) (sj_Qi (S := Unit) D (fun r _ => r = 0) (fun u => [(h0, .inr (5, [.ref e_source, .int 0, .ref e_errorLines, .ref e_errorNumbers, .int 0, .ref e_sections, .int 0, .ref e_scenarios, .int 0, .ref e_steps, .int 0, .ref e_examples, .int 0, .ref e_rows, .int 0, .int 0, .int 0, .ref e_owner, .ref e_table]))]) (fun u => []) (va_A [(h0, .inr (5, [.ref e_source, .int 0, .ref e_errorLines, .ref e_errorNumbers, .int 0, .ref e_sections, .int 0, .ref e_scenarios, .int 0, .ref e_steps, .int 0, .ref e_examples, .int 0, .ref e_rows, .int 0, .int 0, .int 0, .ref e_owner, .ref e_table]))] sz)) 0 0 (va_A [(h0, .inr (5, [.ref e_source, .int 0, .ref e_errorLines, .ref e_errorNumbers, .int 0, .ref e_sections, .int 0, .ref e_scenarios, .int 0, .ref e_steps, .int 0, .ref e_examples, .int 0, .ref e_rows, .int 0, .int 0, .int 0, .ref e_owner, .ref e_table]))] sz) := by
  refine sj_met (cc := cX5_skipBlanks) (maxL := 4) (ret := (some .int)) (by decide) rfl (Nat.le_of_ble_eq_true rfl) ?_
  intro p e s m below meth c A ls hx hb hr hml hts hown hlocks hnm hA hsz hS hH hK hE hl
  have hown : s.vm.findClass RX5 = some m.cls := hown
  have hl : lv_has ls 4 [(0, .ref h0), (1, .int 0), (2, .int 0)] := hl
  have hH : sj_H D A ([(h0, .inr (5, [.ref e_source, .int 0, .ref e_errorLines, .ref e_errorNumbers, .int 0, .ref e_sections, .int 0, .ref e_scenarios, .int 0, .ref e_steps, .int 0, .ref e_examples, .int 0, .ref e_rows, .int 0, .int 0, .int 0, .ref e_owner, .ref e_table]))] ++ []) s.heap := hH
  refine lv_iload_n hx hb dX5_skipBlanks_0 rfl (lv_at hl 1 rfl) ?_
  refine lv_istore_n (lv' := [(3, .int 0), (0, .ref h0), (1, .int 0), (2, .int 0)]) hx hb dX5_skipBlanks_1 rfl hl (by decide) rfl (fun ls hl => ?_)
  refine lv_iload_n hx hb dX5_skipBlanks_2 rfl (lv_at hl 0 rfl) ?_
  refine lv_iload_n hx hb dX5_skipBlanks_3 rfl (lv_at hl 3 rfl) ?_
  refine lv_icmp_ge (tgt := 26) hx hb dX5_skipBlanks_4 (by decide) (fun _ => ?_) (fun h => absurd (by decide) h)
  refine lv_iload_n hx hb dX5_skipBlanks_26 rfl (lv_at hl 0 rfl) ?_
  exact sj_zret hx hb hr hlocks rfl hS () rfl (sj_sub hH [0] rfl rfl) (sj_Knil hK) (Nat.le_of_ble_eq_true rfl) (Nat.le_of_ble_eq_true rfl) dX5_skipBlanks_27
set_option maxHeartbeats 4000000 in
set_option maxRecDepth 100000 in
theorem c_X5_dropBlanks (l : Launch) (D : va_G) (h0 : Nat) (e_source : Nat) (e_errorLines : Nat) (e_errorNumbers : Nat) (e_sections : Nat) (e_scenarios : Nat) (e_steps : Nat) (e_examples : Nat) (e_rows : Nat) (e_owner : Nat) (e_table : Nat) (sz : Nat)  : Met l yX5_dropBlanks wsX5_dropBlanks ({ frames := 0, cells := 0, slots := 0, locals := 0 }) (va_Pc [.ref h0, .int 0, .int 0] (sj_B D [(h0, .inr (5, [.ref e_source, .int 0, .ref e_errorLines, .ref e_errorNumbers, .int 0, .ref e_sections, .int 0, .ref e_scenarios, .int 0, .ref e_steps, .int 0, .ref e_examples, .int 0, .ref e_rows, .int 0, .int 0, .int 0, .ref e_owner, .ref e_table]))] [] sz sj_n)) (sj_Qi (S := Unit) D (fun r _ => r = 0) (fun u => [(h0, .inr (5, [.ref e_source, .int 0, .ref e_errorLines, .ref e_errorNumbers, .int 0, .ref e_sections, .int 0, .ref e_scenarios, .int 0, .ref e_steps, .int 0, .ref e_examples, .int 0, .ref e_rows, .int 0, .int 0, .int 0, .ref e_owner, .ref e_table]))]) (fun u => []) (va_A [(h0, .inr (5, [.ref e_source, .int 0, .ref e_errorLines, .ref e_errorNumbers, .int 0, .ref e_sections, .int 0, .ref e_scenarios, .int 0, .ref e_steps, .int 0, .ref e_examples, .int 0, .ref e_rows, .int 0, .int 0, .int 0, .ref e_owner, .ref e_table]))] sz)) 0 0 (va_A [(h0, .inr (5, [.ref e_source, .int 0, .ref e_errorLines, .ref e_errorNumbers, .int 0, .ref e_sections, .int 0, .ref e_scenarios, .int 0, .ref e_steps, .int 0, .ref e_examples, .int 0, .ref e_rows, .int 0, .int 0, .int 0, .ref e_owner, .ref e_table]))] sz) := by
  refine sj_met (cc := cX5_dropBlanks) (maxL := 4) (ret := (some .int)) (by decide) rfl (Nat.le_of_ble_eq_true rfl) ?_
  intro p e s m below meth c A ls hx hb hr hml hts hown hlocks hnm hA hsz hS hH hK hE hl
  have hown : s.vm.findClass RX5 = some m.cls := hown
  have hl : lv_has ls 4 [(0, .ref h0), (1, .int 0), (2, .int 0)] := hl
  have hH : sj_H D A ([(h0, .inr (5, [.ref e_source, .int 0, .ref e_errorLines, .ref e_errorNumbers, .int 0, .ref e_sections, .int 0, .ref e_scenarios, .int 0, .ref e_steps, .int 0, .ref e_examples, .int 0, .ref e_rows, .int 0, .int 0, .int 0, .ref e_owner, .ref e_table]))] ++ []) s.heap := hH
  refine lv_iload_n hx hb dX5_dropBlanks_0 rfl (lv_at hl 2 rfl) ?_
  refine lv_istore_n (lv' := [(3, .int 0), (0, .ref h0), (1, .int 0), (2, .int 0)]) hx hb dX5_dropBlanks_1 rfl hl (by decide) rfl (fun ls hl => ?_)
  refine lv_iload_n hx hb dX5_dropBlanks_2 rfl (lv_at hl 0 rfl) ?_
  refine lv_iload_n hx hb dX5_dropBlanks_3 rfl (lv_at hl 2 rfl) ?_
  refine lv_icmp_le (tgt := 28) hx hb dX5_dropBlanks_4 (by decide) (fun _ => ?_) (fun h => absurd (by decide) h)
  refine lv_iload_n hx hb dX5_dropBlanks_28 rfl (lv_at hl 0 rfl) ?_
  exact sj_zret hx hb hr hlocks rfl hS () rfl (sj_sub hH [0] rfl rfl) (sj_Knil hK) (Nat.le_of_ble_eq_true rfl) (Nat.le_of_ble_eq_true rfl) dX5_dropBlanks_29
set_option maxHeartbeats 4000000 in
set_option maxRecDepth 100000 in
theorem c_X5_kindOf (l : Launch) (D : va_G) (h0 : Nat) (e_source : Nat) (e_errorLines : Nat) (e_errorNumbers : Nat) (e_sections : Nat) (e_scenarios : Nat) (e_steps : Nat) (e_examples : Nat) (e_rows : Nat) (e_owner : Nat) (e_table : Nat) (sz : Nat)  : Met l yX5_kindOf wsX5_kindOf ({ frames := 0, cells := 0, slots := 0, locals := 0 }) (va_Pc [.ref h0, .int 0, .int 0] (sj_B D [(h0, .inr (5, [.ref e_source, .int 0, .ref e_errorLines, .ref e_errorNumbers, .int 0, .ref e_sections, .int 0, .ref e_scenarios, .int 0, .ref e_steps, .int 0, .ref e_examples, .int 0, .ref e_rows, .int 0, .int 0, .int 0, .ref e_owner, .ref e_table]))] [] sz sj_n)) (sj_Qi (S := Unit) D (fun r _ => r = 0) (fun u => [(h0, .inr (5, [.ref e_source, .int 0, .ref e_errorLines, .ref e_errorNumbers, .int 0, .ref e_sections, .int 0, .ref e_scenarios, .int 0, .ref e_steps, .int 0, .ref e_examples, .int 0, .ref e_rows, .int 0, .int 0, .int 0, .ref e_owner, .ref e_table]))]) (fun u => []) (va_A [(h0, .inr (5, [.ref e_source, .int 0, .ref e_errorLines, .ref e_errorNumbers, .int 0, .ref e_sections, .int 0, .ref e_scenarios, .int 0, .ref e_steps, .int 0, .ref e_examples, .int 0, .ref e_rows, .int 0, .int 0, .int 0, .ref e_owner, .ref e_table]))] sz)) 0 0 (va_A [(h0, .inr (5, [.ref e_source, .int 0, .ref e_errorLines, .ref e_errorNumbers, .int 0, .ref e_sections, .int 0, .ref e_scenarios, .int 0, .ref e_steps, .int 0, .ref e_examples, .int 0, .ref e_rows, .int 0, .int 0, .int 0, .ref e_owner, .ref e_table]))] sz) := by
  refine sj_met (cc := cX5_kindOf) (maxL := 6) (ret := (some .int)) (by decide) rfl (Nat.le_of_ble_eq_true rfl) ?_
  intro p e s m below meth c A ls hx hb hr hml hts hown hlocks hnm hA hsz hS hH hK hE hl
  have hown : s.vm.findClass RX5 = some m.cls := hown
  have hl : lv_has ls 6 [(0, .ref h0), (1, .int 0), (2, .int 0)] := hl
  have hH : sj_H D A ([(h0, .inr (5, [.ref e_source, .int 0, .ref e_errorLines, .ref e_errorNumbers, .int 0, .ref e_sections, .int 0, .ref e_scenarios, .int 0, .ref e_steps, .int 0, .ref e_examples, .int 0, .ref e_rows, .int 0, .int 0, .int 0, .ref e_owner, .ref e_table]))] ++ []) s.heap := hH
  refine lv_iload_n hx hb dX5_kindOf_0 rfl (lv_at hl 1 rfl) ?_
  refine lv_iload_n hx hb dX5_kindOf_1 rfl (lv_at hl 2 rfl) ?_
  refine lv_icmp_lt (tgt := 7) hx hb dX5_kindOf_2 (by decide) (fun h => absurd h (by decide)) (fun _ => ?_)
  refine lv_iconst (v := 0) hx hb dX5_kindOf_5 (by decide) ?_
  exact sj_zret hx hb hr hlocks rfl hS () rfl (sj_sub hH [0] rfl rfl) (sj_Knil hK) (Nat.le_of_ble_eq_true rfl) (Nat.le_of_ble_eq_true rfl) dX5_kindOf_6
set_option maxHeartbeats 4000000 in
set_option maxRecDepth 100000 in
theorem c_X5_takeLine (l : Launch) (D : va_G) (h0 : Nat) (e_source : Nat) (e_errorLines : Nat) (e_errorNumbers : Nat) (e_sections : Nat) (e_scenarios : Nat) (e_steps : Nat) (e_examples : Nat) (e_rows : Nat) (e_owner : Nat) (e_table : Nat) (sz : Nat)  : Met l yX5_takeLine wsX5_takeLine ({ frames := 1, cells := 0, slots := 0, locals := 25 }) (va_Pc [.ref h0, .int 1, .int 0, .int 0] (sj_B D [(h0, .inr (5, [.ref e_source, .int 0, .ref e_errorLines, .ref e_errorNumbers, .int 0, .ref e_sections, .int 0, .ref e_scenarios, .int 0, .ref e_steps, .int 0, .ref e_examples, .int 0, .ref e_rows, .int 0, .int 0, .int 0, .ref e_owner, .ref e_table]))] [] sz sj_n)) (sj_Qv (S := Unit) D (fun _ => True) (fun u => [(h0, .inr (5, [.ref e_source, .int 0, .ref e_errorLines, .ref e_errorNumbers, .int 0, .ref e_sections, .int 0, .ref e_scenarios, .int 0, .ref e_steps, .int 0, .ref e_examples, .int 0, .ref e_rows, .int 0, .int 0, .int 0, .ref e_owner, .ref e_table]))]) (fun u => []) (va_A [(h0, .inr (5, [.ref e_source, .int 0, .ref e_errorLines, .ref e_errorNumbers, .int 0, .ref e_sections, .int 0, .ref e_scenarios, .int 0, .ref e_steps, .int 0, .ref e_examples, .int 0, .ref e_rows, .int 0, .int 0, .int 0, .ref e_owner, .ref e_table]))] sz)) 0 0 (va_A [(h0, .inr (5, [.ref e_source, .int 0, .ref e_errorLines, .ref e_errorNumbers, .int 0, .ref e_sections, .int 0, .ref e_scenarios, .int 0, .ref e_steps, .int 0, .ref e_examples, .int 0, .ref e_rows, .int 0, .int 0, .int 0, .ref e_owner, .ref e_table]))] sz) := by
  refine sj_met (cc := cX5_takeLine) (maxL := 8) (ret := none) (by decide) rfl (Nat.le_of_ble_eq_true rfl) ?_
  intro p e s m below meth c A ls hx hb hr hml hts hown hlocks hnm hA hsz hS hH hK hE hl
  have hown : s.vm.findClass RX5 = some m.cls := hown
  have hl : lv_has ls 8 [(0, .ref h0), (1, .int 1), (2, .int 0), (3, .int 0)] := hl
  have hH : sj_H D A ([(h0, .inr (5, [.ref e_source, .int 0, .ref e_errorLines, .ref e_errorNumbers, .int 0, .ref e_sections, .int 0, .ref e_scenarios, .int 0, .ref e_steps, .int 0, .ref e_examples, .int 0, .ref e_rows, .int 0, .int 0, .int 0, .ref e_owner, .ref e_table]))] ++ []) s.heap := hH
  refine lv_aload_n hx hb dX5_takeLine_0 rfl (lv_at hl 0 rfl) ?_
  refine lv_iload_n hx hb dX5_takeLine_1 rfl (lv_at hl 2 rfl) ?_
  refine lv_iload_n hx hb dX5_takeLine_2 rfl (lv_at hl 3 rfl) ?_
  refine sj_calli (wr := []) (va_runV (As := [.int 0, .int 0]) (rest := []) ⟨hx, hb, hml, hown, hts⟩ (c_X5_skipBlanks l D h0 e_source e_errorLines e_errorNumbers e_sections e_scenarios e_steps e_examples e_rows e_owner e_table s.heap.size) (cwV 2 hts gX5_takeLine_X5_skipBlanks rfl rfl rfl (by decide +kernel) ⟨(Nat.le_of_ble_eq_true rfl), (Nat.le_of_ble_eq_true rfl)⟩) (sj_preV (q := (RX5, TX5, 19)) hH hK [0] rfl rfl [] rfl rfl rfl sj_bln sj_exn) rfl rfl hl.1 rfl (lv_room (Nat.le_of_ble_eq_true rfl)) dX5_takeLine_3 ⟨(Nat.le_of_ble_eq_true rfl), (Nat.le_of_ble_eq_true rfl)⟩) hH hK hS hA [0] [] rfl rfl rfl rfl (by decide) rfl rfl (fun r_1 u_2 H locs hw_3 hH hK hS => ?_)
  have hH : sj_H D A ([(h0, .inr (5, [.ref e_source, .int 0, .ref e_errorLines, .ref e_errorNumbers, .int 0, .ref e_sections, .int 0, .ref e_scenarios, .int 0, .ref e_steps, .int 0, .ref e_examples, .int 0, .ref e_rows, .int 0, .int 0, .int 0, .ref e_owner, .ref e_table]))] ++ []) H := hH
  have hK : va_K D vwCl [] s := by simpa using hK
  subst hw_3
  refine lv_istore (lv' := [(4, .int 0), (0, .ref h0), (1, .int 1), (2, .int 0), (3, .int 0)]) hx hb dX5_takeLine_6 hl (by decide) rfl (fun ls hl => ?_)
  refine lv_aload_n hx hb dX5_takeLine_8 rfl (lv_at hl 1 rfl) ?_
  refine lv_iload hx hb dX5_takeLine_9 (lv_at hl 0 rfl) ?_
  refine lv_iload_n hx hb dX5_takeLine_11 rfl (lv_at hl 4 rfl) ?_
  refine sj_calli (wr := []) (va_runV (As := [.int 0, .int 0]) (rest := []) ⟨hx, hb, hml, hown, hts⟩ (c_X5_dropBlanks l D h0 e_source e_errorLines e_errorNumbers e_sections e_scenarios e_steps e_examples e_rows e_owner e_table H.size) (cwV 2 hts gX5_takeLine_X5_dropBlanks rfl rfl rfl (by decide +kernel) ⟨(Nat.le_of_ble_eq_true rfl), (Nat.le_of_ble_eq_true rfl)⟩) (sj_preV (q := (RX5, TX5, 19)) hH hK [0] rfl rfl [] rfl rfl rfl sj_bln sj_exn) rfl rfl hl.1 rfl (lv_room (Nat.le_of_ble_eq_true rfl)) dX5_takeLine_12 ⟨(Nat.le_of_ble_eq_true rfl), (Nat.le_of_ble_eq_true rfl)⟩) hH hK hS hA [0] [] rfl rfl rfl rfl (by decide) rfl rfl (fun r_4 u_5 H locs hw_6 hH hK hS => ?_)
  have hH : sj_H D A ([(h0, .inr (5, [.ref e_source, .int 0, .ref e_errorLines, .ref e_errorNumbers, .int 0, .ref e_sections, .int 0, .ref e_scenarios, .int 0, .ref e_steps, .int 0, .ref e_examples, .int 0, .ref e_rows, .int 0, .int 0, .int 0, .ref e_owner, .ref e_table]))] ++ []) H := hH
  have hK : va_K D vwCl [] s := by simpa using hK
  subst hw_6
  refine lv_istore (lv' := [(5, .int 0), (4, .int 0), (0, .ref h0), (1, .int 1), (2, .int 0), (3, .int 0)]) hx hb dX5_takeLine_15 hl (by decide) rfl (fun ls hl => ?_)
  refine lv_iload_n hx hb dX5_takeLine_17 rfl (lv_at hl 3 rfl) ?_
  refine lv_iconst (v := 1) hx hb dX5_takeLine_18 (by decide) ?_
  refine lv_icmp_ne (tgt := 66) hx hb dX5_takeLine_19 (by decide) (fun h => absurd (by decide) h) (fun _ => ?_)
  refine lv_iload hx hb dX5_takeLine_22 (lv_at hl 0 rfl) ?_
  refine lv_iload hx hb dX5_takeLine_24 (lv_at hl 1 rfl) ?_
  refine lv_isub hx hb dX5_takeLine_26 ?_
  refine sj_i (y := 0) (by decide) ?_
  refine lv_iconst (v := 2) hx hb dX5_takeLine_27 (by decide) ?_
  refine lv_icmp_ne (tgt := 66) hx hb dX5_takeLine_28 (by decide) (fun _ => ?_) (fun h => absurd h (by decide))
  refine lv_aload_n hx hb dX5_takeLine_66 rfl (lv_at hl 2 rfl) ?_
  refine lv_iload hx hb dX5_takeLine_67 (lv_at hl 1 rfl) ?_
  refine lv_iload hx hb dX5_takeLine_69 (lv_at hl 0 rfl) ?_
  refine sj_calli (wr := []) (va_runV (As := [.int 0, .int 0]) (rest := []) ⟨hx, hb, hml, hown, hts⟩ (c_X5_kindOf l D h0 e_source e_errorLines e_errorNumbers e_sections e_scenarios e_steps e_examples e_rows e_owner e_table H.size) (cwV 2 hts gX5_takeLine_X5_kindOf rfl rfl rfl (by decide +kernel) ⟨(Nat.le_of_ble_eq_true rfl), (Nat.le_of_ble_eq_true rfl)⟩) (sj_preV (q := (RX5, TX5, 19)) hH hK [0] rfl rfl [] rfl rfl rfl sj_bln sj_exn) rfl rfl hl.1 rfl (lv_room (Nat.le_of_ble_eq_true rfl)) dX5_takeLine_71 ⟨(Nat.le_of_ble_eq_true rfl), (Nat.le_of_ble_eq_true rfl)⟩) hH hK hS hA [0] [] rfl rfl rfl rfl (by decide) rfl rfl (fun r_9 u_10 H locs hw_11 hH hK hS => ?_)
  have hH : sj_H D A ([(h0, .inr (5, [.ref e_source, .int 0, .ref e_errorLines, .ref e_errorNumbers, .int 0, .ref e_sections, .int 0, .ref e_scenarios, .int 0, .ref e_steps, .int 0, .ref e_examples, .int 0, .ref e_rows, .int 0, .int 0, .int 0, .ref e_owner, .ref e_table]))] ++ []) H := hH
  have hK : va_K D vwCl [] s := by simpa using hK
  subst hw_11
  refine lv_istore (lv' := [(6, .int 0), (5, .int 0), (4, .int 0), (0, .ref h0), (1, .int 1), (2, .int 0), (3, .int 0)]) hx hb dX5_takeLine_74 hl (by decide) rfl (fun ls hl => ?_)
  refine lv_iload hx hb dX5_takeLine_76 (lv_at hl 0 rfl) ?_
  refine lv_if_ne (tgt := 82) hx hb dX5_takeLine_78 (by decide) (fun h => absurd (by decide) h) (fun _ => ?_)
  exact sj_vret hx hb hr hlocks hS () trivial (sj_sub hH [0] rfl rfl) (sj_Knil hK) (Nat.le_of_ble_eq_true rfl) (Nat.le_of_ble_eq_true rfl) dX5_takeLine_81
set_option maxHeartbeats 4000000 in
set_option maxRecDepth 100000 in
theorem c_X5_addError (l : Launch) (D : va_G) (h0 : Nat) (e_source : Nat) (e_errorLines : Nat) (e_errorNumbers : Nat) (e_sections : Nat) (e_scenarios : Nat) (e_steps : Nat) (e_examples : Nat) (e_rows : Nat) (e_owner : Nat) (e_table : Nat) (kl : ClassId) (fl : Nat → Int32) (kn : ClassId) (fn : Nat → Int32) (sz : Nat)  : Met l yX5_addError wsX5_addError ({ frames := 0, cells := 0, slots := 0, locals := 0 }) (va_Pc [.ref h0, .int 2, .int 6] (sj_B D [(h0, .inr (5, [.ref e_source, .int 0, .ref e_errorLines, .ref e_errorNumbers, .int 0, .ref e_sections, .int 0, .ref e_scenarios, .int 0, .ref e_steps, .int 0, .ref e_examples, .int 0, .ref e_rows, .int 0, .int 0, .int 0, .ref e_owner, .ref e_table])), (e_errorLines, .inl (kl, 20, .inl fl)), (e_errorNumbers, .inl (kn, 20, .inl fn))] [(kl, .int), (kn, .int)] sz sj_n)) (sj_Qv (S := Unit) D (fun _ => True) (fun u => [(h0, .inr (5, [.ref e_source, .int 0, .ref e_errorLines, .ref e_errorNumbers, .int 1, .ref e_sections, .int 0, .ref e_scenarios, .int 0, .ref e_steps, .int 0, .ref e_examples, .int 0, .ref e_rows, .int 0, .int 0, .int 0, .ref e_owner, .ref e_table]))]) (fun u => []) (va_A [(h0, .inr (5, [.ref e_source, .int 0, .ref e_errorLines, .ref e_errorNumbers, .int 0, .ref e_sections, .int 0, .ref e_scenarios, .int 0, .ref e_steps, .int 0, .ref e_examples, .int 0, .ref e_rows, .int 0, .int 0, .int 0, .ref e_owner, .ref e_table])), (e_errorLines, .inl (kl, 20, .inl fl)), (e_errorNumbers, .inl (kn, 20, .inl fn))] sz)) 0 0 (va_A [(h0, .inr (5, [.ref e_source, .int 0, .ref e_errorLines, .ref e_errorNumbers, .int 0, .ref e_sections, .int 0, .ref e_scenarios, .int 0, .ref e_steps, .int 0, .ref e_examples, .int 0, .ref e_rows, .int 0, .int 0, .int 0, .ref e_owner, .ref e_table])), (e_errorLines, .inl (kl, 20, .inl fl)), (e_errorNumbers, .inl (kn, 20, .inl fn))] sz) := by
  refine sj_met (cc := cX5_addError) (maxL := 3) (ret := none) (by decide) rfl (Nat.le_of_ble_eq_true rfl) ?_
  intro p e s m below meth c A ls hx hb hr hml hts hown hlocks hnm hA hsz hS hH hK hE hl
  have hown : s.vm.findClass RX5 = some m.cls := hown
  have in5 : ∀ w ∈ wsX50, w ∈ wsX5_addError := by decide +kernel
  have wd0 := hts (.fieldLink RX5 91 "StoryDesk$Reading" "errors" "I") (by decide +kernel)
  have wd1 := hts (.fieldLink RX5 20 "StoryDesk$Reading" "errorLines" "[I") (by decide +kernel)
  have wd2 := hts (.fieldLink RX5 24 "StoryDesk$Reading" "errorNumbers" "[I") (by decide +kernel)
  have hl : lv_has ls 3 [(0, .ref h0), (1, .int 2), (2, .int 6)] := hl
  have hH : sj_H D A ([(h0, .inr (5, [.ref e_source, .int 0, .ref e_errorLines, .ref e_errorNumbers, .int 0, .ref e_sections, .int 0, .ref e_scenarios, .int 0, .ref e_steps, .int 0, .ref e_examples, .int 0, .ref e_rows, .int 0, .int 0, .int 0, .ref e_owner, .ref e_table])), (e_errorLines, .inl (kl, 20, .inl fl)), (e_errorNumbers, .inl (kn, 20, .inl fn))] ++ []) s.heap := hH
  refine lv_aload_n hx hb dX5_addError_0 rfl (lv_at hl 0 rfl) ?_
  refine va_get (D := D) (ci := 5) (v := .int 0) (C := RX5) (T := TX5) (N := 19) hx hb hts in5 hown hK hH.1 0 rfl rfl 4 (by decide) wd0 (fun _ h9 => h9) rfl dX5_addError_1 ?_
  refine lv_bipush (v := 20) hx hb dX5_addError_4 (by decide) ?_
  refine lv_icmp_ge (tgt := 39) hx hb dX5_addError_6 (by decide) (fun h => absurd h (by decide)) (fun _ => ?_)
  refine lv_aload_n hx hb dX5_addError_9 rfl (lv_at hl 0 rfl) ?_
  refine va_get (D := D) (ci := 5) (v := .ref e_errorLines) (C := RX5) (T := TX5) (N := 19) hx hb hts in5 hown hK hH.1 0 rfl rfl 2 (by decide) wd1 (fun _ h9 => h9) rfl dX5_addError_10 ?_
  refine lv_aload_n hx hb dX5_addError_13 rfl (lv_at hl 0 rfl) ?_
  refine va_get (D := D) (ci := 5) (v := .int 0) (C := RX5) (T := TX5) (N := 19) hx hb hts in5 hown hK hH.1 0 rfl rfl 4 (by decide) wd0 (fun _ h9 => h9) rfl dX5_addError_14 ?_
  refine lv_iload_n hx hb dX5_addError_17 rfl (lv_at hl 1 rfl) ?_
  refine sj_iast hx hb hK hH hS 1 0 rfl rfl (sj_vin (by decide) (by decide)) dX5_addError_18 (fun H locs hH hS => ?_)
  have hH : sj_H D A ([(h0, .inr (5, [.ref e_source, .int 0, .ref e_errorLines, .ref e_errorNumbers, .int 0, .ref e_sections, .int 0, .ref e_scenarios, .int 0, .ref e_steps, .int 0, .ref e_examples, .int 0, .ref e_rows, .int 0, .int 0, .int 0, .ref e_owner, .ref e_table])), (e_errorLines, .inl (kl, 20, .inl (upd fl 0 2))), (e_errorNumbers, .inl (kn, 20, .inl fn))] ++ []) H := hH
  refine lv_aload_n hx hb dX5_addError_19 rfl (lv_at hl 0 rfl) ?_
  refine va_get (D := D) (ci := 5) (v := .ref e_errorNumbers) (C := RX5) (T := TX5) (N := 19) hx hb hts in5 hown hK hH.1 0 rfl rfl 3 (by decide) wd2 (fun _ h9 => h9) rfl dX5_addError_20 ?_
  refine lv_aload_n hx hb dX5_addError_23 rfl (lv_at hl 0 rfl) ?_
  refine va_get (D := D) (ci := 5) (v := .int 0) (C := RX5) (T := TX5) (N := 19) hx hb hts in5 hown hK hH.1 0 rfl rfl 4 (by decide) wd0 (fun _ h9 => h9) rfl dX5_addError_24 ?_
  refine lv_iload_n hx hb dX5_addError_27 rfl (lv_at hl 2 rfl) ?_
  refine sj_iast hx hb hK hH hS 2 1 rfl rfl (sj_vin (by decide) (by decide)) dX5_addError_28 (fun H locs hH hS => ?_)
  have hH : sj_H D A ([(h0, .inr (5, [.ref e_source, .int 0, .ref e_errorLines, .ref e_errorNumbers, .int 0, .ref e_sections, .int 0, .ref e_scenarios, .int 0, .ref e_steps, .int 0, .ref e_examples, .int 0, .ref e_rows, .int 0, .int 0, .int 0, .ref e_owner, .ref e_table])), (e_errorLines, .inl (kl, 20, .inl (upd fl 0 2))), (e_errorNumbers, .inl (kn, 20, .inl (upd fn 0 6)))] ++ []) H := hH
  refine lv_aload_n hx hb dX5_addError_29 rfl (lv_at hl 0 rfl) ?_
  refine lv_dup hx hb dX5_addError_30 rfl ?_
  refine va_get (D := D) (ci := 5) (v := .int 0) (C := RX5) (T := TX5) (N := 19) hx hb hts in5 hown hK hH.1 0 rfl rfl 4 (by decide) wd0 (fun _ h9 => h9) rfl dX5_addError_31 ?_
  refine lv_iconst (v := 1) hx hb dX5_addError_34 (by decide) ?_
  refine lv_iadd hx hb dX5_addError_35 ?_
  refine sj_i (y := 1) (by decide) ?_
  refine sj_put (D := D) (ci := 5) (v := .int 1) (ty := .int) (C := RX5) (F := TX5) (N := 19) hx hb hts in5 tyX5 tyX5_ok nmX5 hown hK hH hS 0 rfl rfl 4 (by decide) wd0 (fun _ h9 => h9) rfl (by decide +kernel) rfl rfl (Nat.le_of_ble_eq_true rfl) dX5_addError_36 (fun H locs (hH : sj_H D A ([(h0, .inr (5, [.ref e_source, .int 0, .ref e_errorLines, .ref e_errorNumbers, .int 1, .ref e_sections, .int 0, .ref e_scenarios, .int 0, .ref e_steps, .int 0, .ref e_examples, .int 0, .ref e_rows, .int 0, .int 0, .int 0, .ref e_owner, .ref e_table])), (e_errorLines, .inl (kl, 20, .inl (upd fl 0 2))), (e_errorNumbers, .inl (kn, 20, .inl (upd fn 0 6)))] ++ []) H) hS => ?_)
  exact sj_vret hx hb hr hlocks hS () trivial (sj_sub hH [0] rfl rfl) (sj_Knil hK) (Nat.le_of_ble_eq_true rfl) (Nat.le_of_ble_eq_true rfl) dX5_addError_39
set_option maxHeartbeats 4000000 in
set_option maxRecDepth 100000 in
theorem c_X5_take (l : Launch) (D : va_G) (h0 : Nat) (txt : Nat) (e_source : Nat) (e_errorLines : Nat) (e_errorNumbers : Nat) (e_sections : Nat) (e_scenarios : Nat) (e_steps : Nat) (e_examples : Nat) (e_rows : Nat) (e_owner : Nat) (e_table : Nat) (sch : Nat) (kc : ClassId) (fs : Nat → Int32) (kl : ClassId) (fl : Nat → Int32) (kn : ClassId) (fn : Nat → Int32) (tch : Nat) (kt : ClassId) (ft : Nat → Int32) (sz : Nat)  : Met l yX5_take wsX5_take ({ frames := 2, cells := 0, slots := 0, locals := 60 }) (va_Pc [.ref h0, .ref txt] (sj_B D [(h0, .inr (5, [.ref e_source, .int 0, .ref e_errorLines, .ref e_errorNumbers, .int 0, .ref e_sections, .int 0, .ref e_scenarios, .int 0, .ref e_steps, .int 0, .ref e_examples, .int 0, .ref e_rows, .int 0, .int 0, .int 0, .ref e_owner, .ref e_table])), (e_source, .inr (3, [.ref sch, .int 0])), (sch, .inl (kc, 480, .inl fs)), (e_errorLines, .inl (kl, 20, .inl fl)), (e_errorNumbers, .inl (kn, 20, .inl fn)), (txt, .inr (3, [.ref tch, .int 0])), (tch, .inl (kt, 480, .inl ft))] [(kc, .char), (kl, .int), (kn, .int), (kt, .char)] sz sj_n)) (sj_Qv (S := Unit) D (fun _ => True) (fun u => [(h0, .inr (5, [.ref e_source, .int 0, .ref e_errorLines, .ref e_errorNumbers, .int 1, .ref e_sections, .int 0, .ref e_scenarios, .int 0, .ref e_steps, .int 0, .ref e_examples, .int 0, .ref e_rows, .int 0, .int 0, .int 0, .ref e_owner, .ref e_table])), (txt, .inr (3, [.ref tch, .int 0]))]) (fun u => []) (va_A [(h0, .inr (5, [.ref e_source, .int 0, .ref e_errorLines, .ref e_errorNumbers, .int 0, .ref e_sections, .int 0, .ref e_scenarios, .int 0, .ref e_steps, .int 0, .ref e_examples, .int 0, .ref e_rows, .int 0, .int 0, .int 0, .ref e_owner, .ref e_table])), (e_source, .inr (3, [.ref sch, .int 0])), (sch, .inl (kc, 480, .inl fs)), (e_errorLines, .inl (kl, 20, .inl fl)), (e_errorNumbers, .inl (kn, 20, .inl fn)), (txt, .inr (3, [.ref tch, .int 0])), (tch, .inl (kt, 480, .inl ft))] sz)) 0 0 (va_A [(h0, .inr (5, [.ref e_source, .int 0, .ref e_errorLines, .ref e_errorNumbers, .int 0, .ref e_sections, .int 0, .ref e_scenarios, .int 0, .ref e_steps, .int 0, .ref e_examples, .int 0, .ref e_rows, .int 0, .int 0, .int 0, .ref e_owner, .ref e_table])), (e_source, .inr (3, [.ref sch, .int 0])), (sch, .inl (kc, 480, .inl fs)), (e_errorLines, .inl (kl, 20, .inl fl)), (e_errorNumbers, .inl (kn, 20, .inl fn)), (txt, .inr (3, [.ref tch, .int 0])), (tch, .inl (kt, 480, .inl ft))] sz) := by
  refine sj_met (cc := cX5_take) (maxL := 5) (ret := none) (by decide) rfl (Nat.le_of_ble_eq_true rfl) ?_
  intro p e s m below meth c A ls hx hb hr hml hts hown hlocks hnm hA hsz hS hH hK hE hl
  have hown : s.vm.findClass RX5 = some m.cls := hown
  have in3 : ∀ w ∈ wsX30, w ∈ wsX5_take := by decide +kernel
  have in5 : ∀ w ∈ wsX50, w ∈ wsX5_take := by decide +kernel
  have wd0 := hts (.fieldLink RX5 60 "StoryDesk$Letters" "chars" "[C") (by decide +kernel)
  have wd1 := hts (.fieldLink RX5 16 "StoryDesk$Reading" "source" "LStoryDesk$Letters;") (by decide +kernel)
  have wd2 := hts (.fieldLink RX5 64 "StoryDesk$Letters" "length" "I") (by decide +kernel)
  have wd3 := hts (.methodLink RX5 68 arraycopyName) (by decide +kernel)
  have wd4 := hts (.native arraycopyName) (by decide +kernel)
  have wd5 := hts (.static arraycopyName) (by decide +kernel)
  have wd6 := hts (.initialized "java/lang/System") (by decide +kernel)
  have wd7 := hts (.fieldLink RX5 78 "StoryDesk$Reading" "state" "I") (by decide +kernel)
  have wd8 := hts (.fieldLink RX5 85 "StoryDesk$Reading" "waitingTags" "I") (by decide +kernel)
  have hl : lv_has ls 5 [(0, .ref h0), (1, .ref txt)] := hl
  have hH : sj_H D A ([(h0, .inr (5, [.ref e_source, .int 0, .ref e_errorLines, .ref e_errorNumbers, .int 0, .ref e_sections, .int 0, .ref e_scenarios, .int 0, .ref e_steps, .int 0, .ref e_examples, .int 0, .ref e_rows, .int 0, .int 0, .int 0, .ref e_owner, .ref e_table])), (e_source, .inr (3, [.ref sch, .int 0])), (sch, .inl (kc, 480, .inl fs)), (e_errorLines, .inl (kl, 20, .inl fl)), (e_errorNumbers, .inl (kn, 20, .inl fn)), (txt, .inr (3, [.ref tch, .int 0])), (tch, .inl (kt, 480, .inl ft))] ++ []) s.heap := hH
  refine lv_aload_n hx hb dX5_take_0 rfl (lv_at hl 0 rfl) ?_
  refine sj_callv (wr := [(e_source, .inr (3, [.ref sch, .int 0])), (sch, .inl (kc, 480, .inl fs)), (e_errorLines, .inl (kl, 20, .inl fl)), (e_errorNumbers, .inl (kn, 20, .inl fn)), (txt, .inr (3, [.ref tch, .int 0])), (tch, .inl (kt, 480, .inl ft))]) (va_runV (As := []) (rest := []) ⟨hx, hb, hml, hown, hts⟩ (c_X5_forgetAll l D h0 e_source e_errorLines e_errorNumbers e_sections e_scenarios e_steps e_examples e_rows e_owner e_table s.heap.size) (cwV 0 hts gX5_take_X5_forgetAll rfl rfl rfl (by decide +kernel) ⟨(Nat.le_of_ble_eq_true rfl), (Nat.le_of_ble_eq_true rfl)⟩) (sj_preV (q := (RX5, TX5, 19)) hH hK [0] rfl rfl [] rfl rfl rfl sj_bln sj_exn) rfl rfl hl.1 rfl (lv_room (Nat.le_of_ble_eq_true rfl)) dX5_take_1 ⟨(Nat.le_of_ble_eq_true rfl), (Nat.le_of_ble_eq_true rfl)⟩) hH hK hS hA [0] [1, 2, 3, 4, 5, 6] rfl rfl rfl rfl (by decide) rfl rfl (fun u_2 H locs hw_3 hH hK hS => ?_)
  have hH : sj_H D A ([(e_source, .inr (3, [.ref sch, .int 0])), (sch, .inl (kc, 480, .inl fs)), (e_errorLines, .inl (kl, 20, .inl fl)), (e_errorNumbers, .inl (kn, 20, .inl fn)), (txt, .inr (3, [.ref tch, .int 0])), (tch, .inl (kt, 480, .inl ft)), (h0, .inr (5, [.ref e_source, .int 0, .ref e_errorLines, .ref e_errorNumbers, .int 0, .ref e_sections, .int 0, .ref e_scenarios, .int 0, .ref e_steps, .int 0, .ref e_examples, .int 0, .ref e_rows, .int 0, .int 0, .int 0, .ref e_owner, .ref e_table]))] ++ []) H := hH
  have hK : va_K D vwCl [(kc, .char), (kl, .int), (kn, .int), (kt, .char)] s := by simpa using hK
  refine lv_aload_n hx hb dX5_take_4 rfl (lv_at hl 1 rfl) ?_
  refine va_get (D := D) (ci := 3) (v := .ref tch) (C := RX3) (T := TX3) (N := 2) hx hb hts in3 hown hK hH.1 4 rfl rfl 0 (by decide) wd0 (fun _ h9 => h9) rfl dX5_take_5 ?_
  refine lv_iconst (v := 0) hx hb dX5_take_8 (by decide) ?_
  refine lv_aload_n hx hb dX5_take_9 rfl (lv_at hl 0 rfl) ?_
  refine va_get (D := D) (ci := 5) (v := .ref e_source) (C := RX5) (T := TX5) (N := 19) hx hb hts in5 hown hK hH.1 6 rfl rfl 0 (by decide) wd1 (fun _ h9 => h9) rfl dX5_take_10 ?_
  refine va_get (D := D) (ci := 3) (v := .ref sch) (C := RX3) (T := TX3) (N := 2) hx hb hts in3 hown hK hH.1 0 rfl rfl 0 (by decide) wd0 (fun _ h9 => h9) rfl dX5_take_13 ?_
  refine lv_iconst (v := 0) hx hb dX5_take_16 (by decide) ?_
  refine lv_aload_n hx hb dX5_take_17 rfl (lv_at hl 1 rfl) ?_
  refine va_get (D := D) (ci := 3) (v := .int 0) (C := RX3) (T := TX3) (N := 2) hx hb hts in3 hown hK hH.1 4 rfl rfl 1 (by decide) wd2 (fun _ h9 => h9) rfl dX5_take_18 ?_
  refine va_copyi hx hb (hml.trans hl.1.symm) hown wd3 wd4 wd5 wd6 hK hH.1 hH.2 hS 5 1 3 0 rfl rfl rfl rfl rfl (by decide) (by decide) (by decide) (by decide) (by decide) (fun i h => absurd h (Nat.not_lt_zero i)) (Nat.le_of_ble_eq_true rfl) (Nat.le_of_ble_eq_true rfl) dX5_take_21 (fun H locs hP hD hS => ?_)
  have hH : sj_H D A ([(e_source, .inr (3, [.ref sch, .int 0])), (sch, .inl (kc, 480, .inl (va_cpy ft fs (Int32.toNatClampNeg 0) (Int32.toNatClampNeg 0) (Int32.toNatClampNeg 0)))), (e_errorLines, .inl (kl, 20, .inl fl)), (e_errorNumbers, .inl (kn, 20, .inl fn)), (txt, .inr (3, [.ref tch, .int 0])), (tch, .inl (kt, 480, .inl ft)), (h0, .inr (5, [.ref e_source, .int 0, .ref e_errorLines, .ref e_errorNumbers, .int 0, .ref e_sections, .int 0, .ref e_scenarios, .int 0, .ref e_steps, .int 0, .ref e_examples, .int 0, .ref e_rows, .int 0, .int 0, .int 0, .ref e_owner, .ref e_table]))] ++ []) H := ⟨hP, hD⟩
  refine lv_aload_n hx hb dX5_take_24 rfl (lv_at hl 0 rfl) ?_
  refine va_get (D := D) (ci := 5) (v := .ref e_source) (C := RX5) (T := TX5) (N := 19) hx hb hts in5 hown hK hH.1 6 rfl rfl 0 (by decide) wd1 (fun _ h9 => h9) rfl dX5_take_25 ?_
  refine lv_aload_n hx hb dX5_take_28 rfl (lv_at hl 1 rfl) ?_
  refine va_get (D := D) (ci := 3) (v := .int 0) (C := RX3) (T := TX3) (N := 2) hx hb hts in3 hown hK hH.1 4 rfl rfl 1 (by decide) wd2 (fun _ h9 => h9) rfl dX5_take_29 ?_
  refine sj_put (D := D) (ci := 3) (v := .int 0) (ty := .int) (C := RX3) (F := TX3) (N := 2) hx hb hts in3 tyX3 tyX3_ok nmX3 hown hK hH hS 0 rfl rfl 1 (by decide) wd2 (fun _ h9 => h9) rfl (by decide +kernel) rfl rfl (Nat.le_of_ble_eq_true rfl) dX5_take_32 (fun H locs (hH : sj_H D A ([(e_source, .inr (3, [.ref sch, .int 0])), (sch, .inl (kc, 480, .inl (va_cpy ft fs (Int32.toNatClampNeg 0) (Int32.toNatClampNeg 0) (Int32.toNatClampNeg 0)))), (e_errorLines, .inl (kl, 20, .inl fl)), (e_errorNumbers, .inl (kn, 20, .inl fn)), (txt, .inr (3, [.ref tch, .int 0])), (tch, .inl (kt, 480, .inl ft)), (h0, .inr (5, [.ref e_source, .int 0, .ref e_errorLines, .ref e_errorNumbers, .int 0, .ref e_sections, .int 0, .ref e_scenarios, .int 0, .ref e_steps, .int 0, .ref e_examples, .int 0, .ref e_rows, .int 0, .int 0, .int 0, .ref e_owner, .ref e_table]))] ++ []) H) hS => ?_)
  refine lv_iconst (v := 1) hx hb dX5_take_35 (by decide) ?_
  refine lv_istore_n (lv' := [(2, .int 1), (0, .ref h0), (1, .ref txt)]) hx hb dX5_take_36 rfl hl (by decide) rfl (fun ls hl => ?_)
  refine lv_iconst (v := 0) hx hb dX5_take_37 (by decide) ?_
  refine lv_istore_n (lv' := [(3, .int 0), (2, .int 1), (0, .ref h0), (1, .ref txt)]) hx hb dX5_take_38 rfl hl (by decide) rfl (fun ls hl => ?_)
  refine lv_iconst (v := 0) hx hb dX5_take_39 (by decide) ?_
  refine lv_istore (lv' := [(4, .int 0), (3, .int 0), (2, .int 1), (0, .ref h0), (1, .ref txt)]) hx hb dX5_take_40 hl (by decide) rfl (fun ls hl => ?_)
  refine lv_iload hx hb dX5_take_42 (lv_at hl 0 rfl) ?_
  refine lv_aload_n hx hb dX5_take_44 rfl (lv_at hl 3 rfl) ?_
  refine va_get (D := D) (ci := 5) (v := .ref e_source) (C := RX5) (T := TX5) (N := 19) hx hb hts in5 hown hK hH.1 6 rfl rfl 0 (by decide) wd1 (fun _ h9 => h9) rfl dX5_take_45 ?_
  refine va_get (D := D) (ci := 3) (v := .int 0) (C := RX3) (T := TX3) (N := 2) hx hb hts in3 hown hK hH.1 0 rfl rfl 1 (by decide) wd2 (fun _ h9 => h9) rfl dX5_take_48 ?_
  refine lv_icmp_gt (tgt := 103) hx hb dX5_take_51 (by decide) (fun h => absurd h (by decide)) (fun _ => ?_)
  refine lv_iload hx hb dX5_take_54 (lv_at hl 0 rfl) ?_
  refine lv_aload_n hx hb dX5_take_56 rfl (lv_at hl 3 rfl) ?_
  refine va_get (D := D) (ci := 5) (v := .ref e_source) (C := RX5) (T := TX5) (N := 19) hx hb hts in5 hown hK hH.1 6 rfl rfl 0 (by decide) wd1 (fun _ h9 => h9) rfl dX5_take_57 ?_
  refine va_get (D := D) (ci := 3) (v := .int 0) (C := RX3) (T := TX3) (N := 2) hx hb hts in3 hown hK hH.1 0 rfl rfl 1 (by decide) wd2 (fun _ h9 => h9) rfl dX5_take_60 ?_
  refine lv_icmp_eq (tgt := 81) hx hb dX5_take_63 (by decide) (fun _ => ?_) (fun h => absurd (by decide) h)
  refine lv_aload_n hx hb dX5_take_81 rfl (lv_at hl 3 rfl) ?_
  refine lv_iload_n hx hb dX5_take_82 rfl (lv_at hl 2 rfl) ?_
  refine lv_iload_n hx hb dX5_take_83 rfl (lv_at hl 1 rfl) ?_
  refine lv_iload hx hb dX5_take_84 (lv_at hl 0 rfl) ?_
  refine sj_callv (wr := [(e_source, .inr (3, [.ref sch, .int 0])), (sch, .inl (kc, 480, .inl (va_cpy ft fs (Int32.toNatClampNeg 0) (Int32.toNatClampNeg 0) (Int32.toNatClampNeg 0)))), (e_errorLines, .inl (kl, 20, .inl fl)), (e_errorNumbers, .inl (kn, 20, .inl fn)), (txt, .inr (3, [.ref tch, .int 0])), (tch, .inl (kt, 480, .inl ft))]) (va_runV (As := [.int 1, .int 0, .int 0]) (rest := []) ⟨hx, hb, hml, hown, hts⟩ (c_X5_takeLine l D h0 e_source e_errorLines e_errorNumbers e_sections e_scenarios e_steps e_examples e_rows e_owner e_table H.size) (cwV 3 hts gX5_take_X5_takeLine rfl rfl rfl (by decide +kernel) ⟨(Nat.le_of_ble_eq_true rfl), (Nat.le_of_ble_eq_true rfl)⟩) (sj_preV (q := (RX5, TX5, 19)) hH hK [6] rfl rfl [] rfl rfl rfl sj_bln sj_exn) rfl rfl hl.1 rfl (lv_room (Nat.le_of_ble_eq_true rfl)) dX5_take_86 ⟨(Nat.le_of_ble_eq_true rfl), (Nat.le_of_ble_eq_true rfl)⟩) hH hK hS hA [6] [0, 1, 2, 3, 4, 5] rfl rfl rfl rfl (by decide) rfl rfl (fun u_8 H locs hw_9 hH hK hS => ?_)
  have hH : sj_H D A ([(e_source, .inr (3, [.ref sch, .int 0])), (sch, .inl (kc, 480, .inl (va_cpy ft fs (Int32.toNatClampNeg 0) (Int32.toNatClampNeg 0) (Int32.toNatClampNeg 0)))), (e_errorLines, .inl (kl, 20, .inl fl)), (e_errorNumbers, .inl (kn, 20, .inl fn)), (txt, .inr (3, [.ref tch, .int 0])), (tch, .inl (kt, 480, .inl ft)), (h0, .inr (5, [.ref e_source, .int 0, .ref e_errorLines, .ref e_errorNumbers, .int 0, .ref e_sections, .int 0, .ref e_scenarios, .int 0, .ref e_steps, .int 0, .ref e_examples, .int 0, .ref e_rows, .int 0, .int 0, .int 0, .ref e_owner, .ref e_table]))] ++ []) H := hH
  have hK : va_K D vwCl [(kc, .char), (kl, .int), (kn, .int), (kt, .char)] s := by simpa using hK
  refine lv_iinc (v := 2) (lv' := [(2, .int 2), (4, .int 0), (3, .int 0), (0, .ref h0), (1, .ref txt)]) hx hb dX5_take_89 hl (k := 2) rfl (by decide) (by decide) rfl (fun ls hl => ?_)
  refine lv_iload hx hb dX5_take_92 (lv_at hl 1 rfl) ?_
  refine lv_iconst (v := 1) hx hb dX5_take_94 (by decide) ?_
  refine lv_iadd hx hb dX5_take_95 ?_
  refine sj_i (y := 1) (by decide) ?_
  refine lv_istore_n (lv' := [(3, .int 1), (2, .int 2), (4, .int 0), (0, .ref h0), (1, .ref txt)]) hx hb dX5_take_96 rfl hl (by decide) rfl (fun ls hl => ?_)
  refine lv_iinc (v := 1) (lv' := [(4, .int 1), (3, .int 1), (2, .int 2), (0, .ref h0), (1, .ref txt)]) hx hb dX5_take_97 hl (k := 2) rfl (by decide) (by decide) rfl (fun ls hl => ?_)
  refine lv_goto (tgt := 42) hx hb dX5_take_100 (by decide) ?_
  refine lv_iload hx hb dX5_take_42 (lv_at hl 0 rfl) ?_
  refine lv_aload_n hx hb dX5_take_44 rfl (lv_at hl 3 rfl) ?_
  refine va_get (D := D) (ci := 5) (v := .ref e_source) (C := RX5) (T := TX5) (N := 19) hx hb hts in5 hown hK hH.1 6 rfl rfl 0 (by decide) wd1 (fun _ h9 => h9) rfl dX5_take_45 ?_
  refine va_get (D := D) (ci := 3) (v := .int 0) (C := RX3) (T := TX3) (N := 2) hx hb hts in3 hown hK hH.1 0 rfl rfl 1 (by decide) wd2 (fun _ h9 => h9) rfl dX5_take_48 ?_
  refine lv_icmp_gt (tgt := 103) hx hb dX5_take_51 (by decide) (fun _ => ?_) (fun h => absurd (by decide) h)
  refine lv_aload_n hx hb dX5_take_103 rfl (lv_at hl 3 rfl) ?_
  refine va_get (D := D) (ci := 5) (v := .int 0) (C := RX5) (T := TX5) (N := 19) hx hb hts in5 hown hK hH.1 6 rfl rfl 15 (by decide) wd7 (fun _ h9 => h9) rfl dX5_take_104 ?_
  refine lv_if_ne (tgt := 117) hx hb dX5_take_107 (by decide) (fun h => absurd (by decide) h) (fun _ => ?_)
  refine lv_aload_n hx hb dX5_take_110 rfl (lv_at hl 3 rfl) ?_
  refine lv_iload_n hx hb dX5_take_111 rfl (lv_at hl 2 rfl) ?_
  refine lv_bipush (v := 6) hx hb dX5_take_112 (by decide) ?_
  refine sj_callv (wr := [(e_source, .inr (3, [.ref sch, .int 0])), (sch, .inl (kc, 480, .inl (va_cpy ft fs (Int32.toNatClampNeg 0) (Int32.toNatClampNeg 0) (Int32.toNatClampNeg 0)))), (txt, .inr (3, [.ref tch, .int 0])), (tch, .inl (kt, 480, .inl ft))]) (va_runV (As := [.int 2, .int 6]) (rest := []) ⟨hx, hb, hml, hown, hts⟩ (c_X5_addError l D h0 e_source e_errorLines e_errorNumbers e_sections e_scenarios e_steps e_examples e_rows e_owner e_table kl fl kn fn H.size) (cwV 2 hts gX5_take_X5_addError rfl rfl rfl (by decide +kernel) ⟨(Nat.le_of_ble_eq_true rfl), (Nat.le_of_ble_eq_true rfl)⟩) (sj_preV (q := (RX5, TX5, 19)) hH hK [6, 2, 3] rfl rfl [1, 2] rfl rfl rfl sj_bln sj_exn) rfl rfl hl.1 rfl (lv_room (Nat.le_of_ble_eq_true rfl)) dX5_take_114 ⟨(Nat.le_of_ble_eq_true rfl), (Nat.le_of_ble_eq_true rfl)⟩) hH hK hS hA [6, 2, 3] [0, 1, 4, 5] rfl rfl rfl rfl (by decide) rfl rfl (fun u_13 H locs hw_14 hH hK hS => ?_)
  have hH : sj_H D A ([(e_source, .inr (3, [.ref sch, .int 0])), (sch, .inl (kc, 480, .inl (va_cpy ft fs (Int32.toNatClampNeg 0) (Int32.toNatClampNeg 0) (Int32.toNatClampNeg 0)))), (txt, .inr (3, [.ref tch, .int 0])), (tch, .inl (kt, 480, .inl ft)), (h0, .inr (5, [.ref e_source, .int 0, .ref e_errorLines, .ref e_errorNumbers, .int 1, .ref e_sections, .int 0, .ref e_scenarios, .int 0, .ref e_steps, .int 0, .ref e_examples, .int 0, .ref e_rows, .int 0, .int 0, .int 0, .ref e_owner, .ref e_table]))] ++ []) H := hH
  have hK : va_K D vwCl [(kc, .char), (kl, .int), (kn, .int), (kt, .char)] s := by simpa using hK
  refine lv_aload_n hx hb dX5_take_117 rfl (lv_at hl 3 rfl) ?_
  refine va_get (D := D) (ci := 5) (v := .int 0) (C := RX5) (T := TX5) (N := 19) hx hb hts in5 hown hK hH.1 4 rfl rfl 16 (by decide) wd8 (fun _ h9 => h9) rfl dX5_take_118 ?_
  refine lv_if_eq (tgt := 131) hx hb dX5_take_121 (by decide) (fun _ => ?_) (fun h => absurd (by decide) h)
  exact sj_vret hx hb hr hlocks hS () trivial (sj_sub hH [4, 2] rfl rfl) (sj_Knil hK) (Nat.le_of_ble_eq_true rfl) (Nat.le_of_ble_eq_true rfl) dX5_take_131
set_option maxHeartbeats 4000000 in
set_option maxRecDepth 100000 in
theorem c_X1_build (l : Launch) (D : va_G) (h0 : Nat) (d_reading : Nat) (c_stepText : Nat) (c_cellText : Nat) (c_all : Nat) (e_source : Nat) (e_errorLines : Nat) (e_errorNumbers : Nat) (e_sections : Nat) (e_scenarios : Nat) (e_steps : Nat) (e_examples : Nat) (e_rows : Nat) (e_owner : Nat) (e_table : Nat) (sz : Nat)  : Met l yX1_build wsX1_build ({ frames := 0, cells := 0, slots := 0, locals := 0 }) (va_Pc [.ref h0] (sj_B D [(h0, .inr (1, [.ref d_reading, .ref c_stepText, .ref c_cellText, .ref c_all, .int 0])), (d_reading, .inr (5, [.ref e_source, .int 0, .ref e_errorLines, .ref e_errorNumbers, .int 1, .ref e_sections, .int 0, .ref e_scenarios, .int 0, .ref e_steps, .int 0, .ref e_examples, .int 0, .ref e_rows, .int 0, .int 0, .int 0, .ref e_owner, .ref e_table]))] [] sz sj_n)) (sj_Qv (S := Unit) D (fun _ => True) (fun u => [(d_reading, .inr (5, [.ref e_source, .int 0, .ref e_errorLines, .ref e_errorNumbers, .int 1, .ref e_sections, .int 0, .ref e_scenarios, .int 0, .ref e_steps, .int 0, .ref e_examples, .int 0, .ref e_rows, .int 0, .int 0, .int 0, .ref e_owner, .ref e_table]))]) (fun u => []) (va_A [(h0, .inr (1, [.ref d_reading, .ref c_stepText, .ref c_cellText, .ref c_all, .int 0])), (d_reading, .inr (5, [.ref e_source, .int 0, .ref e_errorLines, .ref e_errorNumbers, .int 1, .ref e_sections, .int 0, .ref e_scenarios, .int 0, .ref e_steps, .int 0, .ref e_examples, .int 0, .ref e_rows, .int 0, .int 0, .int 0, .ref e_owner, .ref e_table]))] sz)) 0 0 (va_A [(h0, .inr (1, [.ref d_reading, .ref c_stepText, .ref c_cellText, .ref c_all, .int 0])), (d_reading, .inr (5, [.ref e_source, .int 0, .ref e_errorLines, .ref e_errorNumbers, .int 1, .ref e_sections, .int 0, .ref e_scenarios, .int 0, .ref e_steps, .int 0, .ref e_examples, .int 0, .ref e_rows, .int 0, .int 0, .int 0, .ref e_owner, .ref e_table]))] sz) := by
  refine sj_met (cc := cX1_build) (maxL := 4) (ret := none) (by decide) rfl (Nat.le_of_ble_eq_true rfl) ?_
  intro p e s m below meth c A ls hx hb hr hml hts hown hlocks hnm hA hsz hS hH hK hE hl
  have hown : s.vm.findClass RX1 = some m.cls := hown
  have in1 : ∀ w ∈ wsX10, w ∈ wsX1_build := by decide +kernel
  have in5 : ∀ w ∈ wsX50, w ∈ wsX1_build := by decide +kernel
  have wd0 := hts (.fieldLink RX1 34 "StoryDesk$Cases" "count" "I") (by decide +kernel)
  have wd1 := hts (.fieldLink RX1 9 "StoryDesk$Cases" "reading" "LStoryDesk$Reading;") (by decide +kernel)
  have wd2 := hts (.fieldLink RX1 38 "StoryDesk$Reading" "errors" "I") (by decide +kernel)
  have hl : lv_has ls 4 [(0, .ref h0)] := hl
  have hH : sj_H D A ([(h0, .inr (1, [.ref d_reading, .ref c_stepText, .ref c_cellText, .ref c_all, .int 0])), (d_reading, .inr (5, [.ref e_source, .int 0, .ref e_errorLines, .ref e_errorNumbers, .int 1, .ref e_sections, .int 0, .ref e_scenarios, .int 0, .ref e_steps, .int 0, .ref e_examples, .int 0, .ref e_rows, .int 0, .int 0, .int 0, .ref e_owner, .ref e_table]))] ++ []) s.heap := hH
  refine lv_aload_n hx hb dX1_build_0 rfl (lv_at hl 0 rfl) ?_
  refine lv_iconst (v := 0) hx hb dX1_build_1 (by decide) ?_
  refine sj_put (D := D) (ci := 1) (v := .int 0) (ty := .int) (C := RX1) (F := TX1) (N := 5) hx hb hts in1 tyX1 tyX1_ok nmX1 hown hK hH hS 0 rfl rfl 4 (by decide) wd0 (fun _ h9 => h9) rfl (by decide +kernel) rfl rfl (Nat.le_of_ble_eq_true rfl) dX1_build_2 (fun H locs (hH : sj_H D A ([(h0, .inr (1, [.ref d_reading, .ref c_stepText, .ref c_cellText, .ref c_all, .int 0])), (d_reading, .inr (5, [.ref e_source, .int 0, .ref e_errorLines, .ref e_errorNumbers, .int 1, .ref e_sections, .int 0, .ref e_scenarios, .int 0, .ref e_steps, .int 0, .ref e_examples, .int 0, .ref e_rows, .int 0, .int 0, .int 0, .ref e_owner, .ref e_table]))] ++ []) H) hS => ?_)
  refine lv_aload_n hx hb dX1_build_5 rfl (lv_at hl 0 rfl) ?_
  refine va_get (D := D) (ci := 1) (v := .ref d_reading) (C := RX1) (T := TX1) (N := 5) hx hb hts in1 hown hK hH.1 0 rfl rfl 0 (by decide) wd1 (fun _ h9 => h9) rfl dX1_build_6 ?_
  refine va_get (D := D) (ci := 5) (v := .int 1) (C := RX5) (T := TX5) (N := 19) hx hb hts in5 hown hK hH.1 1 rfl rfl 4 (by decide) wd2 (fun _ h9 => h9) rfl dX1_build_9 ?_
  refine lv_if_le (tgt := 16) hx hb dX1_build_12 (by decide) (fun h => absurd h (by decide)) (fun _ => ?_)
  exact sj_vret hx hb hr hlocks hS () trivial (sj_sub hH [1] rfl rfl) (sj_Knil hK) (Nat.le_of_ble_eq_true rfl) (Nat.le_of_ble_eq_true rfl) dX1_build_15
set_option maxHeartbeats 4000000 in
set_option maxRecDepth 100000 in
/-- read without a text: one error -/
theorem c_X11_read (l : Launch) (hl0 : l.stackTraces = false) (D : va_G) (h0 : Nat) (d_text : Nat) (d_reading : Nat) (d_cases : Nat) (d_scripts : Nat) (d_run : Nat) (d_definitions : Nat) (d_definitionScripts : Nat) (d_hookTags : Nat) (d_hookBefore : Nat) (d_hookScripts : Nat) (d_filterInUse : Nat) (d_filterToTry : Nat) (r_workers : Nat) (r_queue : Nat) (r_events : Nat) (e_source : Nat) (e_errorLines : Nat) (e_errorNumbers : Nat) (e_sections : Nat) (e_scenarios : Nat) (e_steps : Nat) (e_examples : Nat) (e_rows : Nat) (e_owner : Nat) (e_table : Nat) (sch : Nat) (kc : ClassId) (fs : Nat → Int32) (kl : ClassId) (fl : Nat → Int32) (kn : ClassId) (fn : Nat → Int32) (tch : Nat) (kt : ClassId) (ft : Nat → Int32) (c_stepText : Nat) (c_cellText : Nat) (c_all : Nat) (sz : Nat)  : vx_Met l yX11_read wsX11_read ({ frames := 3, cells := 0, slots := 0, locals := 84 }) (va_Pc [.ref h0] (sj_B D [(h0, .inr (11, [.ref d_text, .ref d_reading, .ref d_cases, .ref d_scripts, .ref d_run, .ref d_definitions, .ref d_definitionScripts, .int 0, .ref d_hookTags, .ref d_hookBefore, .ref d_hookScripts, .int 0, .ref d_filterInUse, .ref d_filterToTry])), (d_run, .inr (7, [.ref r_workers, .int 0, .int 0, .ref r_queue, .int 0, .int 0, .int 0, .int 0, .int 0, .ref r_events, .int 0])), (d_reading, .inr (5, [.ref e_source, .int 0, .ref e_errorLines, .ref e_errorNumbers, .int 0, .ref e_sections, .int 0, .ref e_scenarios, .int 0, .ref e_steps, .int 0, .ref e_examples, .int 0, .ref e_rows, .int 0, .int 0, .int 0, .ref e_owner, .ref e_table])), (e_source, .inr (3, [.ref sch, .int 0])), (sch, .inl (kc, 480, .inl fs)), (e_errorLines, .inl (kl, 20, .inl fl)), (e_errorNumbers, .inl (kn, 20, .inl fn)), (d_text, .inr (3, [.ref tch, .int 0])), (tch, .inl (kt, 480, .inl ft)), (d_cases, .inr (1, [.ref d_reading, .ref c_stepText, .ref c_cellText, .ref c_all, .int 0]))] [(kc, .char), (kl, .int), (kn, .int), (kt, .char)] sz (sj_xt "java/lang/IllegalStateException" (va_A [(h0, .inr (11, [.ref d_text, .ref d_reading, .ref d_cases, .ref d_scripts, .ref d_run, .ref d_definitions, .ref d_definitionScripts, .int 0, .ref d_hookTags, .ref d_hookBefore, .ref d_hookScripts, .int 0, .ref d_filterInUse, .ref d_filterToTry])), (d_run, .inr (7, [.ref r_workers, .int 0, .int 0, .ref r_queue, .int 0, .int 0, .int 0, .int 0, .int 0, .ref r_events, .int 0])), (d_reading, .inr (5, [.ref e_source, .int 0, .ref e_errorLines, .ref e_errorNumbers, .int 0, .ref e_sections, .int 0, .ref e_scenarios, .int 0, .ref e_steps, .int 0, .ref e_examples, .int 0, .ref e_rows, .int 0, .int 0, .int 0, .ref e_owner, .ref e_table])), (e_source, .inr (3, [.ref sch, .int 0])), (sch, .inl (kc, 480, .inl fs)), (e_errorLines, .inl (kl, 20, .inl fl)), (e_errorNumbers, .inl (kn, 20, .inl fn)), (d_text, .inr (3, [.ref tch, .int 0])), (tch, .inl (kt, 480, .inl ft)), (d_cases, .inr (1, [.ref d_reading, .ref c_stepText, .ref c_cellText, .ref c_all, .int 0]))] sz)))) (sj_Qi (S := Unit) D (fun r _ => r = 1) (fun u => []) (fun u => []) (va_A [(h0, .inr (11, [.ref d_text, .ref d_reading, .ref d_cases, .ref d_scripts, .ref d_run, .ref d_definitions, .ref d_definitionScripts, .int 0, .ref d_hookTags, .ref d_hookBefore, .ref d_hookScripts, .int 0, .ref d_filterInUse, .ref d_filterToTry])), (d_run, .inr (7, [.ref r_workers, .int 0, .int 0, .ref r_queue, .int 0, .int 0, .int 0, .int 0, .int 0, .ref r_events, .int 0])), (d_reading, .inr (5, [.ref e_source, .int 0, .ref e_errorLines, .ref e_errorNumbers, .int 0, .ref e_sections, .int 0, .ref e_scenarios, .int 0, .ref e_steps, .int 0, .ref e_examples, .int 0, .ref e_rows, .int 0, .int 0, .int 0, .ref e_owner, .ref e_table])), (e_source, .inr (3, [.ref sch, .int 0])), (sch, .inl (kc, 480, .inl fs)), (e_errorLines, .inl (kl, 20, .inl fl)), (e_errorNumbers, .inl (kn, 20, .inl fn)), (d_text, .inr (3, [.ref tch, .int 0])), (tch, .inl (kt, 480, .inl ft)), (d_cases, .inr (1, [.ref d_reading, .ref c_stepText, .ref c_cellText, .ref c_all, .int 0]))] sz)) (sj_XC "java/lang/IllegalStateException" (False) (va_A [(h0, .inr (11, [.ref d_text, .ref d_reading, .ref d_cases, .ref d_scripts, .ref d_run, .ref d_definitions, .ref d_definitionScripts, .int 0, .ref d_hookTags, .ref d_hookBefore, .ref d_hookScripts, .int 0, .ref d_filterInUse, .ref d_filterToTry])), (d_run, .inr (7, [.ref r_workers, .int 0, .int 0, .ref r_queue, .int 0, .int 0, .int 0, .int 0, .int 0, .ref r_events, .int 0])), (d_reading, .inr (5, [.ref e_source, .int 0, .ref e_errorLines, .ref e_errorNumbers, .int 0, .ref e_sections, .int 0, .ref e_scenarios, .int 0, .ref e_steps, .int 0, .ref e_examples, .int 0, .ref e_rows, .int 0, .int 0, .int 0, .ref e_owner, .ref e_table])), (e_source, .inr (3, [.ref sch, .int 0])), (sch, .inl (kc, 480, .inl fs)), (e_errorLines, .inl (kl, 20, .inl fl)), (e_errorNumbers, .inl (kn, 20, .inl fn)), (d_text, .inr (3, [.ref tch, .int 0])), (tch, .inl (kt, 480, .inl ft)), (d_cases, .inr (1, [.ref d_reading, .ref c_stepText, .ref c_cellText, .ref c_all, .int 0]))] sz)) 0 0 (va_A [(h0, .inr (11, [.ref d_text, .ref d_reading, .ref d_cases, .ref d_scripts, .ref d_run, .ref d_definitions, .ref d_definitionScripts, .int 0, .ref d_hookTags, .ref d_hookBefore, .ref d_hookScripts, .int 0, .ref d_filterInUse, .ref d_filterToTry])), (d_run, .inr (7, [.ref r_workers, .int 0, .int 0, .ref r_queue, .int 0, .int 0, .int 0, .int 0, .int 0, .ref r_events, .int 0])), (d_reading, .inr (5, [.ref e_source, .int 0, .ref e_errorLines, .ref e_errorNumbers, .int 0, .ref e_sections, .int 0, .ref e_scenarios, .int 0, .ref e_steps, .int 0, .ref e_examples, .int 0, .ref e_rows, .int 0, .int 0, .int 0, .ref e_owner, .ref e_table])), (e_source, .inr (3, [.ref sch, .int 0])), (sch, .inl (kc, 480, .inl fs)), (e_errorLines, .inl (kl, 20, .inl fl)), (e_errorNumbers, .inl (kn, 20, .inl fn)), (d_text, .inr (3, [.ref tch, .int 0])), (tch, .inl (kt, 480, .inl ft)), (d_cases, .inr (1, [.ref d_reading, .ref c_stepText, .ref c_cellText, .ref c_all, .int 0]))] sz) := by
  refine sj_vmet (Ex := fun A => sj_xt "java/lang/IllegalStateException" A) (XC := fun A => sj_XC "java/lang/IllegalStateException" (False) A) (cc := cX11_read) (maxL := 1) (ret := (some .int)) (by decide) rfl (Nat.le_of_ble_eq_true rfl) ?_
  intro p e s m below meth c A ls hx hb hr hml hts hown hlocks hnt hA hsz hS hH hK hE hl
  have hown : s.vm.findClass RX11 = some m.cls := hown
  have in3 : ∀ w ∈ wsX30, w ∈ wsX11_read := by decide +kernel
  have in5 : ∀ w ∈ wsX50, w ∈ wsX11_read := by decide +kernel
  have in7 : ∀ w ∈ wsX70, w ∈ wsX11_read := by decide +kernel
  have in11 : ∀ w ∈ wsX110, w ∈ wsX11_read := by decide +kernel
  have wd0 := hts (.fieldLink RX11 44 "StoryDesk" "run" "LStoryDesk$Run;") (by decide +kernel)
  have wd1 := hts (.fieldLink RX11 88 "StoryDesk$Run" "underWay" "Z") (by decide +kernel)
  have wd2 := hts (.fieldLink RX11 21 "StoryDesk" "reading" "LStoryDesk$Reading;") (by decide +kernel)
  have wd3 := hts (.fieldLink RX11 14 "StoryDesk" "text" "LStoryDesk$Letters;") (by decide +kernel)
  have wd4 := hts (.fieldLink RX11 80 "StoryDesk$Letters" "length" "I") (by decide +kernel)
  have wd5 := hts (.fieldLink RX11 30 "StoryDesk" "cases" "LStoryDesk$Cases;") (by decide +kernel)
  have wd6 := hts (.fieldLink RX11 102 "StoryDesk$Reading" "errors" "I") (by decide +kernel)
  have hl : lv_has ls 1 [(0, .ref h0)] := hl
  have hH : sj_H D A ([(h0, .inr (11, [.ref d_text, .ref d_reading, .ref d_cases, .ref d_scripts, .ref d_run, .ref d_definitions, .ref d_definitionScripts, .int 0, .ref d_hookTags, .ref d_hookBefore, .ref d_hookScripts, .int 0, .ref d_filterInUse, .ref d_filterToTry])), (d_run, .inr (7, [.ref r_workers, .int 0, .int 0, .ref r_queue, .int 0, .int 0, .int 0, .int 0, .int 0, .ref r_events, .int 0])), (d_reading, .inr (5, [.ref e_source, .int 0, .ref e_errorLines, .ref e_errorNumbers, .int 0, .ref e_sections, .int 0, .ref e_scenarios, .int 0, .ref e_steps, .int 0, .ref e_examples, .int 0, .ref e_rows, .int 0, .int 0, .int 0, .ref e_owner, .ref e_table])), (e_source, .inr (3, [.ref sch, .int 0])), (sch, .inl (kc, 480, .inl fs)), (e_errorLines, .inl (kl, 20, .inl fl)), (e_errorNumbers, .inl (kn, 20, .inl fn)), (d_text, .inr (3, [.ref tch, .int 0])), (tch, .inl (kt, 480, .inl ft)), (d_cases, .inr (1, [.ref d_reading, .ref c_stepText, .ref c_cellText, .ref c_all, .int 0]))] ++ []) s.heap := hH
  refine lv_aload_n hx hb dX11_read_0 rfl (lv_at hl 0 rfl) ?_
  refine va_get (D := D) (ci := 11) (v := .ref d_run) (C := RX11) (T := TX11) (N := 14) hx hb hts in11 hown hK hH.1 0 rfl rfl 4 (by decide) wd0 (fun _ h9 => h9) rfl dX11_read_1 ?_
  refine va_get (D := D) (ci := 7) (v := .int 0) (C := RX7) (T := TX7) (N := 11) hx hb hts in7 hown hK hH.1 1 rfl rfl 8 (by decide) wd1 (fun _ h9 => h9) rfl dX11_read_4 ?_
  refine lv_if_eq (tgt := 18) hx hb dX11_read_7 (by decide) (fun _ => ?_) (fun h => absurd (by decide) h)
  refine lv_aload_n hx hb dX11_read_18 rfl (lv_at hl 0 rfl) ?_
  refine va_get (D := D) (ci := 11) (v := .ref d_reading) (C := RX11) (T := TX11) (N := 14) hx hb hts in11 hown hK hH.1 0 rfl rfl 1 (by decide) wd2 (fun _ h9 => h9) rfl dX11_read_19 ?_
  refine lv_aload_n hx hb dX11_read_22 rfl (lv_at hl 0 rfl) ?_
  refine va_get (D := D) (ci := 11) (v := .ref d_text) (C := RX11) (T := TX11) (N := 14) hx hb hts in11 hown hK hH.1 0 rfl rfl 0 (by decide) wd3 (fun _ h9 => h9) rfl dX11_read_23 ?_
  refine sj_callv (wr := [(h0, .inr (11, [.ref d_text, .ref d_reading, .ref d_cases, .ref d_scripts, .ref d_run, .ref d_definitions, .ref d_definitionScripts, .int 0, .ref d_hookTags, .ref d_hookBefore, .ref d_hookScripts, .int 0, .ref d_filterInUse, .ref d_filterToTry])), (d_run, .inr (7, [.ref r_workers, .int 0, .int 0, .ref r_queue, .int 0, .int 0, .int 0, .int 0, .int 0, .ref r_events, .int 0])), (d_cases, .inr (1, [.ref d_reading, .ref c_stepText, .ref c_cellText, .ref c_all, .int 0]))]) (va_runV (As := [.ref d_text]) (rest := []) ⟨hx, hb, hml, hown, hts⟩ (c_X5_take l D d_reading d_text e_source e_errorLines e_errorNumbers e_sections e_scenarios e_steps e_examples e_rows e_owner e_table sch kc fs kl fl kn fn tch kt ft s.heap.size) (cwV 1 hts gX11_read_X5_take rfl rfl rfl (by decide +kernel) ⟨(Nat.le_of_ble_eq_true rfl), (Nat.le_of_ble_eq_true rfl)⟩) (sj_preV (q := (RX5, TX5, 19)) hH hK [2, 3, 4, 5, 6, 7, 8] rfl rfl [0, 1, 2, 3] rfl rfl rfl sj_bln sj_exn) rfl rfl hl.1 rfl (lv_room (Nat.le_of_ble_eq_true rfl)) dX11_read_26 ⟨(Nat.le_of_ble_eq_true rfl), (Nat.le_of_ble_eq_true rfl)⟩) hH hK hS hA [2, 3, 4, 5, 6, 7, 8] [0, 1, 9] rfl rfl rfl rfl (by decide) rfl rfl (fun u_3 H locs hw_4 hH hK hS => ?_)
  have hH : sj_H D A ([(h0, .inr (11, [.ref d_text, .ref d_reading, .ref d_cases, .ref d_scripts, .ref d_run, .ref d_definitions, .ref d_definitionScripts, .int 0, .ref d_hookTags, .ref d_hookBefore, .ref d_hookScripts, .int 0, .ref d_filterInUse, .ref d_filterToTry])), (d_run, .inr (7, [.ref r_workers, .int 0, .int 0, .ref r_queue, .int 0, .int 0, .int 0, .int 0, .int 0, .ref r_events, .int 0])), (d_cases, .inr (1, [.ref d_reading, .ref c_stepText, .ref c_cellText, .ref c_all, .int 0])), (d_reading, .inr (5, [.ref e_source, .int 0, .ref e_errorLines, .ref e_errorNumbers, .int 1, .ref e_sections, .int 0, .ref e_scenarios, .int 0, .ref e_steps, .int 0, .ref e_examples, .int 0, .ref e_rows, .int 0, .int 0, .int 0, .ref e_owner, .ref e_table])), (d_text, .inr (3, [.ref tch, .int 0]))] ++ []) H := hH
  have hK : va_K D vwCl [(kc, .char), (kl, .int), (kn, .int), (kt, .char)] s := by simpa using hK
  refine lv_aload_n hx hb dX11_read_29 rfl (lv_at hl 0 rfl) ?_
  refine va_get (D := D) (ci := 11) (v := .ref d_text) (C := RX11) (T := TX11) (N := 14) hx hb hts in11 hown hK hH.1 0 rfl rfl 0 (by decide) wd3 (fun _ h9 => h9) rfl dX11_read_30 ?_
  refine lv_iconst (v := 0) hx hb dX11_read_33 (by decide) ?_
  refine sj_put (D := D) (ci := 3) (v := .int 0) (ty := .int) (C := RX3) (F := TX3) (N := 2) hx hb hts in3 tyX3 tyX3_ok nmX3 hown hK hH hS 4 rfl rfl 1 (by decide) wd4 (fun _ h9 => h9) rfl (by decide +kernel) rfl rfl (Nat.le_of_ble_eq_true rfl) dX11_read_34 (fun H locs (hH : sj_H D A ([(h0, .inr (11, [.ref d_text, .ref d_reading, .ref d_cases, .ref d_scripts, .ref d_run, .ref d_definitions, .ref d_definitionScripts, .int 0, .ref d_hookTags, .ref d_hookBefore, .ref d_hookScripts, .int 0, .ref d_filterInUse, .ref d_filterToTry])), (d_run, .inr (7, [.ref r_workers, .int 0, .int 0, .ref r_queue, .int 0, .int 0, .int 0, .int 0, .int 0, .ref r_events, .int 0])), (d_cases, .inr (1, [.ref d_reading, .ref c_stepText, .ref c_cellText, .ref c_all, .int 0])), (d_reading, .inr (5, [.ref e_source, .int 0, .ref e_errorLines, .ref e_errorNumbers, .int 1, .ref e_sections, .int 0, .ref e_scenarios, .int 0, .ref e_steps, .int 0, .ref e_examples, .int 0, .ref e_rows, .int 0, .int 0, .int 0, .ref e_owner, .ref e_table])), (d_text, .inr (3, [.ref tch, .int 0]))] ++ []) H) hS => ?_)
  refine lv_aload_n hx hb dX11_read_37 rfl (lv_at hl 0 rfl) ?_
  refine va_get (D := D) (ci := 11) (v := .ref d_cases) (C := RX11) (T := TX11) (N := 14) hx hb hts in11 hown hK hH.1 0 rfl rfl 2 (by decide) wd5 (fun _ h9 => h9) rfl dX11_read_38 ?_
  refine sj_callv (wr := [(h0, .inr (11, [.ref d_text, .ref d_reading, .ref d_cases, .ref d_scripts, .ref d_run, .ref d_definitions, .ref d_definitionScripts, .int 0, .ref d_hookTags, .ref d_hookBefore, .ref d_hookScripts, .int 0, .ref d_filterInUse, .ref d_filterToTry])), (d_run, .inr (7, [.ref r_workers, .int 0, .int 0, .ref r_queue, .int 0, .int 0, .int 0, .int 0, .int 0, .ref r_events, .int 0])), (d_text, .inr (3, [.ref tch, .int 0]))]) (va_runV (As := []) (rest := []) ⟨hx, hb, hml, hown, hts⟩ (c_X1_build l D d_cases d_reading c_stepText c_cellText c_all e_source e_errorLines e_errorNumbers e_sections e_scenarios e_steps e_examples e_rows e_owner e_table H.size) (cwV 0 hts gX11_read_X1_build rfl rfl rfl (by decide +kernel) ⟨(Nat.le_of_ble_eq_true rfl), (Nat.le_of_ble_eq_true rfl)⟩) (sj_preV (q := (RX1, TX1, 5)) hH hK [2, 3] rfl rfl [] rfl rfl rfl sj_bln sj_exn) rfl rfl hl.1 rfl (lv_room (Nat.le_of_ble_eq_true rfl)) dX11_read_41 ⟨(Nat.le_of_ble_eq_true rfl), (Nat.le_of_ble_eq_true rfl)⟩) hH hK hS hA [2, 3] [0, 1, 4] rfl rfl rfl rfl (by decide) rfl rfl (fun u_6 H locs hw_7 hH hK hS => ?_)
  have hH : sj_H D A ([(h0, .inr (11, [.ref d_text, .ref d_reading, .ref d_cases, .ref d_scripts, .ref d_run, .ref d_definitions, .ref d_definitionScripts, .int 0, .ref d_hookTags, .ref d_hookBefore, .ref d_hookScripts, .int 0, .ref d_filterInUse, .ref d_filterToTry])), (d_run, .inr (7, [.ref r_workers, .int 0, .int 0, .ref r_queue, .int 0, .int 0, .int 0, .int 0, .int 0, .ref r_events, .int 0])), (d_text, .inr (3, [.ref tch, .int 0])), (d_reading, .inr (5, [.ref e_source, .int 0, .ref e_errorLines, .ref e_errorNumbers, .int 1, .ref e_sections, .int 0, .ref e_scenarios, .int 0, .ref e_steps, .int 0, .ref e_examples, .int 0, .ref e_rows, .int 0, .int 0, .int 0, .ref e_owner, .ref e_table]))] ++ []) H := hH
  have hK : va_K D vwCl [(kc, .char), (kl, .int), (kn, .int), (kt, .char)] s := by simpa using hK
  refine lv_aload_n hx hb dX11_read_44 rfl (lv_at hl 0 rfl) ?_
  refine va_get (D := D) (ci := 11) (v := .ref d_reading) (C := RX11) (T := TX11) (N := 14) hx hb hts in11 hown hK hH.1 0 rfl rfl 1 (by decide) wd2 (fun _ h9 => h9) rfl dX11_read_45 ?_
  refine va_get (D := D) (ci := 5) (v := .int 1) (C := RX5) (T := TX5) (N := 19) hx hb hts in5 hown hK hH.1 3 rfl rfl 4 (by decide) wd6 (fun _ h9 => h9) rfl dX11_read_48 ?_
  refine vx_ret ?_
  exact sj_zret hx hb hr hlocks rfl hS () rfl sj_nil (sj_Knil hK) (Nat.le_of_ble_eq_true rfl) (Nat.le_of_ble_eq_true rfl) dX11_read_51
set_option maxHeartbeats 4000000 in
set_option maxRecDepth 100000 in
theorem c_X12_read (l : Launch) (D : va_G) (h0 : Nat) (g : Nat → Nat) (th : Int32) (ke : ClassId) (sz : Nat)  : Met l yX12_read wsX12_read ({ frames := 2, cells := 0, slots := 0, locals := 47 }) (va_Pc [.ref h0] (sj_B D [(h0, .inr (12, sj_M g th)), ((g 5), .inl (ke, 40, .inl (fun _ => 0)))] [(ke, .int)] sz sj_n)) (sj_Qi (S := (List Value)) D (fun r u => r = 1 ∧ u[0]? = some (.int 0)) (fun u => [(h0, .inr (12, u))]) (fun u => []) (va_A [(h0, .inr (12, sj_M g th)), ((g 5), .inl (ke, 40, .inl (fun _ => 0)))] sz)) 0 0 (va_A [(h0, .inr (12, sj_M g th)), ((g 5), .inl (ke, 40, .inl (fun _ => 0)))] sz) := by
  refine sj_met (cc := cX12_read) (maxL := 5) (ret := (some .int)) (by decide) rfl (Nat.le_of_ble_eq_true rfl) ?_
  intro p e s m below meth c A ls hx hb hr hml hts hown hlocks hnm hA hsz hS hH hK hE hl
  have hown : s.vm.findClass RX12 = some m.cls := hown
  have in12 : ∀ w ∈ wsX120, w ∈ wsX12_read := by decide +kernel
  have wd0 := hts (.fieldLink RX12 7 "StoryDeskModel" "size" "I") (by decide +kernel)
  have wd1 := hts (.fieldLink RX12 16 "StoryDeskModel" "width" "I") (by decide +kernel)
  have wd2 := hts (.fieldLink RX12 33 "StoryDeskModel" "dialect" "I") (by decide +kernel)
  have wd3 := hts (.fieldLink RX12 117 "StoryDeskModel" "groups" "I") (by decide +kernel)
  have wd4 := hts (.fieldLink RX12 46 "StoryDeskModel" "tagged" "Z") (by decide +kernel)
  have wd5 := hts (.fieldLink RX12 57 "StoryDeskModel" "wrongs" "I") (by decide +kernel)
  have hl : lv_has ls 5 [(0, .ref h0)] := hl
  have hH : sj_H D A ([(h0, .inr (12, sj_M g th)), ((g 5), .inl (ke, 40, .inl (fun _ => 0)))] ++ []) s.heap := hH
  refine lv_aload_n hx hb dX12_read_0 rfl (lv_at hl 0 rfl) ?_
  refine sj_calli (wr := [((g 5), .inl (ke, 40, .inl (fun _ => 0)))]) (va_runV (As := []) (rest := []) ⟨hx, hb, hml, hown, hts⟩ (c_X12_busy l D h0 g th 0 0 0 0 0 0 0 0 0 0 0 0 0 0 0 0 0 0 0 0 0 0 0 0 0 0 0 0 0 0 0 0 0 s.heap.size) (cwV 0 hts gX12_read_X12_busy rfl rfl rfl (by decide +kernel) ⟨(Nat.le_of_ble_eq_true rfl), (Nat.le_of_ble_eq_true rfl)⟩) (sj_preV (q := (RX12, TX12, 86)) hH hK [0] rfl rfl [] rfl rfl rfl sj_bln sj_exn) rfl rfl hl.1 rfl (lv_room (Nat.le_of_ble_eq_true rfl)) dX12_read_1 ⟨(Nat.le_of_ble_eq_true rfl), (Nat.le_of_ble_eq_true rfl)⟩) hH hK hS hA [0] [1] rfl rfl rfl rfl (by decide) rfl rfl (fun r_1 u_2 H locs hw_3 hH hK hS => ?_)
  have hH : sj_H D A ([((g 5), .inl (ke, 40, .inl (fun _ => 0))), (h0, .inr (12, sj_M g 0))] ++ []) H := hH
  have hK : va_K D vwCl [(ke, .int)] s := by simpa using hK
  subst hw_3
  refine lv_if_eq (tgt := 9) hx hb dX12_read_4 (by decide) (fun _ => ?_) (fun h => absurd (by decide) h)
  refine lv_aload_n hx hb dX12_read_9 rfl (lv_at hl 0 rfl) ?_
  refine sj_callv (wr := [((g 5), .inl (ke, 40, .inl (fun _ => 0)))]) (va_runV (As := []) (rest := []) ⟨hx, hb, hml, hown, hts⟩ (c_X12_forget l D h0 g 0 0 0 0 0 0 0 0 0 0 0 0 0 0 0 0 0 0 0 0 0 0 0 0 0 0 0 0 0 0 0 0 0 0 0 H.size) (cwV 0 hts gX12_read_X12_forget rfl rfl rfl (by decide +kernel) ⟨(Nat.le_of_ble_eq_true rfl), (Nat.le_of_ble_eq_true rfl)⟩) (sj_preV (q := (RX12, TX12, 86)) hH hK [1] rfl rfl [] rfl rfl rfl sj_bln sj_exn) rfl rfl hl.1 rfl (lv_room (Nat.le_of_ble_eq_true rfl)) dX12_read_10 ⟨(Nat.le_of_ble_eq_true rfl), (Nat.le_of_ble_eq_true rfl)⟩) hH hK hS hA [1] [0] rfl rfl rfl rfl (by decide) rfl rfl (fun u_6 H locs hw_7 hH hK hS => ?_)
  have hH : sj_H D A ([((g 5), .inl (ke, 40, .inl (fun _ => 0))), (h0, .inr (12, sj_M g 0))] ++ []) H := hH
  have hK : va_K D vwCl [(ke, .int)] s := by simpa using hK
  refine lv_iconst (v := 0) hx hb dX12_read_13 (by decide) ?_
  refine lv_istore_n (lv' := [(1, .int 0), (0, .ref h0)]) hx hb dX12_read_14 rfl hl (by decide) rfl (fun ls hl => ?_)
  refine lv_iconst (v := 0) hx hb dX12_read_15 (by decide) ?_
  refine lv_istore_n (lv' := [(2, .int 0), (1, .int 0), (0, .ref h0)]) hx hb dX12_read_16 rfl hl (by decide) rfl (fun ls hl => ?_)
  refine lv_iconst (v := 0) hx hb dX12_read_17 (by decide) ?_
  refine lv_istore_n (lv' := [(3, .int 0), (2, .int 0), (1, .int 0), (0, .ref h0)]) hx hb dX12_read_18 rfl hl (by decide) rfl (fun ls hl => ?_)
  refine lv_iload_n hx hb dX12_read_19 rfl (lv_at hl 0 rfl) ?_
  refine lv_aload_n hx hb dX12_read_20 rfl (lv_at hl 3 rfl) ?_
  refine va_get (D := D) (ci := 12) (v := .int 0) (C := RX12) (T := TX12) (N := 86) hx hb hts in12 hown hK hH.1 1 rfl rfl 2 (by decide) wd0 (fun _ h9 => h9) rfl dX12_read_21 ?_
  refine lv_icmp_gt (tgt := 128) hx hb dX12_read_24 (by decide) (fun h => absurd h (by decide)) (fun _ => ?_)
  refine lv_iload_n hx hb dX12_read_27 rfl (lv_at hl 0 rfl) ?_
  refine lv_aload_n hx hb dX12_read_28 rfl (lv_at hl 3 rfl) ?_
  refine va_get (D := D) (ci := 12) (v := .int 0) (C := RX12) (T := TX12) (N := 86) hx hb hts in12 hown hK hH.1 1 rfl rfl 2 (by decide) wd0 (fun _ h9 => h9) rfl dX12_read_29 ?_
  refine lv_icmp_eq (tgt := 46) hx hb dX12_read_32 (by decide) (fun _ => ?_) (fun h => absurd (by decide) h)
  refine lv_aload_n hx hb dX12_read_46 rfl (lv_at hl 3 rfl) ?_
  refine lv_iload_n hx hb dX12_read_47 rfl (lv_at hl 1 rfl) ?_
  refine lv_iload_n hx hb dX12_read_48 rfl (lv_at hl 0 rfl) ?_
  refine sj_callv (wr := [((g 5), .inl (ke, 40, .inl (fun _ => 0)))]) (va_runV (As := [.int 0, .int 0]) (rest := []) ⟨hx, hb, hml, hown, hts⟩ (c_X12_takeLine l D h0 g 0 0 0 0 0 0 0 0 0 0 0 0 0 0 0 0 0 0 0 0 0 0 0 0 0 0 0 0 0 0 0 0 0 0 0 H.size) (cwV 2 hts gX12_read_X12_takeLine rfl rfl rfl (by decide +kernel) ⟨(Nat.le_of_ble_eq_true rfl), (Nat.le_of_ble_eq_true rfl)⟩) (sj_preV (q := (RX12, TX12, 86)) hH hK [1] rfl rfl [] rfl rfl rfl sj_bln sj_exn) rfl rfl hl.1 rfl (lv_room (Nat.le_of_ble_eq_true rfl)) dX12_read_49 ⟨(Nat.le_of_ble_eq_true rfl), (Nat.le_of_ble_eq_true rfl)⟩) hH hK hS hA [1] [0] rfl rfl rfl rfl (by decide) rfl rfl (fun u_11 H locs hw_12 hH hK hS => ?_)
  have hH : sj_H D A ([((g 5), .inl (ke, 40, .inl (fun _ => 0))), (h0, .inr (12, sj_M g 0))] ++ []) H := hH
  have hK : va_K D vwCl [(ke, .int)] s := by simpa using hK
  refine lv_iload_n hx hb dX12_read_52 rfl (lv_at hl 0 rfl) ?_
  refine lv_iconst (v := 1) hx hb dX12_read_53 (by decide) ?_
  refine lv_iadd hx hb dX12_read_54 ?_
  refine sj_i (y := 1) (by decide) ?_
  refine lv_istore_n (lv' := [(2, .int 1), (3, .int 0), (1, .int 0), (0, .ref h0)]) hx hb dX12_read_55 rfl hl (by decide) rfl (fun ls hl => ?_)
  refine lv_iinc (v := 1) (lv' := [(1, .int 1), (2, .int 1), (3, .int 0), (0, .ref h0)]) hx hb dX12_read_56 hl (k := 2) rfl (by decide) (by decide) rfl (fun ls hl => ?_)
  refine lv_iload_n hx hb dX12_read_59 rfl (lv_at hl 0 rfl) ?_
  refine lv_iconst (v := 1) hx hb dX12_read_60 (by decide) ?_
  refine lv_icmp_ne (tgt := 103) hx hb dX12_read_61 (by decide) (fun h => absurd (by decide) h) (fun _ => ?_)
  refine lv_aload_n hx hb dX12_read_64 rfl (lv_at hl 3 rfl) ?_
  refine lv_aload_n hx hb dX12_read_65 rfl (lv_at hl 3 rfl) ?_
  refine va_get (D := D) (ci := 12) (v := .int 0) (C := RX12) (T := TX12) (N := 86) hx hb hts in12 hown hK hH.1 1 rfl rfl 4 (by decide) wd1 (fun _ h9 => h9) rfl dX12_read_66 ?_
  refine lv_iconst (v := 2) hx hb dX12_read_69 (by decide) ?_
  refine lv_icmp_ne (tgt := 99) hx hb dX12_read_70 (by decide) (fun _ => ?_) (fun h => absurd h (by decide))
  refine lv_iconst (v := 0) hx hb dX12_read_99 (by decide) ?_
  refine sj_put (D := D) (ci := 12) (v := .int 0) (ty := .int) (C := RX12) (F := TX12) (N := 86) hx hb hts in12 tyX12 tyX12_ok nmX12 hown hK hH hS 1 rfl rfl 7 (by decide) wd2 (fun _ h9 => h9) rfl (by decide +kernel) rfl rfl (Nat.le_of_ble_eq_true rfl) dX12_read_100 (fun H locs (hH : sj_H D A ([((g 5), .inl (ke, 40, .inl (fun _ => 0))), (h0, .inr (12, sj_M g 0))] ++ []) H) hS => ?_)
  refine lv_aload_n hx hb dX12_read_103 rfl (lv_at hl 3 rfl) ?_
  refine lv_iload_n hx hb dX12_read_104 rfl (lv_at hl 0 rfl) ?_
  refine sj_calli (wr := [((g 5), .inl (ke, 40, .inl (fun _ => 0)))]) (va_runV (As := [.int 1]) (rest := []) ⟨hx, hb, hml, hown, hts⟩ (c_X12_lineError l D h0 g 0 0 0 0 0 0 0 0 0 0 0 0 0 0 0 0 0 0 0 0 0 0 0 0 0 0 0 0 0 0 0 0 0 0 1 H.size) (cwV 1 hts gX12_read_X12_lineError rfl rfl rfl (by decide +kernel) ⟨(Nat.le_of_ble_eq_true rfl), (Nat.le_of_ble_eq_true rfl)⟩) (sj_preV (q := (RX12, TX12, 86)) hH hK [1] rfl rfl [] rfl rfl rfl sj_bln sj_exn) rfl rfl hl.1 rfl (lv_room (Nat.le_of_ble_eq_true rfl)) dX12_read_105 ⟨(Nat.le_of_ble_eq_true rfl), (Nat.le_of_ble_eq_true rfl)⟩) hH hK hS hA [1] [0] rfl rfl rfl rfl (by decide) rfl rfl (fun r_15 u_16 H locs hw_17 hH hK hS => ?_)
  have hH : sj_H D A ([((g 5), .inl (ke, 40, .inl (fun _ => 0))), (h0, .inr (12, sj_M g 0))] ++ []) H := hH
  have hK : va_K D vwCl [(ke, .int)] s := by simpa using hK
  subst hw_17
  refine lv_istore (lv' := [(4, .int 0), (1, .int 1), (2, .int 1), (3, .int 0), (0, .ref h0)]) hx hb dX12_read_108 hl (by decide) rfl (fun ls hl => ?_)
  refine lv_iload hx hb dX12_read_110 (lv_at hl 0 rfl) ?_
  refine lv_if_le (tgt := 122) hx hb dX12_read_112 (by decide) (fun _ => ?_) (fun h => absurd (by decide) h)
  refine lv_iinc (v := 1) (lv' := [(3, .int 1), (4, .int 0), (1, .int 1), (2, .int 1), (0, .ref h0)]) hx hb dX12_read_122 hl (k := 3) rfl (by decide) (by decide) rfl (fun ls hl => ?_)
  refine lv_goto (tgt := 19) hx hb dX12_read_125 (by decide) ?_
  refine lv_iload_n hx hb dX12_read_19 rfl (lv_at hl 0 rfl) ?_
  refine lv_aload_n hx hb dX12_read_20 rfl (lv_at hl 4 rfl) ?_
  refine va_get (D := D) (ci := 12) (v := .int 0) (C := RX12) (T := TX12) (N := 86) hx hb hts in12 hown hK hH.1 1 rfl rfl 2 (by decide) wd0 (fun _ h9 => h9) rfl dX12_read_21 ?_
  refine lv_icmp_gt (tgt := 128) hx hb dX12_read_24 (by decide) (fun _ => ?_) (fun h => absurd (by decide) h)
  refine lv_aload_n hx hb dX12_read_128 rfl (lv_at hl 4 rfl) ?_
  refine lv_iconst (v := 0) hx hb dX12_read_129 (by decide) ?_
  refine sj_put (D := D) (ci := 12) (v := .int 0) (ty := .int) (C := RX12) (F := TX12) (N := 86) hx hb hts in12 tyX12 tyX12_ok nmX12 hown hK hH hS 1 rfl rfl 2 (by decide) wd0 (fun _ h9 => h9) rfl (by decide +kernel) rfl rfl (Nat.le_of_ble_eq_true rfl) dX12_read_130 (fun H locs (hH : sj_H D A ([((g 5), .inl (ke, 40, .inl (fun _ => 0))), (h0, .inr (12, sj_M g 0))] ++ []) H) hS => ?_)
  refine lv_aload_n hx hb dX12_read_133 rfl (lv_at hl 4 rfl) ?_
  refine va_get (D := D) (ci := 12) (v := .int 0) (C := RX12) (T := TX12) (N := 86) hx hb hts in12 hown hK hH.1 1 rfl rfl 11 (by decide) wd3 (fun _ h9 => h9) rfl dX12_read_134 ?_
  refine lv_if_ne (tgt := 149) hx hb dX12_read_137 (by decide) (fun h => absurd (by decide) h) (fun _ => ?_)
  refine lv_aload_n hx hb dX12_read_140 rfl (lv_at hl 4 rfl) ?_
  refine lv_iload_n hx hb dX12_read_141 rfl (lv_at hl 2 rfl) ?_
  refine lv_iconst (v := 1) hx hb dX12_read_142 (by decide) ?_
  refine lv_iadd hx hb dX12_read_143 ?_
  refine sj_i (y := 2) (by decide) ?_
  refine lv_bipush (v := 6) hx hb dX12_read_144 (by decide) ?_
  refine sj_callv (wr := []) (va_runV (As := [.int 2, .int 6]) (rest := []) ⟨hx, hb, hml, hown, hts⟩ (c_X12_note l D h0 g 0 0 0 0 0 0 0 0 0 0 0 0 0 0 0 0 0 0 0 0 0 0 0 0 0 0 0 0 0 0 0 0 0 0 2 6 (fun _ => 0) ke H.size) (cwV 2 hts gX12_read_X12_note rfl rfl rfl (by decide +kernel) ⟨(Nat.le_of_ble_eq_true rfl), (Nat.le_of_ble_eq_true rfl)⟩) (sj_preV (q := (RX12, TX12, 86)) hH hK [1, 0] rfl rfl [0] rfl rfl rfl sj_bln sj_exn) rfl rfl hl.1 rfl (lv_room (Nat.le_of_ble_eq_true rfl)) dX12_read_146 ⟨(Nat.le_of_ble_eq_true rfl), (Nat.le_of_ble_eq_true rfl)⟩) hH hK hS hA [1, 0] [] rfl rfl rfl rfl (by decide) rfl rfl (fun u_22 H locs hw_23 hH hK hS => ?_)
  have hH : sj_H D A ([(h0, .inr (12, [.int 0, .ref (g 1), .int 0, .ref (g 3), .int 0, .ref (g 5), .int 1, .int 0, .int 0, .int 0, .int 0, .int 0, .ref (g 12), .int 0, .ref (g 14), .ref (g 15), .ref (g 16), .int 0, .int 0, .ref (g 19), .ref (g 20), .ref (g 21), .ref (g 22), .int 0, .ref (g 24), .ref (g 25), .int 0, .int 0, .ref (g 28), .ref (g 29), .ref (g 30), .ref (g 31), .ref (g 32), .int 0, .ref (g 34), .ref (g 35), .ref (g 36), .ref (g 37), .ref (g 38), .ref (g 39), .int 0, .int 0, .ref (g 42), .ref (g 43), .ref (g 44), .int 0, .ref (g 46), .ref (g 47), .ref (g 48), .int 0, .ref (g 50), .ref (g 51), .int 0, .ref (g 53), .int 0, .int 0, .ref (g 56), .int 0, .ref (g 58), .ref (g 59), .ref (g 60), .ref (g 61), .ref (g 62), .ref (g 63), .ref (g 64), .int 0, .int 0, .int 0, .ref (g 68), .ref (g 69), .ref (g 70), .ref (g 71), .ref (g 72), .ref (g 73), .int 0, .int 0, .int 0, .int 0, .int 0, .int 0, .int 0, .int 0, .ref (g 82), .ref (g 83), .ref (g 84), .ref (g 85)]))] ++ []) H := hH
  have hK : va_K D vwCl [(ke, .int)] s := by simpa using hK
  refine lv_aload_n hx hb dX12_read_149 rfl (lv_at hl 4 rfl) ?_
  refine va_get (D := D) (ci := 12) (v := .int 0) (C := RX12) (T := TX12) (N := 86) hx hb hts in12 hown hK hH.1 0 rfl rfl 10 (by decide) wd4 (fun _ h9 => h9) rfl dX12_read_150 ?_
  refine lv_if_eq (tgt := 165) hx hb dX12_read_153 (by decide) (fun _ => ?_) (fun h => absurd (by decide) h)
  refine lv_aload_n hx hb dX12_read_165 rfl (lv_at hl 4 rfl) ?_
  refine va_get (D := D) (ci := 12) (v := .int 1) (C := RX12) (T := TX12) (N := 86) hx hb hts in12 hown hK hH.1 0 rfl rfl 6 (by decide) wd5 (fun _ h9 => h9) rfl dX12_read_166 ?_
  refine lv_if_ne (tgt := 176) hx hb dX12_read_169 (by decide) (fun _ => ?_) (fun h => absurd h (by decide))
  refine lv_aload_n hx hb dX12_read_176 rfl (lv_at hl 4 rfl) ?_
  refine va_get (D := D) (ci := 12) (v := .int 1) (C := RX12) (T := TX12) (N := 86) hx hb hts in12 hown hK hH.1 0 rfl rfl 6 (by decide) wd5 (fun _ h9 => h9) rfl dX12_read_177 ?_
  exact sj_zret hx hb hr hlocks rfl hS [.int 0, .ref (g 1), .int 0, .ref (g 3), .int 0, .ref (g 5), .int 1, .int 0, .int 0, .int 0, .int 0, .int 0, .ref (g 12), .int 0, .ref (g 14), .ref (g 15), .ref (g 16), .int 0, .int 0, .ref (g 19), .ref (g 20), .ref (g 21), .ref (g 22), .int 0, .ref (g 24), .ref (g 25), .int 0, .int 0, .ref (g 28), .ref (g 29), .ref (g 30), .ref (g 31), .ref (g 32), .int 0, .ref (g 34), .ref (g 35), .ref (g 36), .ref (g 37), .ref (g 38), .ref (g 39), .int 0, .int 0, .ref (g 42), .ref (g 43), .ref (g 44), .int 0, .ref (g 46), .ref (g 47), .ref (g 48), .int 0, .ref (g 50), .ref (g 51), .int 0, .ref (g 53), .int 0, .int 0, .ref (g 56), .int 0, .ref (g 58), .ref (g 59), .ref (g 60), .ref (g 61), .ref (g 62), .ref (g 63), .ref (g 64), .int 0, .int 0, .int 0, .ref (g 68), .ref (g 69), .ref (g 70), .ref (g 71), .ref (g 72), .ref (g 73), .int 0, .int 0, .int 0, .int 0, .int 0, .int 0, .int 0, .int 0, .ref (g 82), .ref (g 83), .ref (g 84), .ref (g 85)] ⟨rfl, rfl⟩ (sj_sub hH [0] rfl rfl) (sj_Knil hK) (Nat.le_of_ble_eq_true rfl) (Nat.le_of_ble_eq_true rfl) dX12_read_180
