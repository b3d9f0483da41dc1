theorem dX2_take_0 : decode cX2_take 0 = .ok (.aload_n 0, 1) := by decide +kernel
theorem dX2_take_1 : decode cX2_take 1 = .ok (.iconst 0, 1) := by decide +kernel
theorem dX2_take_2 : decode cX2_take 2 = .ok (.putfield 38, 3) := by decide +kernel
theorem dX2_take_5 : decode cX2_take 5 = .ok (.aload_n 0, 1) := by decide +kernel
theorem dX2_take_6 : decode cX2_take 6 = .ok (.iconst 0, 1) := by decide +kernel
theorem dX2_take_7 : decode cX2_take 7 = .ok (.putfield 42, 3) := by decide +kernel
theorem dX2_take_10 : decode cX2_take 10 = .ok (.aload_n 0, 1) := by decide +kernel
theorem dX2_take_11 : decode cX2_take 11 = .ok (.getfield 15, 3) := by decide +kernel
theorem dX2_take_14 : decode cX2_take 14 = .ok (.iconst 1, 1) := by decide +kernel
theorem dX2_take_15 : decode cX2_take 15 = .ok (.iconst 0, 1) := by decide +kernel
theorem dX2_take_16 : decode cX2_take 16 = .ok (.iastore, 1) := by decide +kernel
theorem dX2_take_17 : decode cX2_take 17 = .ok (.aload_n 0, 1) := by decide +kernel
theorem dX2_take_18 : decode cX2_take 18 = .ok (.iconst 0, 1) := by decide +kernel
theorem dX2_take_19 : decode cX2_take 19 = .ok (.putfield 45, 3) := by decide +kernel
theorem dX2_take_22 : decode cX2_take 22 = .ok (.aload_n 1, 1) := by decide +kernel
theorem dX2_take_23 : decode cX2_take 23 = .ok (.getfield 48, 3) := by decide +kernel
theorem dX2_take_26 : decode cX2_take 26 = .ok (.iconst 1, 1) := by decide +kernel
theorem dX2_take_27 : decode cX2_take 27 = .ok (.if_icmp .lt 12, 3) := by decide +kernel
theorem dX2_take_39 : decode cX2_take 39 = .ok (.iconst 0, 1) := by decide +kernel
theorem dX2_take_40 : decode cX2_take 40 = .ok (.ireturn, 1) := by decide +kernel
theorem dX9_holds_0 : decode cX9_holds 0 = .ok (.aload_n 0, 1) := by decide +kernel
theorem dX9_holds_1 : decode cX9_holds 1 = .ok (.iconst 0, 1) := by decide +kernel
theorem dX9_holds_2 : decode cX9_holds 2 = .ok (.putfield 33, 3) := by decide +kernel
theorem dX9_holds_5 : decode cX9_holds 5 = .ok (.aload_n 0, 1) := by decide +kernel
theorem dX9_holds_6 : decode cX9_holds 6 = .ok (.iconst 1, 1) := by decide +kernel
theorem dX9_holds_7 : decode cX9_holds 7 = .ok (.putfield 29, 3) := by decide +kernel
theorem dX9_holds_10 : decode cX9_holds 10 = .ok (.aload_n 0, 1) := by decide +kernel
theorem dX9_holds_11 : decode cX9_holds 11 = .ok (.getfield 13, 3) := by decide +kernel
theorem dX9_holds_14 : decode cX9_holds 14 = .ok (.ifCond .eq 12, 3) := by decide +kernel
theorem dX9_holds_26 : decode cX9_holds 26 = .ok (.iconst 1, 1) := by decide +kernel
theorem dX9_holds_27 : decode cX9_holds 27 = .ok (.goto 4, 3) := by decide +kernel
theorem dX9_holds_31 : decode cX9_holds 31 = .ok (.ireturn, 1) := by decide +kernel
theorem dX9_take_0 : decode cX9_take 0 = .ok (.aload_n 0, 1) := by decide +kernel
theorem dX9_take_1 : decode cX9_take 1 = .ok (.iconst 0, 1) := by decide +kernel
theorem dX9_take_2 : decode cX9_take 2 = .ok (.putfield 13, 3) := by decide +kernel
theorem dX9_take_5 : decode cX9_take 5 = .ok (.aload_n 1, 1) := by decide +kernel
theorem dX9_take_6 : decode cX9_take 6 = .ok (.getfield 17, 3) := by decide +kernel
theorem dX9_take_9 : decode cX9_take 9 = .ok (.bipush 40, 2) := by decide +kernel
theorem dX9_take_11 : decode cX9_take 11 = .ok (.if_icmp .le 5, 3) := by decide +kernel
theorem dX9_take_16 : decode cX9_take 16 = .ok (.iconst 0, 1) := by decide +kernel
theorem dX9_take_17 : decode cX9_take 17 = .ok (.istore_n 2, 1) := by decide +kernel
theorem dX9_take_18 : decode cX9_take 18 = .ok (.iload_n 2, 1) := by decide +kernel
theorem dX9_take_19 : decode cX9_take 19 = .ok (.aload_n 1, 1) := by decide +kernel
theorem dX9_take_20 : decode cX9_take 20 = .ok (.getfield 17, 3) := by decide +kernel
theorem dX9_take_23 : decode cX9_take 23 = .ok (.if_icmp .ge 45, 3) := by decide +kernel
theorem dX9_take_68 : decode cX9_take 68 = .ok (.aload_n 0, 1) := by decide +kernel
theorem dX9_take_69 : decode cX9_take 69 = .ok (.iconst 0, 1) := by decide +kernel
theorem dX9_take_70 : decode cX9_take 70 = .ok (.invokevirtual 25, 3) := by decide +kernel
theorem dX9_take_73 : decode cX9_take 73 = .ok (.pop, 1) := by decide +kernel
theorem dX9_take_74 : decode cX9_take 74 = .ok (.aload_n 0, 1) := by decide +kernel
theorem dX9_take_75 : decode cX9_take 75 = .ok (.getfield 13, 3) := by decide +kernel
theorem dX9_take_78 : decode cX9_take 78 = .ok (.ifCond .eq 21, 3) := by decide +kernel
theorem dX9_take_99 : decode cX9_take 99 = .ok (.iconst 1, 1) := by decide +kernel
theorem dX9_take_100 : decode cX9_take 100 = .ok (.goto 4, 3) := by decide +kernel
theorem dX9_take_104 : decode cX9_take 104 = .ok (.ireturn, 1) := by decide +kernel
theorem dX8_has_0 : decode cX8_has 0 = .ok (.iload_n 1, 1) := by decide +kernel
theorem dX8_has_1 : decode cX8_has 1 = .ok (.ifCond .lt 13, 3) := by decide +kernel
theorem dX8_has_14 : decode cX8_has 14 = .ok (.iconst 0, 1) := by decide +kernel
theorem dX8_has_15 : decode cX8_has 15 = .ok (.ireturn, 1) := by decide +kernel
theorem dX8_has_4 : decode cX8_has 4 = .ok (.iload_n 1, 1) := by decide +kernel
theorem dX8_has_5 : decode cX8_has 5 = .ok (.bipush 8, 2) := by decide +kernel
theorem dX8_has_7 : decode cX8_has 7 = .ok (.if_icmp .ge 7, 3) := by decide +kernel
theorem dX8_has_10 : decode cX8_has 10 = .ok (.iconst 1, 1) := by decide +kernel
theorem dX8_has_11 : decode cX8_has 11 = .ok (.goto 4, 3) := by decide +kernel
theorem dX8_append_0 : decode cX8_append 0 = .ok (.aload_n 0, 1) := by decide +kernel
theorem dX8_append_1 : decode cX8_append 1 = .ok (.iload_n 1, 1) := by decide +kernel
theorem dX8_append_2 : decode cX8_append 2 = .ok (.invokevirtual 21, 3) := by decide +kernel
theorem dX8_append_5 : decode cX8_append 5 = .ok (.ifCond .eq 23, 3) := by decide +kernel
theorem dX8_append_8 : decode cX8_append 8 = .ok (.iload_n 2, 1) := by decide +kernel
theorem dX8_append_9 : decode cX8_append 9 = .ok (.ifCond .lt 19, 3) := by decide +kernel
theorem dX8_append_28 : decode cX8_append 28 = .ok (.iconst 0, 1) := by decide +kernel
theorem dX8_append_29 : decode cX8_append 29 = .ok (.ireturn, 1) := by decide +kernel
theorem dX8_append_12 : decode cX8_append 12 = .ok (.iload_n 2, 1) := by decide +kernel
theorem dX8_append_13 : decode cX8_append 13 = .ok (.bipush 8, 2) := by decide +kernel
theorem dX8_append_15 : decode cX8_append 15 = .ok (.if_icmp .gt 13, 3) := by decide +kernel
theorem dX8_append_18 : decode cX8_append 18 = .ok (.aload_n 0, 1) := by decide +kernel
theorem dX8_append_19 : decode cX8_append 19 = .ok (.getfield 18, 3) := by decide +kernel
theorem dX8_append_22 : decode cX8_append 22 = .ok (.iload_n 1, 1) := by decide +kernel
theorem dX8_append_23 : decode cX8_append 23 = .ok (.iaload, 1) := by decide +kernel
theorem dX8_append_24 : decode cX8_append 24 = .ok (.iconst 4, 1) := by decide +kernel
theorem dX8_append_25 : decode cX8_append 25 = .ok (.if_icmp .lt 5, 3) := by decide +kernel
theorem dX8_append_30 : decode cX8_append 30 = .ok (.iload_n 1, 1) := by decide +kernel
theorem dX8_append_31 : decode cX8_append 31 = .ok (.iconst 4, 1) := by decide +kernel
theorem dX8_append_32 : decode cX8_append 32 = .ok (.imul, 1) := by decide +kernel
theorem dX8_append_33 : decode cX8_append 33 = .ok (.aload_n 0, 1) := by decide +kernel
theorem dX8_append_34 : decode cX8_append 34 = .ok (.getfield 18, 3) := by decide +kernel
theorem dX8_append_37 : decode cX8_append 37 = .ok (.iload_n 1, 1) := by decide +kernel
theorem dX8_append_38 : decode cX8_append 38 = .ok (.iaload, 1) := by decide +kernel
theorem dX8_append_39 : decode cX8_append 39 = .ok (.iadd, 1) := by decide +kernel
theorem dX8_append_40 : decode cX8_append 40 = .ok (.istore 4, 2) := by decide +kernel
theorem dX8_append_42 : decode cX8_append 42 = .ok (.aload_n 0, 1) := by decide +kernel
theorem dX8_append_43 : decode cX8_append 43 = .ok (.getfield 11, 3) := by decide +kernel
theorem dX8_append_46 : decode cX8_append 46 = .ok (.iload 4, 2) := by decide +kernel
theorem dX8_append_48 : decode cX8_append 48 = .ok (.iload_n 2, 1) := by decide +kernel
theorem dX8_append_49 : decode cX8_append 49 = .ok (.iastore, 1) := by decide +kernel
theorem dX8_append_50 : decode cX8_append 50 = .ok (.aload_n 0, 1) := by decide +kernel
theorem dX8_append_51 : decode cX8_append 51 = .ok (.getfield 15, 3) := by decide +kernel
theorem dX8_append_54 : decode cX8_append 54 = .ok (.iload 4, 2) := by decide +kernel
theorem dX8_append_56 : decode cX8_append 56 = .ok (.iload_n 3, 1) := by decide +kernel
theorem dX8_append_57 : decode cX8_append 57 = .ok (.iastore, 1) := by decide +kernel
theorem dX8_append_58 : decode cX8_append 58 = .ok (.aload_n 0, 1) := by decide +kernel
theorem dX8_append_59 : decode cX8_append 59 = .ok (.getfield 18, 3) := by decide +kernel
theorem dX8_append_62 : decode cX8_append 62 = .ok (.iload_n 1, 1) := by decide +kernel
theorem dX8_append_63 : decode cX8_append 63 = .ok (.dup2, 1) := by decide +kernel
theorem dX8_append_64 : decode cX8_append 64 = .ok (.iaload, 1) := by decide +kernel
theorem dX8_append_65 : decode cX8_append 65 = .ok (.iconst 1, 1) := by decide +kernel
theorem dX8_append_66 : decode cX8_append 66 = .ok (.iadd, 1) := by decide +kernel
theorem dX8_append_67 : decode cX8_append 67 = .ok (.iastore, 1) := by decide +kernel
theorem dX8_append_68 : decode cX8_append 68 = .ok (.iconst 1, 1) := by decide +kernel
theorem dX8_append_69 : decode cX8_append 69 = .ok (.ireturn, 1) := by decide +kernel
theorem dX11_command_0 : decode cX11_command 0 = .ok (.aload_n 0, 1) := by decide +kernel
theorem dX11_command_1 : decode cX11_command 1 = .ok (.getfield 44, 3) := by decide +kernel
theorem dX11_command_4 : decode cX11_command 4 = .ok (.getfield 88, 3) := by decide +kernel
theorem dX11_command_7 : decode cX11_command 7 = .ok (.ifCond .ne 20, 3) := by decide +kernel
theorem dX11_command_10 : decode cX11_command 10 = .ok (.aload_n 0, 1) := by decide +kernel
theorem dX11_command_11 : decode cX11_command 11 = .ok (.getfield 37, 3) := by decide +kernel
theorem dX11_command_14 : decode cX11_command 14 = .ok (.iload_n 1, 1) := by decide +kernel
theorem dX11_command_15 : decode cX11_command 15 = .ok (.iload_n 2, 1) := by decide +kernel
theorem dX11_command_16 : decode cX11_command 16 = .ok (.iload_n 3, 1) := by decide +kernel
theorem dX11_command_17 : decode cX11_command 17 = .ok (.invokevirtual 149, 3) := by decide +kernel
theorem dX11_command_20 : decode cX11_command 20 = .ok (.ifCond .eq 7, 3) := by decide +kernel
theorem dX11_command_23 : decode cX11_command 23 = .ok (.iconst 1, 1) := by decide +kernel
theorem dX11_command_24 : decode cX11_command 24 = .ok (.goto 4, 3) := by decide +kernel
theorem dX11_command_28 : decode cX11_command 28 = .ok (.ireturn, 1) := by decide +kernel
theorem dX11_command_27 : decode cX11_command 27 = .ok (.iconst 0, 1) := by decide +kernel
theorem dX11_define_0 : decode cX11_define 0 = .ok (.aload_n 0, 1) := by decide +kernel
theorem dX11_define_1 : decode cX11_define 1 = .ok (.getfield 44, 3) := by decide +kernel
theorem dX11_define_4 : decode cX11_define 4 = .ok (.getfield 88, 3) := by decide +kernel
theorem dX11_define_7 : decode cX11_define 7 = .ok (.ifCond .eq 11, 3) := by decide +kernel
theorem dX11_define_18 : decode cX11_define 18 = .ok (.aload_n 0, 1) := by decide +kernel
theorem dX11_define_19 : decode cX11_define 19 = .ok (.getfield 50, 3) := by decide +kernel
theorem dX11_define_22 : decode cX11_define 22 = .ok (.aload_n 0, 1) := by decide +kernel
theorem dX11_define_23 : decode cX11_define 23 = .ok (.getfield 114, 3) := by decide +kernel
theorem dX11_define_26 : decode cX11_define 26 = .ok (.aaload, 1) := by decide +kernel
theorem dX11_define_27 : decode cX11_define 27 = .ok (.aload_n 0, 1) := by decide +kernel
theorem dX11_define_28 : decode cX11_define 28 = .ok (.getfield 14, 3) := by decide +kernel
theorem dX11_define_31 : decode cX11_define 31 = .ok (.invokevirtual 117, 3) := by decide +kernel
theorem dX11_define_34 : decode cX11_define 34 = .ok (.istore_n 2, 1) := by decide +kernel
theorem dX11_define_35 : decode cX11_define 35 = .ok (.aload_n 0, 1) := by decide +kernel
theorem dX11_define_36 : decode cX11_define 36 = .ok (.getfield 14, 3) := by decide +kernel
theorem dX11_define_39 : decode cX11_define 39 = .ok (.iconst 0, 1) := by decide +kernel
theorem dX11_define_40 : decode cX11_define 40 = .ok (.putfield 80, 3) := by decide +kernel
theorem dX11_define_43 : decode cX11_define 43 = .ok (.iload_n 2, 1) := by decide +kernel
theorem dX11_define_44 : decode cX11_define 44 = .ok (.ifCond .eq 14, 3) := by decide +kernel
theorem dX11_define_58 : decode cX11_define 58 = .ok (.new 124, 3) := by decide +kernel
theorem dX11_define_61 : decode cX11_define 61 = .ok (.dup, 1) := by decide +kernel
theorem dX11_define_62 : decode cX11_define 62 = .ok (.invokespecial 126, 3) := by decide +kernel
theorem dX11_define_65 : decode cX11_define 65 = .ok (.athrow, 1) := by decide +kernel
theorem dX11_hook_0 : decode cX11_hook 0 = .ok (.aload_n 0, 1) := by decide +kernel
theorem dX11_hook_1 : decode cX11_hook 1 = .ok (.getfield 44, 3) := by decide +kernel
theorem dX11_hook_4 : decode cX11_hook 4 = .ok (.getfield 88, 3) := by decide +kernel
theorem dX11_hook_7 : decode cX11_hook 7 = .ok (.ifCond .eq 11, 3) := by decide +kernel
theorem dX11_hook_18 : decode cX11_hook 18 = .ok (.aload_n 0, 1) := by decide +kernel
theorem dX11_hook_19 : decode cX11_hook 19 = .ok (.getfield 61, 3) := by decide +kernel
theorem dX11_hook_22 : decode cX11_hook 22 = .ok (.aload_n 0, 1) := by decide +kernel
theorem dX11_hook_23 : decode cX11_hook 23 = .ok (.getfield 130, 3) := by decide +kernel
theorem dX11_hook_26 : decode cX11_hook 26 = .ok (.aaload, 1) := by decide +kernel
theorem dX11_hook_27 : decode cX11_hook 27 = .ok (.aload_n 0, 1) := by decide +kernel
theorem dX11_hook_28 : decode cX11_hook 28 = .ok (.getfield 14, 3) := by decide +kernel
theorem dX11_hook_31 : decode cX11_hook 31 = .ok (.invokevirtual 133, 3) := by decide +kernel
theorem dX11_hook_34 : decode cX11_hook 34 = .ok (.istore_n 3, 1) := by decide +kernel
theorem dX11_hook_35 : decode cX11_hook 35 = .ok (.aload_n 0, 1) := by decide +kernel
theorem dX11_hook_36 : decode cX11_hook 36 = .ok (.getfield 14, 3) := by decide +kernel
theorem dX11_hook_39 : decode cX11_hook 39 = .ok (.iconst 0, 1) := by decide +kernel
theorem dX11_hook_40 : decode cX11_hook 40 = .ok (.putfield 80, 3) := by decide +kernel
theorem dX11_hook_43 : decode cX11_hook 43 = .ok (.iload_n 3, 1) := by decide +kernel
theorem dX11_hook_44 : decode cX11_hook 44 = .ok (.ifCond .eq 14, 3) := by decide +kernel
theorem dX11_hook_47 : decode cX11_hook 47 = .ok (.aload_n 0, 1) := by decide +kernel
theorem dX11_hook_48 : decode cX11_hook 48 = .ok (.getfield 37, 3) := by decide +kernel
theorem dX11_hook_51 : decode cX11_hook 51 = .ok (.iload_n 2, 1) := by decide +kernel
theorem dX11_hook_52 : decode cX11_hook 52 = .ok (.invokevirtual 120, 3) := by decide +kernel
theorem dX11_hook_55 : decode cX11_hook 55 = .ok (.ifCond .ne 11, 3) := by decide +kernel
theorem dX11_hook_66 : decode cX11_hook 66 = .ok (.aload_n 0, 1) := by decide +kernel
theorem dX11_hook_67 : decode cX11_hook 67 = .ok (.getfield 130, 3) := by decide +kernel
theorem dX11_hook_70 : decode cX11_hook 70 = .ok (.bipush 8, 2) := by decide +kernel
theorem dX11_hook_72 : decode cX11_hook 72 = .ok (.if_icmp .lt 11, 3) := by decide +kernel
theorem dX11_hook_83 : decode cX11_hook 83 = .ok (.aload_n 0, 1) := by decide +kernel
theorem dX11_hook_84 : decode cX11_hook 84 = .ok (.getfield 66, 3) := by decide +kernel
theorem dX11_hook_87 : decode cX11_hook 87 = .ok (.aload_n 0, 1) := by decide +kernel
theorem dX11_hook_88 : decode cX11_hook 88 = .ok (.getfield 130, 3) := by decide +kernel
theorem dX11_hook_91 : decode cX11_hook 91 = .ok (.iload_n 1, 1) := by decide +kernel
theorem dX11_hook_92 : decode cX11_hook 92 = .ok (.bastore, 1) := by decide +kernel
theorem dX11_hook_93 : decode cX11_hook 93 = .ok (.aload_n 0, 1) := by decide +kernel
theorem dX11_hook_94 : decode cX11_hook 94 = .ok (.getfield 70, 3) := by decide +kernel
theorem dX11_hook_97 : decode cX11_hook 97 = .ok (.aload_n 0, 1) := by decide +kernel
theorem dX11_hook_98 : decode cX11_hook 98 = .ok (.getfield 130, 3) := by decide +kernel
theorem dX11_hook_101 : decode cX11_hook 101 = .ok (.iload_n 2, 1) := by decide +kernel
theorem dX11_hook_102 : decode cX11_hook 102 = .ok (.iastore, 1) := by decide +kernel
theorem dX11_hook_103 : decode cX11_hook 103 = .ok (.aload_n 0, 1) := by decide +kernel
theorem dX11_hook_104 : decode cX11_hook 104 = .ok (.dup, 1) := by decide +kernel
theorem dX11_hook_105 : decode cX11_hook 105 = .ok (.getfield 130, 3) := by decide +kernel
theorem dX11_hook_108 : decode cX11_hook 108 = .ok (.iconst 1, 1) := by decide +kernel
theorem dX11_hook_109 : decode cX11_hook 109 = .ok (.iadd, 1) := by decide +kernel
theorem dX11_hook_110 : decode cX11_hook 110 = .ok (.putfield 130, 3) := by decide +kernel
theorem dX11_hook_113 : decode cX11_hook 113 = .ok (.aload_n 0, 1) := by decide +kernel
theorem dX11_hook_114 : decode cX11_hook 114 = .ok (.getfield 130, 3) := by decide +kernel
theorem dX11_hook_117 : decode cX11_hook 117 = .ok (.iconst 1, 1) := by decide +kernel
theorem dX11_hook_118 : decode cX11_hook 118 = .ok (.isub, 1) := by decide +kernel
theorem dX11_hook_119 : decode cX11_hook 119 = .ok (.ireturn, 1) := by decide +kernel
theorem dX11_hook_58 : decode cX11_hook 58 = .ok (.new 124, 3) := by decide +kernel
theorem dX11_hook_61 : decode cX11_hook 61 = .ok (.dup, 1) := by decide +kernel
theorem dX11_hook_62 : decode cX11_hook 62 = .ok (.invokespecial 126, 3) := by decide +kernel
theorem dX11_hook_65 : decode cX11_hook 65 = .ok (.athrow, 1) := by decide +kernel
theorem dX11_filter_0 : decode cX11_filter 0 = .ok (.aload_n 0, 1) := by decide +kernel
theorem dX11_filter_1 : decode cX11_filter 1 = .ok (.getfield 44, 3) := by decide +kernel
theorem dX11_filter_4 : decode cX11_filter 4 = .ok (.getfield 88, 3) := by decide +kernel
theorem dX11_filter_7 : decode cX11_filter 7 = .ok (.ifCond .eq 11, 3) := by decide +kernel
theorem dX11_filter_18 : decode cX11_filter 18 = .ok (.aload_n 0, 1) := by decide +kernel
theorem dX11_filter_19 : decode cX11_filter 19 = .ok (.getfield 77, 3) := by decide +kernel
theorem dX11_filter_22 : decode cX11_filter 22 = .ok (.aload_n 0, 1) := by decide +kernel
theorem dX11_filter_23 : decode cX11_filter 23 = .ok (.getfield 14, 3) := by decide +kernel
theorem dX11_filter_26 : decode cX11_filter 26 = .ok (.invokevirtual 133, 3) := by decide +kernel
theorem dX11_filter_29 : decode cX11_filter 29 = .ok (.istore_n 1, 1) := by decide +kernel
theorem dX11_filter_30 : decode cX11_filter 30 = .ok (.aload_n 0, 1) := by decide +kernel
theorem dX11_filter_31 : decode cX11_filter 31 = .ok (.getfield 14, 3) := by decide +kernel
theorem dX11_filter_34 : decode cX11_filter 34 = .ok (.iconst 0, 1) := by decide +kernel
theorem dX11_filter_35 : decode cX11_filter 35 = .ok (.putfield 80, 3) := by decide +kernel
theorem dX11_filter_38 : decode cX11_filter 38 = .ok (.iload_n 1, 1) := by decide +kernel
theorem dX11_filter_39 : decode cX11_filter 39 = .ok (.ifCond .ne 11, 3) := by decide +kernel
theorem dX11_filter_50 : decode cX11_filter 50 = .ok (.aload_n 0, 1) := by decide +kernel
theorem dX11_filter_51 : decode cX11_filter 51 = .ok (.getfield 73, 3) := by decide +kernel
theorem dX11_filter_54 : decode cX11_filter 54 = .ok (.astore_n 2, 1) := by decide +kernel
theorem dX11_filter_55 : decode cX11_filter 55 = .ok (.aload_n 0, 1) := by decide +kernel
theorem dX11_filter_56 : decode cX11_filter 56 = .ok (.aload_n 0, 1) := by decide +kernel
theorem dX11_filter_57 : decode cX11_filter 57 = .ok (.getfield 77, 3) := by decide +kernel
theorem dX11_filter_60 : decode cX11_filter 60 = .ok (.putfield 73, 3) := by decide +kernel
theorem dX11_filter_63 : decode cX11_filter 63 = .ok (.aload_n 0, 1) := by decide +kernel
theorem dX11_filter_64 : decode cX11_filter 64 = .ok (.aload_n 2, 1) := by decide +kernel
theorem dX11_filter_65 : decode cX11_filter 65 = .ok (.putfield 77, 3) := by decide +kernel
theorem dX11_filter_68 : decode cX11_filter 68 = .ok (.iconst 0, 1) := by decide +kernel
theorem dX11_filter_69 : decode cX11_filter 69 = .ok (.istore_n 3, 1) := by decide +kernel
theorem dX11_filter_70 : decode cX11_filter 70 = .ok (.iconst 0, 1) := by decide +kernel
theorem dX11_filter_71 : decode cX11_filter 71 = .ok (.istore 4, 2) := by decide +kernel
theorem dX11_filter_73 : decode cX11_filter 73 = .ok (.iload 4, 2) := by decide +kernel
theorem dX11_filter_75 : decode cX11_filter 75 = .ok (.aload_n 0, 1) := by decide +kernel
theorem dX11_filter_76 : decode cX11_filter 76 = .ok (.getfield 30, 3) := by decide +kernel
theorem dX11_filter_79 : decode cX11_filter 79 = .ok (.getfield 134, 3) := by decide +kernel
theorem dX11_filter_82 : decode cX11_filter 82 = .ok (.if_icmp .ge 35, 3) := by decide +kernel
theorem dX11_filter_117 : decode cX11_filter 117 = .ok (.iload_n 3, 1) := by decide +kernel
theorem dX11_filter_118 : decode cX11_filter 118 = .ok (.ireturn, 1) := by decide +kernel
theorem dX7_tell_0 : decode cX7_tell 0 = .ok (.aload_n 0, 1) := by decide +kernel
theorem dX7_tell_1 : decode cX7_tell 1 = .ok (.getfield 75, 3) := by decide +kernel
theorem dX7_tell_4 : decode cX7_tell 4 = .ok (.bipush 64, 2) := by decide +kernel
theorem dX7_tell_6 : decode cX7_tell 6 = .ok (.irem, 1) := by decide +kernel
theorem dX7_tell_7 : decode cX7_tell 7 = .ok (.iconst 4, 1) := by decide +kernel
theorem dX7_tell_8 : decode cX7_tell 8 = .ok (.imul, 1) := by decide +kernel
theorem dX7_tell_9 : decode cX7_tell 9 = .ok (.istore 5, 2) := by decide +kernel
theorem dX7_tell_11 : decode cX7_tell 11 = .ok (.aload_n 0, 1) := by decide +kernel
theorem dX7_tell_12 : decode cX7_tell 12 = .ok (.getfield 26, 3) := by decide +kernel
theorem dX7_tell_15 : decode cX7_tell 15 = .ok (.iload 5, 2) := by decide +kernel
theorem dX7_tell_17 : decode cX7_tell 17 = .ok (.iload_n 1, 1) := by decide +kernel
theorem dX7_tell_18 : decode cX7_tell 18 = .ok (.iastore, 1) := by decide +kernel
theorem dX7_tell_19 : decode cX7_tell 19 = .ok (.aload_n 0, 1) := by decide +kernel
theorem dX7_tell_20 : decode cX7_tell 20 = .ok (.getfield 26, 3) := by decide +kernel
theorem dX7_tell_23 : decode cX7_tell 23 = .ok (.iload 5, 2) := by decide +kernel
theorem dX7_tell_25 : decode cX7_tell 25 = .ok (.iconst 1, 1) := by decide +kernel
theorem dX7_tell_26 : decode cX7_tell 26 = .ok (.iadd, 1) := by decide +kernel
theorem dX7_tell_27 : decode cX7_tell 27 = .ok (.iload_n 2, 1) := by decide +kernel
theorem dX7_tell_28 : decode cX7_tell 28 = .ok (.iastore, 1) := by decide +kernel
theorem dX7_tell_29 : decode cX7_tell 29 = .ok (.aload_n 0, 1) := by decide +kernel
theorem dX7_tell_30 : decode cX7_tell 30 = .ok (.getfield 26, 3) := by decide +kernel
theorem dX7_tell_33 : decode cX7_tell 33 = .ok (.iload 5, 2) := by decide +kernel
theorem dX7_tell_35 : decode cX7_tell 35 = .ok (.iconst 2, 1) := by decide +kernel
theorem dX7_tell_36 : decode cX7_tell 36 = .ok (.iadd, 1) := by decide +kernel
theorem dX7_tell_37 : decode cX7_tell 37 = .ok (.iload_n 3, 1) := by decide +kernel
theorem dX7_tell_38 : decode cX7_tell 38 = .ok (.iastore, 1) := by decide +kernel
theorem dX7_tell_39 : decode cX7_tell 39 = .ok (.aload_n 0, 1) := by decide +kernel
theorem dX7_tell_40 : decode cX7_tell 40 = .ok (.getfield 26, 3) := by decide +kernel
theorem dX7_tell_43 : decode cX7_tell 43 = .ok (.iload 5, 2) := by decide +kernel
theorem dX7_tell_45 : decode cX7_tell 45 = .ok (.iconst 3, 1) := by decide +kernel
theorem dX7_tell_46 : decode cX7_tell 46 = .ok (.iadd, 1) := by decide +kernel
theorem dX7_tell_47 : decode cX7_tell 47 = .ok (.iload 4, 2) := by decide +kernel
theorem dX7_tell_49 : decode cX7_tell 49 = .ok (.iastore, 1) := by decide +kernel
theorem dX7_tell_50 : decode cX7_tell 50 = .ok (.aload_n 0, 1) := by decide +kernel
theorem dX7_tell_51 : decode cX7_tell 51 = .ok (.dup, 1) := by decide +kernel
theorem dX7_tell_52 : decode cX7_tell 52 = .ok (.getfield 75, 3) := by decide +kernel
theorem dX7_tell_55 : decode cX7_tell 55 = .ok (.iconst 1, 1) := by decide +kernel
theorem dX7_tell_56 : decode cX7_tell 56 = .ok (.iadd, 1) := by decide +kernel
theorem dX7_tell_57 : decode cX7_tell 57 = .ok (.putfield 75, 3) := by decide +kernel
theorem dX7_tell_60 : decode cX7_tell 60 = .ok (.return_, 1) := by decide +kernel
theorem dX7_clear_0 : decode cX7_clear 0 = .ok (.aload_n 0, 1) := by decide +kernel
theorem dX7_clear_1 : decode cX7_clear 1 = .ok (.iload_n 1, 1) := by decide +kernel
theorem dX7_clear_2 : decode cX7_clear 2 = .ok (.putfield 29, 3) := by decide +kernel
theorem dX7_clear_5 : decode cX7_clear 5 = .ok (.aload_n 0, 1) := by decide +kernel
theorem dX7_clear_6 : decode cX7_clear 6 = .ok (.iconst 0, 1) := by decide +kernel
theorem dX7_clear_7 : decode cX7_clear 7 = .ok (.putfield 33, 3) := by decide +kernel
theorem dX7_clear_10 : decode cX7_clear 10 = .ok (.aload_n 0, 1) := by decide +kernel
theorem dX7_clear_11 : decode cX7_clear 11 = .ok (.iconst 0, 1) := by decide +kernel
theorem dX7_clear_12 : decode cX7_clear 12 = .ok (.putfield 36, 3) := by decide +kernel
theorem dX7_clear_15 : decode cX7_clear 15 = .ok (.aload_n 0, 1) := by decide +kernel
theorem dX7_clear_16 : decode cX7_clear 16 = .ok (.iconst 0, 1) := by decide +kernel
theorem dX7_clear_17 : decode cX7_clear 17 = .ok (.putfield 39, 3) := by decide +kernel
theorem dX7_clear_20 : decode cX7_clear 20 = .ok (.aload_n 0, 1) := by decide +kernel
theorem dX7_clear_21 : decode cX7_clear 21 = .ok (.iconst 0, 1) := by decide +kernel
theorem dX7_clear_22 : decode cX7_clear 22 = .ok (.putfield 42, 3) := by decide +kernel
theorem dX7_clear_25 : decode cX7_clear 25 = .ok (.aload_n 0, 1) := by decide +kernel
theorem dX7_clear_26 : decode cX7_clear 26 = .ok (.iconst 0, 1) := by decide +kernel
theorem dX7_clear_27 : decode cX7_clear 27 = .ok (.putfield 45, 3) := by decide +kernel
theorem dX7_clear_30 : decode cX7_clear 30 = .ok (.aload_n 0, 1) := by decide +kernel
theorem dX7_clear_31 : decode cX7_clear 31 = .ok (.iconst 1, 1) := by decide +kernel
theorem dX7_clear_32 : decode cX7_clear 32 = .ok (.putfield 48, 3) := by decide +kernel
theorem dX7_clear_35 : decode cX7_clear 35 = .ok (.iconst 0, 1) := by decide +kernel
theorem dX7_clear_36 : decode cX7_clear 36 = .ok (.istore_n 2, 1) := by decide +kernel
theorem dX7_clear_37 : decode cX7_clear 37 = .ok (.iload_n 2, 1) := by decide +kernel
theorem dX7_clear_38 : decode cX7_clear 38 = .ok (.aload_n 0, 1) := by decide +kernel
theorem dX7_clear_39 : decode cX7_clear 39 = .ok (.getfield 11, 3) := by decide +kernel
theorem dX7_clear_42 : decode cX7_clear 42 = .ok (.arraylength, 1) := by decide +kernel
theorem dX7_clear_43 : decode cX7_clear 43 = .ok (.if_icmp .ge 19, 3) := by decide +kernel
theorem dX7_clear_46 : decode cX7_clear 46 = .ok (.aload_n 0, 1) := by decide +kernel
theorem dX7_clear_47 : decode cX7_clear 47 = .ok (.getfield 11, 3) := by decide +kernel
theorem dX7_clear_50 : decode cX7_clear 50 = .ok (.iload_n 2, 1) := by decide +kernel
theorem dX7_clear_51 : decode cX7_clear 51 = .ok (.aaload, 1) := by decide +kernel
theorem dX7_clear_52 : decode cX7_clear 52 = .ok (.iconst 0, 1) := by decide +kernel
theorem dX7_clear_53 : decode cX7_clear 53 = .ok (.putfield 52, 3) := by decide +kernel
theorem dX7_clear_56 : decode cX7_clear 56 = .ok (.iinc 2 1, 3) := by decide +kernel
theorem dX7_clear_59 : decode cX7_clear 59 = .ok (.goto (-22), 3) := by decide +kernel
theorem dX7_clear_62 : decode cX7_clear 62 = .ok (.return_, 1) := by decide +kernel
theorem dX7_endIfNothingIsLeft_0 : decode cX7_endIfNothingIsLeft 0 = .ok (.aload_n 0, 1) := by decide +kernel
theorem dX7_endIfNothingIsLeft_1 : decode cX7_endIfNothingIsLeft 1 = .ok (.getfield 42, 3) := by decide +kernel
theorem dX7_endIfNothingIsLeft_4 : decode cX7_endIfNothingIsLeft 4 = .ok (.aload_n 0, 1) := by decide +kernel
theorem dX7_endIfNothingIsLeft_5 : decode cX7_endIfNothingIsLeft 5 = .ok (.getfield 36, 3) := by decide +kernel
theorem dX7_endIfNothingIsLeft_8 : decode cX7_endIfNothingIsLeft 8 = .ok (.if_icmp .ge 4, 3) := by decide +kernel
theorem dX7_endIfNothingIsLeft_12 : decode cX7_endIfNothingIsLeft 12 = .ok (.iconst 0, 1) := by decide +kernel
theorem dX7_endIfNothingIsLeft_13 : decode cX7_endIfNothingIsLeft 13 = .ok (.istore_n 1, 1) := by decide +kernel
theorem dX7_endIfNothingIsLeft_14 : decode cX7_endIfNothingIsLeft 14 = .ok (.iconst 0, 1) := by decide +kernel
theorem dX7_endIfNothingIsLeft_15 : decode cX7_endIfNothingIsLeft 15 = .ok (.istore_n 2, 1) := by decide +kernel
theorem dX7_endIfNothingIsLeft_16 : decode cX7_endIfNothingIsLeft 16 = .ok (.iload_n 2, 1) := by decide +kernel
theorem dX7_endIfNothingIsLeft_17 : decode cX7_endIfNothingIsLeft 17 = .ok (.aload_n 0, 1) := by decide +kernel
theorem dX7_endIfNothingIsLeft_18 : decode cX7_endIfNothingIsLeft 18 = .ok (.getfield 11, 3) := by decide +kernel
theorem dX7_endIfNothingIsLeft_21 : decode cX7_endIfNothingIsLeft 21 = .ok (.arraylength, 1) := by decide +kernel
theorem dX7_endIfNothingIsLeft_22 : decode cX7_endIfNothingIsLeft 22 = .ok (.if_icmp .ge 21, 3) := by decide +kernel
theorem dX7_endIfNothingIsLeft_25 : decode cX7_endIfNothingIsLeft 25 = .ok (.iload_n 1, 1) := by decide +kernel
theorem dX7_endIfNothingIsLeft_26 : decode cX7_endIfNothingIsLeft 26 = .ok (.aload_n 0, 1) := by decide +kernel
theorem dX7_endIfNothingIsLeft_27 : decode cX7_endIfNothingIsLeft 27 = .ok (.getfield 11, 3) := by decide +kernel
theorem dX7_endIfNothingIsLeft_30 : decode cX7_endIfNothingIsLeft 30 = .ok (.iload_n 2, 1) := by decide +kernel
theorem dX7_endIfNothingIsLeft_31 : decode cX7_endIfNothingIsLeft 31 = .ok (.aaload, 1) := by decide +kernel
theorem dX7_endIfNothingIsLeft_32 : decode cX7_endIfNothingIsLeft 32 = .ok (.getfield 52, 3) := by decide +kernel
theorem dX7_endIfNothingIsLeft_35 : decode cX7_endIfNothingIsLeft 35 = .ok (.iadd, 1) := by decide +kernel
theorem dX7_endIfNothingIsLeft_36 : decode cX7_endIfNothingIsLeft 36 = .ok (.istore_n 1, 1) := by decide +kernel
theorem dX7_endIfNothingIsLeft_37 : decode cX7_endIfNothingIsLeft 37 = .ok (.iinc 2 1, 3) := by decide +kernel
theorem dX7_endIfNothingIsLeft_40 : decode cX7_endIfNothingIsLeft 40 = .ok (.goto (-24), 3) := by decide +kernel
theorem dX7_endIfNothingIsLeft_43 : decode cX7_endIfNothingIsLeft 43 = .ok (.aload_n 0, 1) := by decide +kernel
theorem dX7_endIfNothingIsLeft_44 : decode cX7_endIfNothingIsLeft 44 = .ok (.iconst 0, 1) := by decide +kernel
theorem dX7_endIfNothingIsLeft_45 : decode cX7_endIfNothingIsLeft 45 = .ok (.putfield 48, 3) := by decide +kernel
theorem dX7_endIfNothingIsLeft_48 : decode cX7_endIfNothingIsLeft 48 = .ok (.aload_n 0, 1) := by decide +kernel
theorem dX7_endIfNothingIsLeft_49 : decode cX7_endIfNothingIsLeft 49 = .ok (.iconst 5, 1) := by decide +kernel
theorem dX7_endIfNothingIsLeft_50 : decode cX7_endIfNothingIsLeft 50 = .ok (.aload_n 0, 1) := by decide +kernel
theorem dX7_endIfNothingIsLeft_51 : decode cX7_endIfNothingIsLeft 51 = .ok (.getfield 45, 3) := by decide +kernel
theorem dX7_endIfNothingIsLeft_54 : decode cX7_endIfNothingIsLeft 54 = .ok (.iload_n 1, 1) := by decide +kernel
theorem dX7_endIfNothingIsLeft_55 : decode cX7_endIfNothingIsLeft 55 = .ok (.iconst 0, 1) := by decide +kernel
theorem dX7_endIfNothingIsLeft_56 : decode cX7_endIfNothingIsLeft 56 = .ok (.invokevirtual 64, 3) := by decide +kernel
theorem dX7_endIfNothingIsLeft_59 : decode cX7_endIfNothingIsLeft 59 = .ok (.return_, 1) := by decide +kernel
theorem dX11_start_0 : decode cX11_start 0 = .ok (.aload_n 0, 1) := by decide +kernel
theorem dX11_start_1 : decode cX11_start 1 = .ok (.getfield 44, 3) := by decide +kernel
theorem dX11_start_4 : decode cX11_start 4 = .ok (.getfield 88, 3) := by decide +kernel
theorem dX11_start_7 : decode cX11_start 7 = .ok (.ifCond .eq 11, 3) := by decide +kernel
theorem dX11_start_18 : decode cX11_start 18 = .ok (.iload_n 1, 1) := by decide +kernel
theorem dX11_start_19 : decode cX11_start 19 = .ok (.iconst 1, 1) := by decide +kernel
theorem dX11_start_20 : decode cX11_start 20 = .ok (.if_icmp .lt 8, 3) := by decide +kernel
theorem dX11_start_28 : decode cX11_start 28 = .ok (.new 124, 3) := by decide +kernel
theorem dX11_start_31 : decode cX11_start 31 = .ok (.dup, 1) := by decide +kernel
theorem dX11_start_32 : decode cX11_start 32 = .ok (.invokespecial 126, 3) := by decide +kernel
theorem dX11_start_35 : decode cX11_start 35 = .ok (.athrow, 1) := by decide +kernel
theorem dX11_start_23 : decode cX11_start 23 = .ok (.iload_n 1, 1) := by decide +kernel
theorem dX11_start_24 : decode cX11_start 24 = .ok (.iconst 3, 1) := by decide +kernel
theorem dX11_start_25 : decode cX11_start 25 = .ok (.if_icmp .le 11, 3) := by decide +kernel
theorem dX11_start_36 : decode cX11_start 36 = .ok (.aload_n 0, 1) := by decide +kernel
theorem dX11_start_37 : decode cX11_start 37 = .ok (.getfield 44, 3) := by decide +kernel
theorem dX11_start_40 : decode cX11_start 40 = .ok (.iload_n 1, 1) := by decide +kernel
theorem dX11_start_41 : decode cX11_start 41 = .ok (.invokevirtual 226, 3) := by decide +kernel
theorem dX11_start_44 : decode cX11_start 44 = .ok (.iconst 0, 1) := by decide +kernel
theorem dX11_start_45 : decode cX11_start 45 = .ok (.istore_n 2, 1) := by decide +kernel
theorem dX11_start_46 : decode cX11_start 46 = .ok (.iload_n 2, 1) := by decide +kernel
theorem dX11_start_47 : decode cX11_start 47 = .ok (.aload_n 0, 1) := by decide +kernel
theorem dX11_start_48 : decode cX11_start 48 = .ok (.getfield 30, 3) := by decide +kernel
theorem dX11_start_51 : decode cX11_start 51 = .ok (.getfield 134, 3) := by decide +kernel
theorem dX11_start_54 : decode cX11_start 54 = .ok (.if_icmp .ge 46, 3) := by decide +kernel
theorem dX11_start_100 : decode cX11_start 100 = .ok (.aload_n 0, 1) := by decide +kernel
theorem dX11_start_101 : decode cX11_start 101 = .ok (.getfield 44, 3) := by decide +kernel
theorem dX11_start_104 : decode cX11_start 104 = .ok (.iconst 0, 1) := by decide +kernel
theorem dX11_start_105 : decode cX11_start 105 = .ok (.aload_n 0, 1) := by decide +kernel
theorem dX11_start_106 : decode cX11_start 106 = .ok (.getfield 44, 3) := by decide +kernel
theorem dX11_start_109 : decode cX11_start 109 = .ok (.getfield 232, 3) := by decide +kernel
theorem dX11_start_112 : decode cX11_start 112 = .ok (.iload_n 1, 1) := by decide +kernel
theorem dX11_start_113 : decode cX11_start 113 = .ok (.iconst 0, 1) := by decide +kernel
theorem dX11_start_114 : decode cX11_start 114 = .ok (.invokevirtual 235, 3) := by decide +kernel
theorem dX11_start_117 : decode cX11_start 117 = .ok (.aload_n 0, 1) := by decide +kernel
theorem dX11_start_118 : decode cX11_start 118 = .ok (.getfield 44, 3) := by decide +kernel
theorem dX11_start_121 : decode cX11_start 121 = .ok (.invokevirtual 239, 3) := by decide +kernel
theorem dX11_start_124 : decode cX11_start 124 = .ok (.aload_n 0, 1) := by decide +kernel
theorem dX11_start_125 : decode cX11_start 125 = .ok (.getfield 44, 3) := by decide +kernel
theorem dX11_start_128 : decode cX11_start 128 = .ok (.getfield 232, 3) := by decide +kernel
theorem dX11_start_131 : decode cX11_start 131 = .ok (.ireturn, 1) := by decide +kernel
set_option maxRecDepth 20000 in
theorem ggX9_take_X9_holds : GoodIn wsX9_take wsX9_holds := goodIn_r _ [11, 6, 5, 1, 12, 13, 14, 10, 15, 4, 16, 17, 18, 19, 20, 21, 22, 23, 24, 25, 26, 27] (by decide +kernel) (by decide +kernel)
set_option maxRecDepth 20000 in
theorem gX9_take_X9_holds : GoodIn wsX9_take (wsV RX9 25 RX9 yX9_holds wsX9_holds) := goodIn_app (goodIn_of _ (by decide +kernel)) ggX9_take_X9_holds
set_option maxRecDepth 20000 in
theorem ggX8_append_X8_has : GoodIn wsX8_append wsX8_has := goodIn_r _ [8] (by decide +kernel) (by decide +kernel)
set_option maxRecDepth 20000 in
theorem gX8_append_X8_has : GoodIn wsX8_append (wsV RX8 21 RX8 yX8_has wsX8_has) := goodIn_app (goodIn_of _ (by decide +kernel)) ggX8_append_X8_has
set_option maxRecDepth 20000 in
theorem ggX11_command_X8_append : GoodIn wsX11_command wsX8_append := goodIn_r _ [8, 9, 10, 11, 12, 13, 14, 7, 15, 41, 42, 43] (by decide +kernel) (by decide +kernel)
set_option maxRecDepth 20000 in
theorem gX11_command_X8_append : GoodIn wsX11_command (wsV RX11 149 RX8 yX8_append wsX8_append) := goodIn_app (goodIn_of _ (by decide +kernel)) ggX11_command_X8_append
set_option maxRecDepth 20000 in
theorem ggX11_define_X2_take : GoodIn wsX11_define wsX2_take := goodIn_r _ [19, 20, 21, 22, 23, 24, 25, 26, 27, 18, 28, 29, 30, 31, 32, 33, 34, 35, 36, 37, 38, 39, 40, 41, 42, 43, 44, 45, 46, 47, 48, 49, 50, 51, 52, 53, 54, 55, 56, 57, 58, 59, 60, 61, 62, 63, 64, 65, 66, 67, 68, 69, 70, 71, 72, 73, 74, 75, 76, 77, 78, 79, 80, 81, 82, 83, 84, 85, 86, 87, 88, 89, 90, 91, 92, 93, 94, 95, 96, 97, 98, 99, 100, 101, 102, 103, 104, 105, 106, 107, 108, 109, 110, 111, 112, 113, 114, 115, 116, 117, 118, 119, 120, 121, 122, 123, 124, 125, 126, 127, 128, 129, 130, 131, 132, 133, 134, 135, 136, 137, 138, 139, 140, 141, 142, 143, 144, 145, 146, 147, 148, 149, 150, 151, 152, 153, 154, 155, 156, 157, 158, 159, 160, 161, 194, 195, 196, 197, 198, 199, 200, 201, 202, 203, 204, 192, 193] (by decide +kernel) (by decide +kernel)
set_option maxRecDepth 20000 in
theorem gX11_define_X2_take : GoodIn wsX11_define (wsV RX11 117 RX2 yX2_take wsX2_take) := goodIn_app (goodIn_of _ (by decide +kernel)) ggX11_define_X2_take
set_option maxRecDepth 20000 in
theorem ggX11_hook_X9_take : GoodIn wsX11_hook wsX9_take := goodIn_r _ [20, 21, 22, 23, 24, 25, 26, 27, 28, 29, 19, 30, 31, 32, 33, 34, 35, 36, 37, 38, 39, 40, 41, 42, 75, 76, 77, 78, 73, 74] (by decide +kernel) (by decide +kernel)
set_option maxRecDepth 20000 in
theorem gX11_hook_X9_take : GoodIn wsX11_hook (wsV RX11 133 RX9 yX9_take wsX9_take) := goodIn_app (goodIn_of _ (by decide +kernel)) ggX11_hook_X9_take
set_option maxRecDepth 20000 in
theorem ggX11_hook_X8_has : GoodIn wsX11_hook wsX8_has := goodIn_r _ [47] (by decide +kernel) (by decide +kernel)
set_option maxRecDepth 20000 in
theorem gX11_hook_X8_has : GoodIn wsX11_hook (wsV RX11 120 RX8 yX8_has wsX8_has) := goodIn_app (goodIn_of _ (by decide +kernel)) ggX11_hook_X8_has
set_option maxRecDepth 20000 in
theorem ggX11_filter_X9_take : GoodIn wsX11_filter wsX9_take := goodIn_r _ [19, 20, 21, 22, 23, 24, 25, 26, 27, 28, 18, 29, 30, 31, 32, 33, 34, 35, 36, 37, 38, 39, 40, 41, 80, 81, 82, 83, 68, 69] (by decide +kernel) (by decide +kernel)
set_option maxRecDepth 20000 in
theorem gX11_filter_X9_take : GoodIn wsX11_filter (wsV RX11 133 RX9 yX9_take wsX9_take) := goodIn_app (goodIn_of _ (by decide +kernel)) ggX11_filter_X9_take
set_option maxRecDepth 20000 in
theorem ggX7_endIfNothingIsLeft_X7_tell : GoodIn wsX7_endIfNothingIsLeft wsX7_tell := goodIn_r _ [11, 12, 13, 14, 15, 16, 17, 18, 19, 20, 21, 22, 23, 24] (by decide +kernel) (by decide +kernel)
set_option maxRecDepth 20000 in
theorem gX7_endIfNothingIsLeft_X7_tell : GoodIn wsX7_endIfNothingIsLeft (wsV RX7 64 RX7 yX7_tell wsX7_tell) := goodIn_app (goodIn_of _ (by decide +kernel)) ggX7_endIfNothingIsLeft_X7_tell
set_option maxRecDepth 20000 in
theorem ggX11_start_X7_clear : GoodIn wsX11_start wsX7_clear := goodIn_r _ [18, 19, 20, 21, 22, 23, 24, 25, 26, 27, 79, 80, 81, 82, 83, 84, 85, 86, 87, 88, 89, 100, 101, 102, 103, 104, 105, 106, 107] (by decide +kernel) (by decide +kernel)
set_option maxRecDepth 20000 in
theorem gX11_start_X7_clear : GoodIn wsX11_start (wsV RX11 226 RX7 yX7_clear wsX7_clear) := goodIn_app (goodIn_of _ (by decide +kernel)) ggX11_start_X7_clear
set_option maxRecDepth 20000 in
theorem ggX11_start_X7_tell : GoodIn wsX11_start wsX7_tell := goodIn_r _ [57, 58, 59, 79, 80, 81, 82, 83, 84, 85, 86, 87, 88, 89] (by decide +kernel) (by decide +kernel)
set_option maxRecDepth 20000 in
theorem gX11_start_X7_tell : GoodIn wsX11_start (wsV RX11 235 RX7 yX7_tell wsX7_tell) := goodIn_app (goodIn_of _ (by decide +kernel)) ggX11_start_X7_tell
set_option maxRecDepth 20000 in
theorem ggX11_start_X7_endIfNothingIsLeft : GoodIn wsX11_start wsX7_endIfNothingIsLeft := goodIn_r _ [63, 23, 21, 26, 27, 25, 24, 64, 55, 56, 17, 57, 58, 59, 79, 80, 81, 82, 83, 84, 85, 86, 87, 88, 89, 100, 101, 102, 103, 104, 105, 106, 107] (by decide +kernel) (by decide +kernel)
set_option maxRecDepth 20000 in
theorem gX11_start_X7_endIfNothingIsLeft : GoodIn wsX11_start (wsV RX11 239 RX7 yX7_endIfNothingIsLeft wsX7_endIfNothingIsLeft) := goodIn_app (goodIn_of _ (by decide +kernel)) ggX11_start_X7_endIfNothingIsLeft
set_option maxHeartbeats 4000000 in
set_option maxRecDepth 100000 in
/-- an empty text is no expression -/
theorem c_X2_take (l : Launch) (D : va_G) (h0 : Nat) (txt : Nat) (x_chars : Nat) (x_choiceStarts : Nat) (x_kinds : Nat) (x_firstChoices : Nat) (x_open : Nat) (x_begins : Nat) (x_lengths : Nat) (x_argumentKinds : Nat) (fx : Nat → Int32) (kx : ClassId) (tch : Nat) (sz : Nat)  : Met l yX2_take wsX2_take ({ frames := 0, cells := 0, slots := 0, locals := 0 }) (va_Pc [.ref h0, .ref txt] (sj_B D [(h0, .inr (2, [.ref x_chars, .ref x_choiceStarts, .int 0, .ref x_kinds, .ref x_firstChoices, .int 0, .int 0, .ref x_open, .ref x_begins, .ref x_lengths, .ref x_argumentKinds])), (x_choiceStarts, .inl (kx, 62, .inl fx)), (txt, .inr (3, [.ref tch, .int 0]))] [(kx, .int)] sz sj_n)) (sj_Qi (S := Unit) D (fun r _ => r = 0) (fun u => [(txt, .inr (3, [.ref tch, .int 0]))]) (fun u => []) (va_A [(h0, .inr (2, [.ref x_chars, .ref x_choiceStarts, .int 0, .ref x_kinds, .ref x_firstChoices, .int 0, .int 0, .ref x_open, .ref x_begins, .ref x_lengths, .ref x_argumentKinds])), (x_choiceStarts, .inl (kx, 62, .inl fx)), (txt, .inr (3, [.ref tch, .int 0]))] sz)) 0 0 (va_A [(h0, .inr (2, [.ref x_chars, .ref x_choiceStarts, .int 0, .ref x_kinds, .ref x_firstChoices, .int 0, .int 0, .ref x_open, .ref x_begins, .ref x_lengths, .ref x_argumentKinds])), (x_choiceStarts, .inl (kx, 62, .inl fx)), (txt, .inr (3, [.ref tch, .int 0]))] sz) := by
  refine sj_met (cc := cX2_take) (maxL := 4) (ret := (some .boolean)) (by decide) rfl (Nat.le_of_ble_eq_true rfl) ?_
  intro p e s m below meth c A ls hx hb hr hml hts hown hlocks hnm hA hsz hS hH hK hE hl
  have hown : s.vm.findClass RX2 = some m.cls := hown
  have in2 : ∀ w ∈ wsX20, w ∈ wsX2_take := by decide +kernel
  have in3 : ∀ w ∈ wsX30, w ∈ wsX2_take := by decide +kernel
  have wd0 := hts (.fieldLink RX2 38 "StoryDesk$Expression" "elements" "I") (by decide +kernel)
  have wd1 := hts (.fieldLink RX2 42 "StoryDesk$Expression" "choices" "I") (by decide +kernel)
  have wd2 := hts (.fieldLink RX2 15 "StoryDesk$Expression" "choiceStarts" "[I") (by decide +kernel)
  have wd3 := hts (.fieldLink RX2 45 "StoryDesk$Expression" "parameters" "I") (by decide +kernel)
  have wd4 := hts (.fieldLink RX2 48 "StoryDesk$Letters" "length" "I") (by decide +kernel)
  have hl : lv_has ls 4 [(0, .ref h0), (1, .ref txt)] := hl
  have hH : sj_H D A ([(h0, .inr (2, [.ref x_chars, .ref x_choiceStarts, .int 0, .ref x_kinds, .ref x_firstChoices, .int 0, .int 0, .ref x_open, .ref x_begins, .ref x_lengths, .ref x_argumentKinds])), (x_choiceStarts, .inl (kx, 62, .inl fx)), (txt, .inr (3, [.ref tch, .int 0]))] ++ []) s.heap := hH
  refine lv_aload_n hx hb dX2_take_0 rfl (lv_at hl 0 rfl) ?_
  refine lv_iconst (v := 0) hx hb dX2_take_1 (by decide) ?_
  refine sj_put (D := D) (ci := 2) (v := .int 0) (ty := .int) (C := RX2) (F := TX2) (N := 11) hx hb hts in2 tyX2 tyX2_ok nmX2 hown hK hH hS 0 rfl rfl 5 (by decide) wd0 (fun _ h9 => h9) rfl (by decide +kernel) rfl rfl (Nat.le_of_ble_eq_true rfl) dX2_take_2 (fun H locs (hH : sj_H D A ([(h0, .inr (2, [.ref x_chars, .ref x_choiceStarts, .int 0, .ref x_kinds, .ref x_firstChoices, .int 0, .int 0, .ref x_open, .ref x_begins, .ref x_lengths, .ref x_argumentKinds])), (x_choiceStarts, .inl (kx, 62, .inl fx)), (txt, .inr (3, [.ref tch, .int 0]))] ++ []) H) hS => ?_)
  refine lv_aload_n hx hb dX2_take_5 rfl (lv_at hl 0 rfl) ?_
  refine lv_iconst (v := 0) hx hb dX2_take_6 (by decide) ?_
  refine sj_put (D := D) (ci := 2) (v := .int 0) (ty := .int) (C := RX2) (F := TX2) (N := 11) hx hb hts in2 tyX2 tyX2_ok nmX2 hown hK hH hS 0 rfl rfl 2 (by decide) wd1 (fun _ h9 => h9) rfl (by decide +kernel) rfl rfl (Nat.le_of_ble_eq_true rfl) dX2_take_7 (fun H locs (hH : sj_H D A ([(h0, .inr (2, [.ref x_chars, .ref x_choiceStarts, .int 0, .ref x_kinds, .ref x_firstChoices, .int 0, .int 0, .ref x_open, .ref x_begins, .ref x_lengths, .ref x_argumentKinds])), (x_choiceStarts, .inl (kx, 62, .inl fx)), (txt, .inr (3, [.ref tch, .int 0]))] ++ []) H) hS => ?_)
  refine lv_aload_n hx hb dX2_take_10 rfl (lv_at hl 0 rfl) ?_
  refine va_get (D := D) (ci := 2) (v := .ref x_choiceStarts) (C := RX2) (T := TX2) (N := 11) hx hb hts in2 hown hK hH.1 0 rfl rfl 1 (by decide) wd2 (fun _ h9 => h9) rfl dX2_take_11 ?_
  refine lv_iconst (v := 1) hx hb dX2_take_14 (by decide) ?_
  refine lv_iconst (v := 0) hx hb dX2_take_15 (by decide) ?_
  refine sj_iast hx hb hK hH hS 1 0 rfl rfl (sj_vin (by decide) (by decide)) dX2_take_16 (fun H locs hH hS => ?_)
  have hH : sj_H D A ([(h0, .inr (2, [.ref x_chars, .ref x_choiceStarts, .int 0, .ref x_kinds, .ref x_firstChoices, .int 0, .int 0, .ref x_open, .ref x_begins, .ref x_lengths, .ref x_argumentKinds])), (x_choiceStarts, .inl (kx, 62, .inl (upd fx 1 0))), (txt, .inr (3, [.ref tch, .int 0]))] ++ []) H := hH
  refine lv_aload_n hx hb dX2_take_17 rfl (lv_at hl 0 rfl) ?_
  refine lv_iconst (v := 0) hx hb dX2_take_18 (by decide) ?_
  refine sj_put (D := D) (ci := 2) (v := .int 0) (ty := .int) (C := RX2) (F := TX2) (N := 11) hx hb hts in2 tyX2 tyX2_ok nmX2 hown hK hH hS 0 rfl rfl 6 (by decide) wd3 (fun _ h9 => h9) rfl (by decide +kernel) rfl rfl (Nat.le_of_ble_eq_true rfl) dX2_take_19 (fun H locs (hH : sj_H D A ([(h0, .inr (2, [.ref x_chars, .ref x_choiceStarts, .int 0, .ref x_kinds, .ref x_firstChoices, .int 0, .int 0, .ref x_open, .ref x_begins, .ref x_lengths, .ref x_argumentKinds])), (x_choiceStarts, .inl (kx, 62, .inl (upd fx 1 0))), (txt, .inr (3, [.ref tch, .int 0]))] ++ []) H) hS => ?_)
  refine lv_aload_n hx hb dX2_take_22 rfl (lv_at hl 1 rfl) ?_
  refine va_get (D := D) (ci := 3) (v := .int 0) (C := RX3) (T := TX3) (N := 2) hx hb hts in3 hown hK hH.1 2 rfl rfl 1 (by decide) wd4 (fun _ h9 => h9) rfl dX2_take_23 ?_
  refine lv_iconst (v := 1) hx hb dX2_take_26 (by decide) ?_
  refine lv_icmp_lt (tgt := 39) hx hb dX2_take_27 (by decide) (fun _ => ?_) (fun h => absurd (by decide) h)
  refine lv_iconst (v := 0) hx hb dX2_take_39 (by decide) ?_
  exact sj_zret hx hb hr hlocks (by decide +kernel) hS () rfl (sj_sub hH [2] rfl rfl) (sj_Knil hK) (Nat.le_of_ble_eq_true rfl) (Nat.le_of_ble_eq_true rfl) dX2_take_40
set_option maxHeartbeats 4000000 in
set_option maxRecDepth 100000 in
/-- an empty tag expression holds -/
theorem c_X9_holds (l : Launch) (D : va_G) (h0 : Nat) (tags : Int32) (g_signs : Nat) (sz : Nat)  : Met l yX9_holds wsX9_holds ({ frames := 0, cells := 0, slots := 0, locals := 0 }) (va_Pc [.ref h0, .int tags] (sj_B D [(h0, .inr (9, [.ref g_signs, .int 0, .int 0, .int 0]))] [] sz sj_n)) (sj_Qi (S := Unit) D (fun r _ => r = 1) (fun u => [(h0, .inr (9, [.ref g_signs, .int 0, .int 0, .int 1]))]) (fun u => []) (va_A [(h0, .inr (9, [.ref g_signs, .int 0, .int 0, .int 0]))] sz)) 0 0 (va_A [(h0, .inr (9, [.ref g_signs, .int 0, .int 0, .int 0]))] sz) := by
  refine sj_met (cc := cX9_holds) (maxL := 2) (ret := (some .boolean)) (by decide) rfl (Nat.le_of_ble_eq_true rfl) ?_
  intro p e s m below meth c A ls hx hb hr hml hts hown hlocks hnm hA hsz hS hH hK hE hl
  have hown : s.vm.findClass RX9 = some m.cls := hown
  have in9 : ∀ w ∈ wsX90, w ∈ wsX9_holds := by decide +kernel
  have wd0 := hts (.fieldLink RX9 33 "StoryDesk$TagExpression" "at" "I") (by decide +kernel)
  have wd1 := hts (.fieldLink RX9 29 "StoryDesk$TagExpression" "formed" "Z") (by decide +kernel)
  have wd2 := hts (.fieldLink RX9 13 "StoryDesk$TagExpression" "count" "I") (by decide +kernel)
  have hl : lv_has ls 2 [(0, .ref h0), (1, .int tags)] := hl
  have hH : sj_H D A ([(h0, .inr (9, [.ref g_signs, .int 0, .int 0, .int 0]))] ++ []) s.heap := hH
  refine lv_aload_n hx hb dX9_holds_0 rfl (lv_at hl 0 rfl) ?_
  refine lv_iconst (v := 0) hx hb dX9_holds_1 (by decide) ?_
  refine sj_put (D := D) (ci := 9) (v := .int 0) (ty := .int) (C := RX9) (F := TX9) (N := 4) hx hb hts in9 tyX9 tyX9_ok nmX9 hown hK hH hS 0 rfl rfl 2 (by decide) wd0 (fun _ h9 => h9) rfl (by decide +kernel) rfl rfl (Nat.le_of_ble_eq_true rfl) dX9_holds_2 (fun H locs (hH : sj_H D A ([(h0, .inr (9, [.ref g_signs, .int 0, .int 0, .int 0]))] ++ []) H) hS => ?_)
  refine lv_aload_n hx hb dX9_holds_5 rfl (lv_at hl 0 rfl) ?_
  refine lv_iconst (v := 1) hx hb dX9_holds_6 (by decide) ?_
  refine sj_put (D := D) (ci := 9) (v := .int 1) (ty := .boolean) (C := RX9) (F := TX9) (N := 4) hx hb hts in9 tyX9 tyX9_ok nmX9 hown hK hH hS 0 rfl rfl 3 (by decide) wd1 (fun _ h9 => h9) rfl (by decide +kernel) (by decide +kernel) (by decide +kernel) (Nat.le_of_ble_eq_true rfl) dX9_holds_7 (fun H locs (hH : sj_H D A ([(h0, .inr (9, [.ref g_signs, .int 0, .int 0, .int 1]))] ++ []) H) hS => ?_)
  refine lv_aload_n hx hb dX9_holds_10 rfl (lv_at hl 0 rfl) ?_
  refine va_get (D := D) (ci := 9) (v := .int 0) (C := RX9) (T := TX9) (N := 4) hx hb hts in9 hown hK hH.1 0 rfl rfl 1 (by decide) wd2 (fun _ h9 => h9) rfl dX9_holds_11 ?_
  refine lv_if_eq (tgt := 26) hx hb dX9_holds_14 (by decide) (fun _ => ?_) (fun h => absurd (by decide) h)
  refine lv_iconst (v := 1) hx hb dX9_holds_26 (by decide) ?_
  refine lv_goto (tgt := 31) hx hb dX9_holds_27 (by decide) ?_
  exact sj_zret hx hb hr hlocks (by decide +kernel) hS () rfl (sj_sub hH [0] rfl rfl) (sj_Knil hK) (Nat.le_of_ble_eq_true rfl) (Nat.le_of_ble_eq_true rfl) dX9_holds_31
set_option maxHeartbeats 4000000 in
set_option maxRecDepth 100000 in
/-- an empty text is a tag expression -/
theorem c_X9_take (l : Launch) (D : va_G) (h0 : Nat) (txt : Nat) (g_signs : Nat) (tch : Nat) (sz : Nat)  : Met l yX9_take wsX9_take ({ frames := 1, cells := 0, slots := 0, locals := 21 }) (va_Pc [.ref h0, .ref txt] (sj_B D [(h0, .inr (9, [.ref g_signs, .int 0, .int 0, .int 0])), (txt, .inr (3, [.ref tch, .int 0]))] [] sz sj_n)) (sj_Qi (S := Unit) D (fun r _ => r = 1) (fun u => [(txt, .inr (3, [.ref tch, .int 0]))]) (fun u => []) (va_A [(h0, .inr (9, [.ref g_signs, .int 0, .int 0, .int 0])), (txt, .inr (3, [.ref tch, .int 0]))] sz)) 0 0 (va_A [(h0, .inr (9, [.ref g_signs, .int 0, .int 0, .int 0])), (txt, .inr (3, [.ref tch, .int 0]))] sz) := by
  refine sj_met (cc := cX9_take) (maxL := 3) (ret := (some .boolean)) (by decide) rfl (Nat.le_of_ble_eq_true rfl) ?_
  intro p e s m below meth c A ls hx hb hr hml hts hown hlocks hnm hA hsz hS hH hK hE hl
  have hown : s.vm.findClass RX9 = some m.cls := hown
  have in3 : ∀ w ∈ wsX30, w ∈ wsX9_take := by decide +kernel
  have in9 : ∀ w ∈ wsX90, w ∈ wsX9_take := by decide +kernel
  have wd0 := hts (.fieldLink RX9 13 "StoryDesk$TagExpression" "count" "I") (by decide +kernel)
  have wd1 := hts (.fieldLink RX9 17 "StoryDesk$Letters" "length" "I") (by decide +kernel)
  have hl : lv_has ls 3 [(0, .ref h0), (1, .ref txt)] := hl
  have hH : sj_H D A ([(h0, .inr (9, [.ref g_signs, .int 0, .int 0, .int 0])), (txt, .inr (3, [.ref tch, .int 0]))] ++ []) s.heap := hH
  refine lv_aload_n hx hb dX9_take_0 rfl (lv_at hl 0 rfl) ?_
  refine lv_iconst (v := 0) hx hb dX9_take_1 (by decide) ?_
  refine sj_put (D := D) (ci := 9) (v := .int 0) (ty := .int) (C := RX9) (F := TX9) (N := 4) hx hb hts in9 tyX9 tyX9_ok nmX9 hown hK hH hS 0 rfl rfl 1 (by decide) wd0 (fun _ h9 => h9) rfl (by decide +kernel) rfl rfl (Nat.le_of_ble_eq_true rfl) dX9_take_2 (fun H locs (hH : sj_H D A ([(h0, .inr (9, [.ref g_signs, .int 0, .int 0, .int 0])), (txt, .inr (3, [.ref tch, .int 0]))] ++ []) H) hS => ?_)
  refine lv_aload_n hx hb dX9_take_5 rfl (lv_at hl 1 rfl) ?_
  refine va_get (D := D) (ci := 3) (v := .int 0) (C := RX3) (T := TX3) (N := 2) hx hb hts in3 hown hK hH.1 1 rfl rfl 1 (by decide) wd1 (fun _ h9 => h9) rfl dX9_take_6 ?_
  refine lv_bipush (v := 40) hx hb dX9_take_9 (by decide) ?_
  refine lv_icmp_le (tgt := 16) hx hb dX9_take_11 (by decide) (fun _ => ?_) (fun h => absurd (by decide) h)
  refine lv_iconst (v := 0) hx hb dX9_take_16 (by decide) ?_
  refine lv_istore_n (lv' := [(2, .int 0), (0, .ref h0), (1, .ref txt)]) hx hb dX9_take_17 rfl hl (by decide) rfl (fun ls hl => ?_)
  refine lv_iload_n hx hb dX9_take_18 rfl (lv_at hl 0 rfl) ?_
  refine lv_aload_n hx hb dX9_take_19 rfl (lv_at hl 2 rfl) ?_
  refine va_get (D := D) (ci := 3) (v := .int 0) (C := RX3) (T := TX3) (N := 2) hx hb hts in3 hown hK hH.1 1 rfl rfl 1 (by decide) wd1 (fun _ h9 => h9) rfl dX9_take_20 ?_
  refine lv_icmp_ge (tgt := 68) hx hb dX9_take_23 (by decide) (fun _ => ?_) (fun h => absurd (by decide) h)
  refine lv_aload_n hx hb dX9_take_68 rfl (lv_at hl 1 rfl) ?_
  refine lv_iconst (v := 0) hx hb dX9_take_69 (by decide) ?_
  refine sj_calli (wr := [(txt, .inr (3, [.ref tch, .int 0]))]) (va_runV (As := [.int 0]) (rest := []) ⟨hx, hb, hml, hown, hts⟩ (c_X9_holds l D h0 0 g_signs H.size) (cwV 1 hts gX9_take_X9_holds rfl rfl rfl (by decide +kernel) ⟨(Nat.le_of_ble_eq_true rfl), (Nat.le_of_ble_eq_true rfl)⟩) (sj_preV (q := (RX9, TX9, 4)) hH hK [0] rfl rfl [] rfl rfl rfl sj_bln sj_exn) rfl rfl hl.1 rfl (lv_room (Nat.le_of_ble_eq_true rfl)) dX9_take_70 ⟨(Nat.le_of_ble_eq_true rfl), (Nat.le_of_ble_eq_true rfl)⟩) hH hK hS hA [0] [1] rfl rfl rfl rfl (by decide) rfl rfl (fun r_3 u_4 H locs hw_5 hH hK hS => ?_)
  have hH : sj_H D A ([(txt, .inr (3, [.ref tch, .int 0])), (h0, .inr (9, [.ref g_signs, .int 0, .int 0, .int 1]))] ++ []) H := hH
  have hK : va_K D vwCl [] s := by simpa using hK
  subst hw_5
  refine lv_pop hx hb dX9_take_73 rfl ?_
  refine lv_aload_n hx hb dX9_take_74 rfl (lv_at hl 1 rfl) ?_
  refine va_get (D := D) (ci := 9) (v := .int 0) (C := RX9) (T := TX9) (N := 4) hx hb hts in9 hown hK hH.1 1 rfl rfl 1 (by decide) wd0 (fun _ h9 => h9) rfl dX9_take_75 ?_
  refine lv_if_eq (tgt := 99) hx hb dX9_take_78 (by decide) (fun _ => ?_) (fun h => absurd (by decide) h)
  refine lv_iconst (v := 1) hx hb dX9_take_99 (by decide) ?_
  refine lv_goto (tgt := 104) hx hb dX9_take_100 (by decide) ?_
  exact sj_zret hx hb hr hlocks (by decide +kernel) hS () rfl (sj_sub hH [0] rfl rfl) (sj_Knil hK) (Nat.le_of_ble_eq_true rfl) (Nat.le_of_ble_eq_true rfl) dX9_take_104
set_option maxHeartbeats 4000000 in
set_option maxRecDepth 100000 in
/-- which scripts there are -/
theorem c_X8_has (l : Launch) (D : va_G) (h0 : Nat) (script : Int32) (s_commands : Nat) (s_amounts : Nat) (s_counts : Nat) (sz : Nat)  : Met l yX8_has wsX8_has ({ frames := 0, cells := 0, slots := 0, locals := 0 }) (va_Pc [.ref h0, .int script] (sj_B D [(h0, .inr (8, [.ref s_commands, .ref s_amounts, .ref s_counts]))] [] sz sj_n)) (sj_Qi (S := Unit) D (fun r _ => (r = 1 ∧ 0 ≤ script.toInt ∧ script.toInt ≤ 7) ∨ (r = 0 ∧ (script.toInt < 0 ∨ 7 < script.toInt))) (fun u => [(h0, .inr (8, [.ref s_commands, .ref s_amounts, .ref s_counts]))]) (fun u => []) (va_A [(h0, .inr (8, [.ref s_commands, .ref s_amounts, .ref s_counts]))] sz)) 0 0 (va_A [(h0, .inr (8, [.ref s_commands, .ref s_amounts, .ref s_counts]))] sz) := by
  refine sj_met (cc := cX8_has) (maxL := 2) (ret := (some .boolean)) (by decide) rfl (Nat.le_of_ble_eq_true rfl) ?_
  intro p e s m below meth c A ls hx hb hr hml hts hown hlocks hnm hA hsz hS hH hK hE hl
  have hown : s.vm.findClass RX8 = some m.cls := hown
  have hl : lv_has ls 2 [(0, .ref h0), (1, .int script)] := hl
  have hH : sj_H D A ([(h0, .inr (8, [.ref s_commands, .ref s_amounts, .ref s_counts]))] ++ []) s.heap := hH
  refine lv_iload_n hx hb dX8_has_0 rfl (lv_at hl 1 rfl) ?_
  refine lv_if_lt (tgt := 14) hx hb dX8_has_1 (by decide) (fun c_1 => ?_) (fun c_1 => ?_)
  · skip
    have d_2 := sj_ltF (n := 0) (by decide) c_1
    refine lv_iconst (v := 0) hx hb dX8_has_14 (by decide) ?_
    exact sj_zret hx hb hr hlocks (by decide +kernel) hS () (Or.inr ⟨rfl, by omega⟩) (sj_sub hH [0] rfl rfl) (sj_Knil hK) (Nat.le_of_ble_eq_true rfl) (Nat.le_of_ble_eq_true rfl) dX8_has_15
  · skip
    have d_3 := sj_nlt (n := 0) (by decide) c_1
    refine lv_iload_n hx hb dX8_has_4 rfl (lv_at hl 1 rfl) ?_
    refine lv_bipush (v := 8) hx hb dX8_has_5 (by decide) ?_
    refine lv_icmp_ge (tgt := 14) hx hb dX8_has_7 (by decide) (fun c_4 => ?_) (fun c_4 => ?_)
    · skip
      have d_5 := sj_geF (n := 8) (by decide) c_4
      refine lv_iconst (v := 0) hx hb dX8_has_14 (by decide) ?_
      exact sj_zret hx hb hr hlocks (by decide +kernel) hS () (Or.inr ⟨rfl, by omega⟩) (sj_sub hH [0] rfl rfl) (sj_Knil hK) (Nat.le_of_ble_eq_true rfl) (Nat.le_of_ble_eq_true rfl) dX8_has_15
    · skip
      have d_6 := sj_nge (n := 8) (by decide) c_4
      refine lv_iconst (v := 1) hx hb dX8_has_10 (by decide) ?_
      refine lv_goto (tgt := 15) hx hb dX8_has_11 (by decide) ?_
      exact sj_zret hx hb hr hlocks (by decide +kernel) hS () (Or.inl ⟨rfl, by omega, by omega⟩) (sj_sub hH [0] rfl rfl) (sj_Knil hK) (Nat.le_of_ble_eq_true rfl) (Nat.le_of_ble_eq_true rfl) dX8_has_15
set_option maxHeartbeats 4000000 in
set_option maxRecDepth 100000 in
/-- append on new scripts -/
theorem c_X8_append (l : Launch) (D : va_G) (h0 : Nat) (script : Int32) (command : Int32) (k : Int32) (s_commands : Nat) (s_amounts : Nat) (s_counts : Nat) (fc : Nat → Int32) (fa : Nat → Int32) (ks : ClassId) (ka : ClassId) (kn : ClassId) (sz : Nat)  : Met l yX8_append wsX8_append ({ frames := 1, cells := 0, slots := 0, locals := 21 }) (va_Pc [.ref h0, .int script, .int command, .int k] (sj_B D [(h0, .inr (8, [.ref s_commands, .ref s_amounts, .ref s_counts])), (s_commands, .inl (ks, 32, .inl fc)), (s_amounts, .inl (ka, 32, .inl fa)), (s_counts, .inl (kn, 8, .inl (fun _ => 0)))] [(ks, .int), (ka, .int), (kn, .int)] sz sj_n)) (sj_Qi (S := Unit) D (fun r _ => (r = 1 ∧ ((0 ≤ script.toInt ∧ script.toInt ≤ 7) ∧ 0 ≤ command.toInt ∧ command.toInt ≤ 8)) ∨ (r = 0 ∧ ¬ ((0 ≤ script.toInt ∧ script.toInt ≤ 7) ∧ 0 ≤ command.toInt ∧ command.toInt ≤ 8))) (fun u => []) (fun u => []) (va_A [(h0, .inr (8, [.ref s_commands, .ref s_amounts, .ref s_counts])), (s_commands, .inl (ks, 32, .inl fc)), (s_amounts, .inl (ka, 32, .inl fa)), (s_counts, .inl (kn, 8, .inl (fun _ => 0)))] sz)) 0 0 (va_A [(h0, .inr (8, [.ref s_commands, .ref s_amounts, .ref s_counts])), (s_commands, .inl (ks, 32, .inl fc)), (s_amounts, .inl (ka, 32, .inl fa)), (s_counts, .inl (kn, 8, .inl (fun _ => 0)))] sz) := by
  refine sj_met (cc := cX8_append) (maxL := 5) (ret := (some .boolean)) (by decide) rfl (Nat.le_of_ble_eq_true rfl) ?_
  intro p e s m below meth c A ls hx hb hr hml hts hown hlocks hnm hA hsz hS hH hK hE hl
  have hown : s.vm.findClass RX8 = some m.cls := hown
  have in8 : ∀ w ∈ wsX80, w ∈ wsX8_append := by decide +kernel
  have wd0 := hts (.fieldLink RX8 18 "StoryDesk$Scripts" "counts" "[I") (by decide +kernel)
  have wd1 := hts (.fieldLink RX8 11 "StoryDesk$Scripts" "commands" "[I") (by decide +kernel)
  have wd2 := hts (.fieldLink RX8 15 "StoryDesk$Scripts" "amounts" "[I") (by decide +kernel)
  have hl : lv_has ls 5 [(0, .ref h0), (1, .int script), (2, .int command), (3, .int k)] := hl
  have hH : sj_H D A ([(h0, .inr (8, [.ref s_commands, .ref s_amounts, .ref s_counts])), (s_commands, .inl (ks, 32, .inl fc)), (s_amounts, .inl (ka, 32, .inl fa)), (s_counts, .inl (kn, 8, .inl (fun _ => 0)))] ++ []) s.heap := hH
  refine lv_aload_n hx hb dX8_append_0 rfl (lv_at hl 0 rfl) ?_
  refine lv_iload_n hx hb dX8_append_1 rfl (lv_at hl 1 rfl) ?_
  refine sj_calli (wr := [(s_commands, .inl (ks, 32, .inl fc)), (s_amounts, .inl (ka, 32, .inl fa)), (s_counts, .inl (kn, 8, .inl (fun _ => 0)))]) (va_runV (As := [.int script]) (rest := []) ⟨hx, hb, hml, hown, hts⟩ (c_X8_has l D h0 script s_commands s_amounts s_counts s.heap.size) (cwV 1 hts gX8_append_X8_has rfl rfl rfl (by decide +kernel) ⟨(Nat.le_of_ble_eq_true rfl), (Nat.le_of_ble_eq_true rfl)⟩) (sj_preV (q := (RX8, TX8, 3)) hH hK [0] rfl rfl [] rfl rfl rfl sj_bln sj_exn) rfl rfl hl.1 rfl (lv_room (Nat.le_of_ble_eq_true rfl)) dX8_append_2 ⟨(Nat.le_of_ble_eq_true rfl), (Nat.le_of_ble_eq_true rfl)⟩) hH hK hS hA [0] [1, 2, 3] rfl rfl rfl rfl (by decide) rfl rfl (fun r_1 u_2 H locs hw_3 hH hK hS => ?_)
  have hH : sj_H D A ([(s_commands, .inl (ks, 32, .inl fc)), (s_amounts, .inl (ka, 32, .inl fa)), (s_counts, .inl (kn, 8, .inl (fun _ => 0))), (h0, .inr (8, [.ref s_commands, .ref s_amounts, .ref s_counts]))] ++ []) H := hH
  have hK : va_K D vwCl [(ks, .int), (ka, .int), (kn, .int)] s := by simpa using hK
  rcases hw_3 with ⟨rfl, hc_hw_3⟩ | ⟨rfl, hc_hw_3⟩
  · skip
    have d_4 := hc_hw_3.1
    have d_5 := hc_hw_3.2
    refine lv_if_eq (tgt := 28) hx hb dX8_append_5 (by decide) (fun h => absurd h (by decide)) (fun _ => ?_)
    refine lv_iload_n hx hb dX8_append_8 rfl (lv_at hl 2 rfl) ?_
    refine lv_if_lt (tgt := 28) hx hb dX8_append_9 (by decide) (fun c_7 => ?_) (fun c_7 => ?_)
    · skip
      have d_8 := sj_ltF (n := 0) (by decide) c_7
      refine lv_iconst (v := 0) hx hb dX8_append_28 (by decide) ?_
      exact sj_zret hx hb hr hlocks (by decide +kernel) hS () (Or.inr ⟨rfl, by omega⟩) sj_nil (sj_Knil hK) (Nat.le_of_ble_eq_true rfl) (Nat.le_of_ble_eq_true rfl) dX8_append_29
    · skip
      have d_9 := sj_nlt (n := 0) (by decide) c_7
      refine lv_iload_n hx hb dX8_append_12 rfl (lv_at hl 2 rfl) ?_
      refine lv_bipush (v := 8) hx hb dX8_append_13 (by decide) ?_
      refine lv_icmp_gt (tgt := 28) hx hb dX8_append_15 (by decide) (fun c_10 => ?_) (fun c_10 => ?_)
      · skip
        have d_11 := sj_gtF (n := 8) (by decide) c_10
        refine lv_iconst (v := 0) hx hb dX8_append_28 (by decide) ?_
        exact sj_zret hx hb hr hlocks (by decide +kernel) hS () (Or.inr ⟨rfl, by omega⟩) sj_nil (sj_Knil hK) (Nat.le_of_ble_eq_true rfl) (Nat.le_of_ble_eq_true rfl) dX8_append_29
      · skip
        have d_12 := sj_ngt (n := 8) (by decide) c_10
        have sp_13 : script = 0 ∨ script = 1 ∨ script = 2 ∨ script = 3 ∨ script = 4 ∨ script = 5 ∨ script = 6 ∨ script = 7 := by
          rcases (show script.toInt = 0 ∨ script.toInt = 1 ∨ script.toInt = 2 ∨ script.toInt = 3 ∨ script.toInt = 4 ∨ script.toInt = 5 ∨ script.toInt = 6 ∨ script.toInt = 7 by omega) with h | h | h | h | h | h | h | h
          · exact Or.inl (sj_eqP (by decide) h)
          · exact Or.inr (Or.inl (sj_eqP (by decide) h))
          · exact Or.inr (Or.inr (Or.inl (sj_eqP (by decide) h)))
          · exact Or.inr (Or.inr (Or.inr (Or.inl (sj_eqP (by decide) h))))
          · exact Or.inr (Or.inr (Or.inr (Or.inr (Or.inl (sj_eqP (by decide) h)))))
          · exact Or.inr (Or.inr (Or.inr (Or.inr (Or.inr (Or.inl (sj_eqP (by decide) h))))))
          · exact Or.inr (Or.inr (Or.inr (Or.inr (Or.inr (Or.inr (Or.inl (sj_eqP (by decide) h)))))))
          · exact Or.inr (Or.inr (Or.inr (Or.inr (Or.inr (Or.inr (Or.inr (sj_eqP (by decide) h)))))))
        rcases sp_13 with rfl | rfl | rfl | rfl | rfl | rfl | rfl | rfl
        · skip
          refine lv_aload_n hx hb dX8_append_18 rfl (lv_at hl 0 rfl) ?_
          refine va_get (D := D) (ci := 8) (v := .ref s_counts) (C := RX8) (T := TX8) (N := 3) hx hb hts in8 hown hK hH.1 3 rfl rfl 2 (by decide) wd0 (fun _ h9 => h9) rfl dX8_append_19 ?_
          refine lv_iload_n hx hb dX8_append_22 rfl (lv_at hl 1 rfl) ?_
          refine va_iald hx hb hK hH.1 2 2 rfl rfl (sj_vin (by decide) (by decide)) dX8_append_23 ?_
          refine sj_i (y := 0) (rfl) ?_
          refine lv_iconst (v := 4) hx hb dX8_append_24 (by decide) ?_
          refine lv_icmp_lt (tgt := 30) hx hb dX8_append_25 (by decide) (fun _ => ?_) (fun h => absurd (by decide) h)
          refine lv_iload_n hx hb dX8_append_30 rfl (lv_at hl 1 rfl) ?_
          refine lv_iconst (v := 4) hx hb dX8_append_31 (by decide) ?_
          refine lv_imul hx hb dX8_append_32 ?_
          refine sj_i (y := 0) (by decide) ?_
          refine lv_aload_n hx hb dX8_append_33 rfl (lv_at hl 0 rfl) ?_
          refine va_get (D := D) (ci := 8) (v := .ref s_counts) (C := RX8) (T := TX8) (N := 3) hx hb hts in8 hown hK hH.1 3 rfl rfl 2 (by decide) wd0 (fun _ h9 => h9) rfl dX8_append_34 ?_
          refine lv_iload_n hx hb dX8_append_37 rfl (lv_at hl 1 rfl) ?_
          refine va_iald hx hb hK hH.1 2 2 rfl rfl (sj_vin (by decide) (by decide)) dX8_append_38 ?_
          refine sj_i (y := 0) (rfl) ?_
          refine lv_iadd hx hb dX8_append_39 ?_
          refine sj_i (y := 0) (by decide) ?_
          refine lv_istore (lv' := [(4, .int 0), (0, .ref h0), (1, .int 0), (2, .int command), (3, .int k)]) hx hb dX8_append_40 hl (by decide) rfl (fun ls hl => ?_)
          refine lv_aload_n hx hb dX8_append_42 rfl (lv_at hl 1 rfl) ?_
          refine va_get (D := D) (ci := 8) (v := .ref s_commands) (C := RX8) (T := TX8) (N := 3) hx hb hts in8 hown hK hH.1 3 rfl rfl 0 (by decide) wd1 (fun _ h9 => h9) rfl dX8_append_43 ?_
          refine lv_iload hx hb dX8_append_46 (lv_at hl 0 rfl) ?_
          refine lv_iload_n hx hb dX8_append_48 rfl (lv_at hl 3 rfl) ?_
          refine sj_iast hx hb hK hH hS 0 0 rfl rfl (sj_vin (by decide) (by decide)) dX8_append_49 (fun H locs hH hS => ?_)
          have hH : sj_H D A ([(s_commands, .inl (ks, 32, .inl (upd fc 0 command))), (s_amounts, .inl (ka, 32, .inl fa)), (s_counts, .inl (kn, 8, .inl (fun _ => 0))), (h0, .inr (8, [.ref s_commands, .ref s_amounts, .ref s_counts]))] ++ []) H := hH
          refine lv_aload_n hx hb dX8_append_50 rfl (lv_at hl 1 rfl) ?_
          refine va_get (D := D) (ci := 8) (v := .ref s_amounts) (C := RX8) (T := TX8) (N := 3) hx hb hts in8 hown hK hH.1 3 rfl rfl 1 (by decide) wd2 (fun _ h9 => h9) rfl dX8_append_51 ?_
          refine lv_iload hx hb dX8_append_54 (lv_at hl 0 rfl) ?_
          refine lv_iload_n hx hb dX8_append_56 rfl (lv_at hl 4 rfl) ?_
          refine sj_iast hx hb hK hH hS 1 1 rfl rfl (sj_vin (by decide) (by decide)) dX8_append_57 (fun H locs hH hS => ?_)
          have hH : sj_H D A ([(s_commands, .inl (ks, 32, .inl (upd fc 0 command))), (s_amounts, .inl (ka, 32, .inl (upd fa 0 k))), (s_counts, .inl (kn, 8, .inl (fun _ => 0))), (h0, .inr (8, [.ref s_commands, .ref s_amounts, .ref s_counts]))] ++ []) H := hH
          refine lv_aload_n hx hb dX8_append_58 rfl (lv_at hl 1 rfl) ?_
          refine va_get (D := D) (ci := 8) (v := .ref s_counts) (C := RX8) (T := TX8) (N := 3) hx hb hts in8 hown hK hH.1 3 rfl rfl 2 (by decide) wd0 (fun _ h9 => h9) rfl dX8_append_59 ?_
          refine lv_iload_n hx hb dX8_append_62 rfl (lv_at hl 2 rfl) ?_
          refine lv_dup2_11 hx hb dX8_append_63 rfl rfl ?_
          refine va_iald hx hb hK hH.1 2 2 rfl rfl (sj_vin (by decide) (by decide)) dX8_append_64 ?_
          refine sj_i (y := 0) (rfl) ?_
          refine lv_iconst (v := 1) hx hb dX8_append_65 (by decide) ?_
          refine lv_iadd hx hb dX8_append_66 ?_
          refine sj_i (y := 1) (by decide) ?_
          refine sj_iast hx hb hK hH hS 2 2 rfl rfl (sj_vin (by decide) (by decide)) dX8_append_67 (fun H locs hH hS => ?_)
          have hH : sj_H D A ([(s_commands, .inl (ks, 32, .inl (upd fc 0 command))), (s_amounts, .inl (ka, 32, .inl (upd fa 0 k))), (s_counts, .inl (kn, 8, .inl (upd (fun _ => 0) 0 1))), (h0, .inr (8, [.ref s_commands, .ref s_amounts, .ref s_counts]))] ++ []) H := hH
          refine lv_iconst (v := 1) hx hb dX8_append_68 (by decide) ?_
          exact sj_zret hx hb hr hlocks (by decide +kernel) hS () (Or.inl ⟨rfl, ⟨by first | omega | decide, by first | omega | decide⟩, by omega, by omega⟩) sj_nil (sj_Knil hK) (Nat.le_of_ble_eq_true rfl) (Nat.le_of_ble_eq_true rfl) dX8_append_69
        · skip
          refine lv_aload_n hx hb dX8_append_18 rfl (lv_at hl 0 rfl) ?_
          refine va_get (D := D) (ci := 8) (v := .ref s_counts) (C := RX8) (T := TX8) (N := 3) hx hb hts in8 hown hK hH.1 3 rfl rfl 2 (by decide) wd0 (fun _ h9 => h9) rfl dX8_append_19 ?_
          refine lv_iload_n hx hb dX8_append_22 rfl (lv_at hl 1 rfl) ?_
          refine va_iald hx hb hK hH.1 2 2 rfl rfl (sj_vin (by decide) (by decide)) dX8_append_23 ?_
          refine sj_i (y := 0) (rfl) ?_
          refine lv_iconst (v := 4) hx hb dX8_append_24 (by decide) ?_
          refine lv_icmp_lt (tgt := 30) hx hb dX8_append_25 (by decide) (fun _ => ?_) (fun h => absurd (by decide) h)
          refine lv_iload_n hx hb dX8_append_30 rfl (lv_at hl 1 rfl) ?_
          refine lv_iconst (v := 4) hx hb dX8_append_31 (by decide) ?_
          refine lv_imul hx hb dX8_append_32 ?_
          refine sj_i (y := 4) (by decide) ?_
          refine lv_aload_n hx hb dX8_append_33 rfl (lv_at hl 0 rfl) ?_
          refine va_get (D := D) (ci := 8) (v := .ref s_counts) (C := RX8) (T := TX8) (N := 3) hx hb hts in8 hown hK hH.1 3 rfl rfl 2 (by decide) wd0 (fun _ h9 => h9) rfl dX8_append_34 ?_
          refine lv_iload_n hx hb dX8_append_37 rfl (lv_at hl 1 rfl) ?_
          refine va_iald hx hb hK hH.1 2 2 rfl rfl (sj_vin (by decide) (by decide)) dX8_append_38 ?_
          refine sj_i (y := 0) (rfl) ?_
          refine lv_iadd hx hb dX8_append_39 ?_
          refine sj_i (y := 4) (by decide) ?_
          refine lv_istore (lv' := [(4, .int 4), (0, .ref h0), (1, .int 1), (2, .int command), (3, .int k)]) hx hb dX8_append_40 hl (by decide) rfl (fun ls hl => ?_)
          refine lv_aload_n hx hb dX8_append_42 rfl (lv_at hl 1 rfl) ?_
          refine va_get (D := D) (ci := 8) (v := .ref s_commands) (C := RX8) (T := TX8) (N := 3) hx hb hts in8 hown hK hH.1 3 rfl rfl 0 (by decide) wd1 (fun _ h9 => h9) rfl dX8_append_43 ?_
          refine lv_iload hx hb dX8_append_46 (lv_at hl 0 rfl) ?_
          refine lv_iload_n hx hb dX8_append_48 rfl (lv_at hl 3 rfl) ?_
          refine sj_iast hx hb hK hH hS 0 0 rfl rfl (sj_vin (by decide) (by decide)) dX8_append_49 (fun H locs hH hS => ?_)
          have hH : sj_H D A ([(s_commands, .inl (ks, 32, .inl (upd fc 4 command))), (s_amounts, .inl (ka, 32, .inl fa)), (s_counts, .inl (kn, 8, .inl (fun _ => 0))), (h0, .inr (8, [.ref s_commands, .ref s_amounts, .ref s_counts]))] ++ []) H := hH
          refine lv_aload_n hx hb dX8_append_50 rfl (lv_at hl 1 rfl) ?_
          refine va_get (D := D) (ci := 8) (v := .ref s_amounts) (C := RX8) (T := TX8) (N := 3) hx hb hts in8 hown hK hH.1 3 rfl rfl 1 (by decide) wd2 (fun _ h9 => h9) rfl dX8_append_51 ?_
          refine lv_iload hx hb dX8_append_54 (lv_at hl 0 rfl) ?_
          refine lv_iload_n hx hb dX8_append_56 rfl (lv_at hl 4 rfl) ?_
          refine sj_iast hx hb hK hH hS 1 1 rfl rfl (sj_vin (by decide) (by decide)) dX8_append_57 (fun H locs hH hS => ?_)
          have hH : sj_H D A ([(s_commands, .inl (ks, 32, .inl (upd fc 4 command))), (s_amounts, .inl (ka, 32, .inl (upd fa 4 k))), (s_counts, .inl (kn, 8, .inl (fun _ => 0))), (h0, .inr (8, [.ref s_commands, .ref s_amounts, .ref s_counts]))] ++ []) H := hH
          refine lv_aload_n hx hb dX8_append_58 rfl (lv_at hl 1 rfl) ?_
          refine va_get (D := D) (ci := 8) (v := .ref s_counts) (C := RX8) (T := TX8) (N := 3) hx hb hts in8 hown hK hH.1 3 rfl rfl 2 (by decide) wd0 (fun _ h9 => h9) rfl dX8_append_59 ?_
          refine lv_iload_n hx hb dX8_append_62 rfl (lv_at hl 2 rfl) ?_
          refine lv_dup2_11 hx hb dX8_append_63 rfl rfl ?_
          refine va_iald hx hb hK hH.1 2 2 rfl rfl (sj_vin (by decide) (by decide)) dX8_append_64 ?_
          refine sj_i (y := 0) (rfl) ?_
          refine lv_iconst (v := 1) hx hb dX8_append_65 (by decide) ?_
          refine lv_iadd hx hb dX8_append_66 ?_
          refine sj_i (y := 1) (by decide) ?_
          refine sj_iast hx hb hK hH hS 2 2 rfl rfl (sj_vin (by decide) (by decide)) dX8_append_67 (fun H locs hH hS => ?_)
          have hH : sj_H D A ([(s_commands, .inl (ks, 32, .inl (upd fc 4 command))), (s_amounts, .inl (ka, 32, .inl (upd fa 4 k))), (s_counts, .inl (kn, 8, .inl (upd (fun _ => 0) 1 1))), (h0, .inr (8, [.ref s_commands, .ref s_amounts, .ref s_counts]))] ++ []) H := hH
          refine lv_iconst (v := 1) hx hb dX8_append_68 (by decide) ?_
          exact sj_zret hx hb hr hlocks (by decide +kernel) hS () (Or.inl ⟨rfl, ⟨by first | omega | decide, by first | omega | decide⟩, by omega, by omega⟩) sj_nil (sj_Knil hK) (Nat.le_of_ble_eq_true rfl) (Nat.le_of_ble_eq_true rfl) dX8_append_69
        · skip
          refine lv_aload_n hx hb dX8_append_18 rfl (lv_at hl 0 rfl) ?_
          refine va_get (D := D) (ci := 8) (v := .ref s_counts) (C := RX8) (T := TX8) (N := 3) hx hb hts in8 hown hK hH.1 3 rfl rfl 2 (by decide) wd0 (fun _ h9 => h9) rfl dX8_append_19 ?_
          refine lv_iload_n hx hb dX8_append_22 rfl (lv_at hl 1 rfl) ?_
          refine va_iald hx hb hK hH.1 2 2 rfl rfl (sj_vin (by decide) (by decide)) dX8_append_23 ?_
          refine sj_i (y := 0) (rfl) ?_
          refine lv_iconst (v := 4) hx hb dX8_append_24 (by decide) ?_
          refine lv_icmp_lt (tgt := 30) hx hb dX8_append_25 (by decide) (fun _ => ?_) (fun h => absurd (by decide) h)
          refine lv_iload_n hx hb dX8_append_30 rfl (lv_at hl 1 rfl) ?_
          refine lv_iconst (v := 4) hx hb dX8_append_31 (by decide) ?_
          refine lv_imul hx hb dX8_append_32 ?_
          refine sj_i (y := 8) (by decide) ?_
          refine lv_aload_n hx hb dX8_append_33 rfl (lv_at hl 0 rfl) ?_
          refine va_get (D := D) (ci := 8) (v := .ref s_counts) (C := RX8) (T := TX8) (N := 3) hx hb hts in8 hown hK hH.1 3 rfl rfl 2 (by decide) wd0 (fun _ h9 => h9) rfl dX8_append_34 ?_
          refine lv_iload_n hx hb dX8_append_37 rfl (lv_at hl 1 rfl) ?_
          refine va_iald hx hb hK hH.1 2 2 rfl rfl (sj_vin (by decide) (by decide)) dX8_append_38 ?_
          refine sj_i (y := 0) (rfl) ?_
          refine lv_iadd hx hb dX8_append_39 ?_
          refine sj_i (y := 8) (by decide) ?_
          refine lv_istore (lv' := [(4, .int 8), (0, .ref h0), (1, .int 2), (2, .int command), (3, .int k)]) hx hb dX8_append_40 hl (by decide) rfl (fun ls hl => ?_)
          refine lv_aload_n hx hb dX8_append_42 rfl (lv_at hl 1 rfl) ?_
          refine va_get (D := D) (ci := 8) (v := .ref s_commands) (C := RX8) (T := TX8) (N := 3) hx hb hts in8 hown hK hH.1 3 rfl rfl 0 (by decide) wd1 (fun _ h9 => h9) rfl dX8_append_43 ?_
          refine lv_iload hx hb dX8_append_46 (lv_at hl 0 rfl) ?_
          refine lv_iload_n hx hb dX8_append_48 rfl (lv_at hl 3 rfl) ?_
          refine sj_iast hx hb hK hH hS 0 0 rfl rfl (sj_vin (by decide) (by decide)) dX8_append_49 (fun H locs hH hS => ?_)
          have hH : sj_H D A ([(s_commands, .inl (ks, 32, .inl (upd fc 8 command))), (s_amounts, .inl (ka, 32, .inl fa)), (s_counts, .inl (kn, 8, .inl (fun _ => 0))), (h0, .inr (8, [.ref s_commands, .ref s_amounts, .ref s_counts]))] ++ []) H := hH
          refine lv_aload_n hx hb dX8_append_50 rfl (lv_at hl 1 rfl) ?_
          refine va_get (D := D) (ci := 8) (v := .ref s_amounts) (C := RX8) (T := TX8) (N := 3) hx hb hts in8 hown hK hH.1 3 rfl rfl 1 (by decide) wd2 (fun _ h9 => h9) rfl dX8_append_51 ?_
          refine lv_iload hx hb dX8_append_54 (lv_at hl 0 rfl) ?_
          refine lv_iload_n hx hb dX8_append_56 rfl (lv_at hl 4 rfl) ?_
          refine sj_iast hx hb hK hH hS 1 1 rfl rfl (sj_vin (by decide) (by decide)) dX8_append_57 (fun H locs hH hS => ?_)
          have hH : sj_H D A ([(s_commands, .inl (ks, 32, .inl (upd fc 8 command))), (s_amounts, .inl (ka, 32, .inl (upd fa 8 k))), (s_counts, .inl (kn, 8, .inl (fun _ => 0))), (h0, .inr (8, [.ref s_commands, .ref s_amounts, .ref s_counts]))] ++ []) H := hH
          refine lv_aload_n hx hb dX8_append_58 rfl (lv_at hl 1 rfl) ?_
          refine va_get (D := D) (ci := 8) (v := .ref s_counts) (C := RX8) (T := TX8) (N := 3) hx hb hts in8 hown hK hH.1 3 rfl rfl 2 (by decide) wd0 (fun _ h9 => h9) rfl dX8_append_59 ?_
          refine lv_iload_n hx hb dX8_append_62 rfl (lv_at hl 2 rfl) ?_
          refine lv_dup2_11 hx hb dX8_append_63 rfl rfl ?_
          refine va_iald hx hb hK hH.1 2 2 rfl rfl (sj_vin (by decide) (by decide)) dX8_append_64 ?_
          refine sj_i (y := 0) (rfl) ?_
          refine lv_iconst (v := 1) hx hb dX8_append_65 (by decide) ?_
          refine lv_iadd hx hb dX8_append_66 ?_
          refine sj_i (y := 1) (by decide) ?_
          refine sj_iast hx hb hK hH hS 2 2 rfl rfl (sj_vin (by decide) (by decide)) dX8_append_67 (fun H locs hH hS => ?_)
          have hH : sj_H D A ([(s_commands, .inl (ks, 32, .inl (upd fc 8 command))), (s_amounts, .inl (ka, 32, .inl (upd fa 8 k))), (s_counts, .inl (kn, 8, .inl (upd (fun _ => 0) 2 1))), (h0, .inr (8, [.ref s_commands, .ref s_amounts, .ref s_counts]))] ++ []) H := hH
          refine lv_iconst (v := 1) hx hb dX8_append_68 (by decide) ?_
          exact sj_zret hx hb hr hlocks (by decide +kernel) hS () (Or.inl ⟨rfl, ⟨by first | omega | decide, by first | omega | decide⟩, by omega, by omega⟩) sj_nil (sj_Knil hK) (Nat.le_of_ble_eq_true rfl) (Nat.le_of_ble_eq_true rfl) dX8_append_69
        · skip
          refine lv_aload_n hx hb dX8_append_18 rfl (lv_at hl 0 rfl) ?_
          refine va_get (D := D) (ci := 8) (v := .ref s_counts) (C := RX8) (T := TX8) (N := 3) hx hb hts in8 hown hK hH.1 3 rfl rfl 2 (by decide) wd0 (fun _ h9 => h9) rfl dX8_append_19 ?_
          refine lv_iload_n hx hb dX8_append_22 rfl (lv_at hl 1 rfl) ?_
          refine va_iald hx hb hK hH.1 2 2 rfl rfl (sj_vin (by decide) (by decide)) dX8_append_23 ?_
          refine sj_i (y := 0) (rfl) ?_
          refine lv_iconst (v := 4) hx hb dX8_append_24 (by decide) ?_
          refine lv_icmp_lt (tgt := 30) hx hb dX8_append_25 (by decide) (fun _ => ?_) (fun h => absurd (by decide) h)
          refine lv_iload_n hx hb dX8_append_30 rfl (lv_at hl 1 rfl) ?_
          refine lv_iconst (v := 4) hx hb dX8_append_31 (by decide) ?_
          refine lv_imul hx hb dX8_append_32 ?_
          refine sj_i (y := 12) (by decide) ?_
          refine lv_aload_n hx hb dX8_append_33 rfl (lv_at hl 0 rfl) ?_
          refine va_get (D := D) (ci := 8) (v := .ref s_counts) (C := RX8) (T := TX8) (N := 3) hx hb hts in8 hown hK hH.1 3 rfl rfl 2 (by decide) wd0 (fun _ h9 => h9) rfl dX8_append_34 ?_
          refine lv_iload_n hx hb dX8_append_37 rfl (lv_at hl 1 rfl) ?_
          refine va_iald hx hb hK hH.1 2 2 rfl rfl (sj_vin (by decide) (by decide)) dX8_append_38 ?_
          refine sj_i (y := 0) (rfl) ?_
          refine lv_iadd hx hb dX8_append_39 ?_
          refine sj_i (y := 12) (by decide) ?_
          refine lv_istore (lv' := [(4, .int 12), (0, .ref h0), (1, .int 3), (2, .int command), (3, .int k)]) hx hb dX8_append_40 hl (by decide) rfl (fun ls hl => ?_)
          refine lv_aload_n hx hb dX8_append_42 rfl (lv_at hl 1 rfl) ?_
          refine va_get (D := D) (ci := 8) (v := .ref s_commands) (C := RX8) (T := TX8) (N := 3) hx hb hts in8 hown hK hH.1 3 rfl rfl 0 (by decide) wd1 (fun _ h9 => h9) rfl dX8_append_43 ?_
          refine lv_iload hx hb dX8_append_46 (lv_at hl 0 rfl) ?_
          refine lv_iload_n hx hb dX8_append_48 rfl (lv_at hl 3 rfl) ?_
          refine sj_iast hx hb hK hH hS 0 0 rfl rfl (sj_vin (by decide) (by decide)) dX8_append_49 (fun H locs hH hS => ?_)
          have hH : sj_H D A ([(s_commands, .inl (ks, 32, .inl (upd fc 12 command))), (s_amounts, .inl (ka, 32, .inl fa)), (s_counts, .inl (kn, 8, .inl (fun _ => 0))), (h0, .inr (8, [.ref s_commands, .ref s_amounts, .ref s_counts]))] ++ []) H := hH
          refine lv_aload_n hx hb dX8_append_50 rfl (lv_at hl 1 rfl) ?_
          refine va_get (D := D) (ci := 8) (v := .ref s_amounts) (C := RX8) (T := TX8) (N := 3) hx hb hts in8 hown hK hH.1 3 rfl rfl 1 (by decide) wd2 (fun _ h9 => h9) rfl dX8_append_51 ?_
          refine lv_iload hx hb dX8_append_54 (lv_at hl 0 rfl) ?_
          refine lv_iload_n hx hb dX8_append_56 rfl (lv_at hl 4 rfl) ?_
          refine sj_iast hx hb hK hH hS 1 1 rfl rfl (sj_vin (by decide) (by decide)) dX8_append_57 (fun H locs hH hS => ?_)
          have hH : sj_H D A ([(s_commands, .inl (ks, 32, .inl (upd fc 12 command))), (s_amounts, .inl (ka, 32, .inl (upd fa 12 k))), (s_counts, .inl (kn, 8, .inl (fun _ => 0))), (h0, .inr (8, [.ref s_commands, .ref s_amounts, .ref s_counts]))] ++ []) H := hH
          refine lv_aload_n hx hb dX8_append_58 rfl (lv_at hl 1 rfl) ?_
          refine va_get (D := D) (ci := 8) (v := .ref s_counts) (C := RX8) (T := TX8) (N := 3) hx hb hts in8 hown hK hH.1 3 rfl rfl 2 (by decide) wd0 (fun _ h9 => h9) rfl dX8_append_59 ?_
          refine lv_iload_n hx hb dX8_append_62 rfl (lv_at hl 2 rfl) ?_
          refine lv_dup2_11 hx hb dX8_append_63 rfl rfl ?_
          refine va_iald hx hb hK hH.1 2 2 rfl rfl (sj_vin (by decide) (by decide)) dX8_append_64 ?_
          refine sj_i (y := 0) (rfl) ?_
          refine lv_iconst (v := 1) hx hb dX8_append_65 (by decide) ?_
          refine lv_iadd hx hb dX8_append_66 ?_
          refine sj_i (y := 1) (by decide) ?_
          refine sj_iast hx hb hK hH hS 2 2 rfl rfl (sj_vin (by decide) (by decide)) dX8_append_67 (fun H locs hH hS => ?_)
          have hH : sj_H D A ([(s_commands, .inl (ks, 32, .inl (upd fc 12 command))), (s_amounts, .inl (ka, 32, .inl (upd fa 12 k))), (s_counts, .inl (kn, 8, .inl (upd (fun _ => 0) 3 1))), (h0, .inr (8, [.ref s_commands, .ref s_amounts, .ref s_counts]))] ++ []) H := hH
          refine lv_iconst (v := 1) hx hb dX8_append_68 (by decide) ?_
          exact sj_zret hx hb hr hlocks (by decide +kernel) hS () (Or.inl ⟨rfl, ⟨by first | omega | decide, by first | omega | decide⟩, by omega, by omega⟩) sj_nil (sj_Knil hK) (Nat.le_of_ble_eq_true rfl) (Nat.le_of_ble_eq_true rfl) dX8_append_69
        · skip
          refine lv_aload_n hx hb dX8_append_18 rfl (lv_at hl 0 rfl) ?_
          refine va_get (D := D) (ci := 8) (v := .ref s_counts) (C := RX8) (T := TX8) (N := 3) hx hb hts in8 hown hK hH.1 3 rfl rfl 2 (by decide) wd0 (fun _ h9 => h9) rfl dX8_append_19 ?_
          refine lv_iload_n hx hb dX8_append_22 rfl (lv_at hl 1 rfl) ?_
          refine va_iald hx hb hK hH.1 2 2 rfl rfl (sj_vin (by decide) (by decide)) dX8_append_23 ?_
          refine sj_i (y := 0) (rfl) ?_
          refine lv_iconst (v := 4) hx hb dX8_append_24 (by decide) ?_
          refine lv_icmp_lt (tgt := 30) hx hb dX8_append_25 (by decide) (fun _ => ?_) (fun h => absurd (by decide) h)
          refine lv_iload_n hx hb dX8_append_30 rfl (lv_at hl 1 rfl) ?_
          refine lv_iconst (v := 4) hx hb dX8_append_31 (by decide) ?_
          refine lv_imul hx hb dX8_append_32 ?_
          refine sj_i (y := 16) (by decide) ?_
          refine lv_aload_n hx hb dX8_append_33 rfl (lv_at hl 0 rfl) ?_
          refine va_get (D := D) (ci := 8) (v := .ref s_counts) (C := RX8) (T := TX8) (N := 3) hx hb hts in8 hown hK hH.1 3 rfl rfl 2 (by decide) wd0 (fun _ h9 => h9) rfl dX8_append_34 ?_
          refine lv_iload_n hx hb dX8_append_37 rfl (lv_at hl 1 rfl) ?_
          refine va_iald hx hb hK hH.1 2 2 rfl rfl (sj_vin (by decide) (by decide)) dX8_append_38 ?_
          refine sj_i (y := 0) (rfl) ?_
          refine lv_iadd hx hb dX8_append_39 ?_
          refine sj_i (y := 16) (by decide) ?_
          refine lv_istore (lv' := [(4, .int 16), (0, .ref h0), (1, .int 4), (2, .int command), (3, .int k)]) hx hb dX8_append_40 hl (by decide) rfl (fun ls hl => ?_)
          refine lv_aload_n hx hb dX8_append_42 rfl (lv_at hl 1 rfl) ?_
          refine va_get (D := D) (ci := 8) (v := .ref s_commands) (C := RX8) (T := TX8) (N := 3) hx hb hts in8 hown hK hH.1 3 rfl rfl 0 (by decide) wd1 (fun _ h9 => h9) rfl dX8_append_43 ?_
          refine lv_iload hx hb dX8_append_46 (lv_at hl 0 rfl) ?_
          refine lv_iload_n hx hb dX8_append_48 rfl (lv_at hl 3 rfl) ?_
          refine sj_iast hx hb hK hH hS 0 0 rfl rfl (sj_vin (by decide) (by decide)) dX8_append_49 (fun H locs hH hS => ?_)
          have hH : sj_H D A ([(s_commands, .inl (ks, 32, .inl (upd fc 16 command))), (s_amounts, .inl (ka, 32, .inl fa)), (s_counts, .inl (kn, 8, .inl (fun _ => 0))), (h0, .inr (8, [.ref s_commands, .ref s_amounts, .ref s_counts]))] ++ []) H := hH
          refine lv_aload_n hx hb dX8_append_50 rfl (lv_at hl 1 rfl) ?_
          refine va_get (D := D) (ci := 8) (v := .ref s_amounts) (C := RX8) (T := TX8) (N := 3) hx hb hts in8 hown hK hH.1 3 rfl rfl 1 (by decide) wd2 (fun _ h9 => h9) rfl dX8_append_51 ?_
          refine lv_iload hx hb dX8_append_54 (lv_at hl 0 rfl) ?_
          refine lv_iload_n hx hb dX8_append_56 rfl (lv_at hl 4 rfl) ?_
          refine sj_iast hx hb hK hH hS 1 1 rfl rfl (sj_vin (by decide) (by decide)) dX8_append_57 (fun H locs hH hS => ?_)
          have hH : sj_H D A ([(s_commands, .inl (ks, 32, .inl (upd fc 16 command))), (s_amounts, .inl (ka, 32, .inl (upd fa 16 k))), (s_counts, .inl (kn, 8, .inl (fun _ => 0))), (h0, .inr (8, [.ref s_commands, .ref s_amounts, .ref s_counts]))] ++ []) H := hH
          refine lv_aload_n hx hb dX8_append_58 rfl (lv_at hl 1 rfl) ?_
          refine va_get (D := D) (ci := 8) (v := .ref s_counts) (C := RX8) (T := TX8) (N := 3) hx hb hts in8 hown hK hH.1 3 rfl rfl 2 (by decide) wd0 (fun _ h9 => h9) rfl dX8_append_59 ?_
          refine lv_iload_n hx hb dX8_append_62 rfl (lv_at hl 2 rfl) ?_
          refine lv_dup2_11 hx hb dX8_append_63 rfl rfl ?_
          refine va_iald hx hb hK hH.1 2 2 rfl rfl (sj_vin (by decide) (by decide)) dX8_append_64 ?_
          refine sj_i (y := 0) (rfl) ?_
          refine lv_iconst (v := 1) hx hb dX8_append_65 (by decide) ?_
          refine lv_iadd hx hb dX8_append_66 ?_
          refine sj_i (y := 1) (by decide) ?_
          refine sj_iast hx hb hK hH hS 2 2 rfl rfl (sj_vin (by decide) (by decide)) dX8_append_67 (fun H locs hH hS => ?_)
          have hH : sj_H D A ([(s_commands, .inl (ks, 32, .inl (upd fc 16 command))), (s_amounts, .inl (ka, 32, .inl (upd fa 16 k))), (s_counts, .inl (kn, 8, .inl (upd (fun _ => 0) 4 1))), (h0, .inr (8, [.ref s_commands, .ref s_amounts, .ref s_counts]))] ++ []) H := hH
          refine lv_iconst (v := 1) hx hb dX8_append_68 (by decide) ?_
          exact sj_zret hx hb hr hlocks (by decide +kernel) hS () (Or.inl ⟨rfl, ⟨by first | omega | decide, by first | omega | decide⟩, by omega, by omega⟩) sj_nil (sj_Knil hK) (Nat.le_of_ble_eq_true rfl) (Nat.le_of_ble_eq_true rfl) dX8_append_69
        · skip
          refine lv_aload_n hx hb dX8_append_18 rfl (lv_at hl 0 rfl) ?_
          refine va_get (D := D) (ci := 8) (v := .ref s_counts) (C := RX8) (T := TX8) (N := 3) hx hb hts in8 hown hK hH.1 3 rfl rfl 2 (by decide) wd0 (fun _ h9 => h9) rfl dX8_append_19 ?_
          refine lv_iload_n hx hb dX8_append_22 rfl (lv_at hl 1 rfl) ?_
          refine va_iald hx hb hK hH.1 2 2 rfl rfl (sj_vin (by decide) (by decide)) dX8_append_23 ?_
          refine sj_i (y := 0) (rfl) ?_
          refine lv_iconst (v := 4) hx hb dX8_append_24 (by decide) ?_
          refine lv_icmp_lt (tgt := 30) hx hb dX8_append_25 (by decide) (fun _ => ?_) (fun h => absurd (by decide) h)
          refine lv_iload_n hx hb dX8_append_30 rfl (lv_at hl 1 rfl) ?_
          refine lv_iconst (v := 4) hx hb dX8_append_31 (by decide) ?_
          refine lv_imul hx hb dX8_append_32 ?_
          refine sj_i (y := 20) (by decide) ?_
          refine lv_aload_n hx hb dX8_append_33 rfl (lv_at hl 0 rfl) ?_
          refine va_get (D := D) (ci := 8) (v := .ref s_counts) (C := RX8) (T := TX8) (N := 3) hx hb hts in8 hown hK hH.1 3 rfl rfl 2 (by decide) wd0 (fun _ h9 => h9) rfl dX8_append_34 ?_
          refine lv_iload_n hx hb dX8_append_37 rfl (lv_at hl 1 rfl) ?_
          refine va_iald hx hb hK hH.1 2 2 rfl rfl (sj_vin (by decide) (by decide)) dX8_append_38 ?_
          refine sj_i (y := 0) (rfl) ?_
          refine lv_iadd hx hb dX8_append_39 ?_
          refine sj_i (y := 20) (by decide) ?_
          refine lv_istore (lv' := [(4, .int 20), (0, .ref h0), (1, .int 5), (2, .int command), (3, .int k)]) hx hb dX8_append_40 hl (by decide) rfl (fun ls hl => ?_)
          refine lv_aload_n hx hb dX8_append_42 rfl (lv_at hl 1 rfl) ?_
          refine va_get (D := D) (ci := 8) (v := .ref s_commands) (C := RX8) (T := TX8) (N := 3) hx hb hts in8 hown hK hH.1 3 rfl rfl 0 (by decide) wd1 (fun _ h9 => h9) rfl dX8_append_43 ?_
          refine lv_iload hx hb dX8_append_46 (lv_at hl 0 rfl) ?_
          refine lv_iload_n hx hb dX8_append_48 rfl (lv_at hl 3 rfl) ?_
          refine sj_iast hx hb hK hH hS 0 0 rfl rfl (sj_vin (by decide) (by decide)) dX8_append_49 (fun H locs hH hS => ?_)
          have hH : sj_H D A ([(s_commands, .inl (ks, 32, .inl (upd fc 20 command))), (s_amounts, .inl (ka, 32, .inl fa)), (s_counts, .inl (kn, 8, .inl (fun _ => 0))), (h0, .inr (8, [.ref s_commands, .ref s_amounts, .ref s_counts]))] ++ []) H := hH
          refine lv_aload_n hx hb dX8_append_50 rfl (lv_at hl 1 rfl) ?_
          refine va_get (D := D) (ci := 8) (v := .ref s_amounts) (C := RX8) (T := TX8) (N := 3) hx hb hts in8 hown hK hH.1 3 rfl rfl 1 (by decide) wd2 (fun _ h9 => h9) rfl dX8_append_51 ?_
          refine lv_iload hx hb dX8_append_54 (lv_at hl 0 rfl) ?_
          refine lv_iload_n hx hb dX8_append_56 rfl (lv_at hl 4 rfl) ?_
          refine sj_iast hx hb hK hH hS 1 1 rfl rfl (sj_vin (by decide) (by decide)) dX8_append_57 (fun H locs hH hS => ?_)
          have hH : sj_H D A ([(s_commands, .inl (ks, 32, .inl (upd fc 20 command))), (s_amounts, .inl (ka, 32, .inl (upd fa 20 k))), (s_counts, .inl (kn, 8, .inl (fun _ => 0))), (h0, .inr (8, [.ref s_commands, .ref s_amounts, .ref s_counts]))] ++ []) H := hH
          refine lv_aload_n hx hb dX8_append_58 rfl (lv_at hl 1 rfl) ?_
          refine va_get (D := D) (ci := 8) (v := .ref s_counts) (C := RX8) (T := TX8) (N := 3) hx hb hts in8 hown hK hH.1 3 rfl rfl 2 (by decide) wd0 (fun _ h9 => h9) rfl dX8_append_59 ?_
          refine lv_iload_n hx hb dX8_append_62 rfl (lv_at hl 2 rfl) ?_
          refine lv_dup2_11 hx hb dX8_append_63 rfl rfl ?_
          refine va_iald hx hb hK hH.1 2 2 rfl rfl (sj_vin (by decide) (by decide)) dX8_append_64 ?_
          refine sj_i (y := 0) (rfl) ?_
          refine lv_iconst (v := 1) hx hb dX8_append_65 (by decide) ?_
          refine lv_iadd hx hb dX8_append_66 ?_
          refine sj_i (y := 1) (by decide) ?_
          refine sj_iast hx hb hK hH hS 2 2 rfl rfl (sj_vin (by decide) (by decide)) dX8_append_67 (fun H locs hH hS => ?_)
          have hH : sj_H D A ([(s_commands, .inl (ks, 32, .inl (upd fc 20 command))), (s_amounts, .inl (ka, 32, .inl (upd fa 20 k))), (s_counts, .inl (kn, 8, .inl (upd (fun _ => 0) 5 1))), (h0, .inr (8, [.ref s_commands, .ref s_amounts, .ref s_counts]))] ++ []) H := hH
          refine lv_iconst (v := 1) hx hb dX8_append_68 (by decide) ?_
          exact sj_zret hx hb hr hlocks (by decide +kernel) hS () (Or.inl ⟨rfl, ⟨by first | omega | decide, by first | omega | decide⟩, by omega, by omega⟩) sj_nil (sj_Knil hK) (Nat.le_of_ble_eq_true rfl) (Nat.le_of_ble_eq_true rfl) dX8_append_69
        · skip
          refine lv_aload_n hx hb dX8_append_18 rfl (lv_at hl 0 rfl) ?_
          refine va_get (D := D) (ci := 8) (v := .ref s_counts) (C := RX8) (T := TX8) (N := 3) hx hb hts in8 hown hK hH.1 3 rfl rfl 2 (by decide) wd0 (fun _ h9 => h9) rfl dX8_append_19 ?_
          refine lv_iload_n hx hb dX8_append_22 rfl (lv_at hl 1 rfl) ?_
          refine va_iald hx hb hK hH.1 2 2 rfl rfl (sj_vin (by decide) (by decide)) dX8_append_23 ?_
          refine sj_i (y := 0) (rfl) ?_
          refine lv_iconst (v := 4) hx hb dX8_append_24 (by decide) ?_
          refine lv_icmp_lt (tgt := 30) hx hb dX8_append_25 (by decide) (fun _ => ?_) (fun h => absurd (by decide) h)
          refine lv_iload_n hx hb dX8_append_30 rfl (lv_at hl 1 rfl) ?_
          refine lv_iconst (v := 4) hx hb dX8_append_31 (by decide) ?_
          refine lv_imul hx hb dX8_append_32 ?_
          refine sj_i (y := 24) (by decide) ?_
          refine lv_aload_n hx hb dX8_append_33 rfl (lv_at hl 0 rfl) ?_
          refine va_get (D := D) (ci := 8) (v := .ref s_counts) (C := RX8) (T := TX8) (N := 3) hx hb hts in8 hown hK hH.1 3 rfl rfl 2 (by decide) wd0 (fun _ h9 => h9) rfl dX8_append_34 ?_
          refine lv_iload_n hx hb dX8_append_37 rfl (lv_at hl 1 rfl) ?_
          refine va_iald hx hb hK hH.1 2 2 rfl rfl (sj_vin (by decide) (by decide)) dX8_append_38 ?_
          refine sj_i (y := 0) (rfl) ?_
          refine lv_iadd hx hb dX8_append_39 ?_
          refine sj_i (y := 24) (by decide) ?_
          refine lv_istore (lv' := [(4, .int 24), (0, .ref h0), (1, .int 6), (2, .int command), (3, .int k)]) hx hb dX8_append_40 hl (by decide) rfl (fun ls hl => ?_)
          refine lv_aload_n hx hb dX8_append_42 rfl (lv_at hl 1 rfl) ?_
          refine va_get (D := D) (ci := 8) (v := .ref s_commands) (C := RX8) (T := TX8) (N := 3) hx hb hts in8 hown hK hH.1 3 rfl rfl 0 (by decide) wd1 (fun _ h9 => h9) rfl dX8_append_43 ?_
          refine lv_iload hx hb dX8_append_46 (lv_at hl 0 rfl) ?_
          refine lv_iload_n hx hb dX8_append_48 rfl (lv_at hl 3 rfl) ?_
          refine sj_iast hx hb hK hH hS 0 0 rfl rfl (sj_vin (by decide) (by decide)) dX8_append_49 (fun H locs hH hS => ?_)
          have hH : sj_H D A ([(s_commands, .inl (ks, 32, .inl (upd fc 24 command))), (s_amounts, .inl (ka, 32, .inl fa)), (s_counts, .inl (kn, 8, .inl (fun _ => 0))), (h0, .inr (8, [.ref s_commands, .ref s_amounts, .ref s_counts]))] ++ []) H := hH
          refine lv_aload_n hx hb dX8_append_50 rfl (lv_at hl 1 rfl) ?_
          refine va_get (D := D) (ci := 8) (v := .ref s_amounts) (C := RX8) (T := TX8) (N := 3) hx hb hts in8 hown hK hH.1 3 rfl rfl 1 (by decide) wd2 (fun _ h9 => h9) rfl dX8_append_51 ?_
          refine lv_iload hx hb dX8_append_54 (lv_at hl 0 rfl) ?_
          refine lv_iload_n hx hb dX8_append_56 rfl (lv_at hl 4 rfl) ?_
          refine sj_iast hx hb hK hH hS 1 1 rfl rfl (sj_vin (by decide) (by decide)) dX8_append_57 (fun H locs hH hS => ?_)
          have hH : sj_H D A ([(s_commands, .inl (ks, 32, .inl (upd fc 24 command))), (s_amounts, .inl (ka, 32, .inl (upd fa 24 k))), (s_counts, .inl (kn, 8, .inl (fun _ => 0))), (h0, .inr (8, [.ref s_commands, .ref s_amounts, .ref s_counts]))] ++ []) H := hH
          refine lv_aload_n hx hb dX8_append_58 rfl (lv_at hl 1 rfl) ?_
          refine va_get (D := D) (ci := 8) (v := .ref s_counts) (C := RX8) (T := TX8) (N := 3) hx hb hts in8 hown hK hH.1 3 rfl rfl 2 (by decide) wd0 (fun _ h9 => h9) rfl dX8_append_59 ?_
          refine lv_iload_n hx hb dX8_append_62 rfl (lv_at hl 2 rfl) ?_
          refine lv_dup2_11 hx hb dX8_append_63 rfl rfl ?_
          refine va_iald hx hb hK hH.1 2 2 rfl rfl (sj_vin (by decide) (by decide)) dX8_append_64 ?_
          refine sj_i (y := 0) (rfl) ?_
          refine lv_iconst (v := 1) hx hb dX8_append_65 (by decide) ?_
          refine lv_iadd hx hb dX8_append_66 ?_
          refine sj_i (y := 1) (by decide) ?_
          refine sj_iast hx hb hK hH hS 2 2 rfl rfl (sj_vin (by decide) (by decide)) dX8_append_67 (fun H locs hH hS => ?_)
          have hH : sj_H D A ([(s_commands, .inl (ks, 32, .inl (upd fc 24 command))), (s_amounts, .inl (ka, 32, .inl (upd fa 24 k))), (s_counts, .inl (kn, 8, .inl (upd (fun _ => 0) 6 1))), (h0, .inr (8, [.ref s_commands, .ref s_amounts, .ref s_counts]))] ++ []) H := hH
          refine lv_iconst (v := 1) hx hb dX8_append_68 (by decide) ?_
          exact sj_zret hx hb hr hlocks (by decide +kernel) hS () (Or.inl ⟨rfl, ⟨by first | omega | decide, by first | omega | decide⟩, by omega, by omega⟩) sj_nil (sj_Knil hK) (Nat.le_of_ble_eq_true rfl) (Nat.le_of_ble_eq_true rfl) dX8_append_69
        · skip
          refine lv_aload_n hx hb dX8_append_18 rfl (lv_at hl 0 rfl) ?_
          refine va_get (D := D) (ci := 8) (v := .ref s_counts) (C := RX8) (T := TX8) (N := 3) hx hb hts in8 hown hK hH.1 3 rfl rfl 2 (by decide) wd0 (fun _ h9 => h9) rfl dX8_append_19 ?_
          refine lv_iload_n hx hb dX8_append_22 rfl (lv_at hl 1 rfl) ?_
          refine va_iald hx hb hK hH.1 2 2 rfl rfl (sj_vin (by decide) (by decide)) dX8_append_23 ?_
          refine sj_i (y := 0) (rfl) ?_
          refine lv_iconst (v := 4) hx hb dX8_append_24 (by decide) ?_
          refine lv_icmp_lt (tgt := 30) hx hb dX8_append_25 (by decide) (fun _ => ?_) (fun h => absurd (by decide) h)
          refine lv_iload_n hx hb dX8_append_30 rfl (lv_at hl 1 rfl) ?_
          refine lv_iconst (v := 4) hx hb dX8_append_31 (by decide) ?_
          refine lv_imul hx hb dX8_append_32 ?_
          refine sj_i (y := 28) (by decide) ?_
          refine lv_aload_n hx hb dX8_append_33 rfl (lv_at hl 0 rfl) ?_
          refine va_get (D := D) (ci := 8) (v := .ref s_counts) (C := RX8) (T := TX8) (N := 3) hx hb hts in8 hown hK hH.1 3 rfl rfl 2 (by decide) wd0 (fun _ h9 => h9) rfl dX8_append_34 ?_
          refine lv_iload_n hx hb dX8_append_37 rfl (lv_at hl 1 rfl) ?_
          refine va_iald hx hb hK hH.1 2 2 rfl rfl (sj_vin (by decide) (by decide)) dX8_append_38 ?_
          refine sj_i (y := 0) (rfl) ?_
          refine lv_iadd hx hb dX8_append_39 ?_
          refine sj_i (y := 28) (by decide) ?_
          refine lv_istore (lv' := [(4, .int 28), (0, .ref h0), (1, .int 7), (2, .int command), (3, .int k)]) hx hb dX8_append_40 hl (by decide) rfl (fun ls hl => ?_)
          refine lv_aload_n hx hb dX8_append_42 rfl (lv_at hl 1 rfl) ?_
          refine va_get (D := D) (ci := 8) (v := .ref s_commands) (C := RX8) (T := TX8) (N := 3) hx hb hts in8 hown hK hH.1 3 rfl rfl 0 (by decide) wd1 (fun _ h9 => h9) rfl dX8_append_43 ?_
          refine lv_iload hx hb dX8_append_46 (lv_at hl 0 rfl) ?_
          refine lv_iload_n hx hb dX8_append_48 rfl (lv_at hl 3 rfl) ?_
          refine sj_iast hx hb hK hH hS 0 0 rfl rfl (sj_vin (by decide) (by decide)) dX8_append_49 (fun H locs hH hS => ?_)
          have hH : sj_H D A ([(s_commands, .inl (ks, 32, .inl (upd fc 28 command))), (s_amounts, .inl (ka, 32, .inl fa)), (s_counts, .inl (kn, 8, .inl (fun _ => 0))), (h0, .inr (8, [.ref s_commands, .ref s_amounts, .ref s_counts]))] ++ []) H := hH
          refine lv_aload_n hx hb dX8_append_50 rfl (lv_at hl 1 rfl) ?_
          refine va_get (D := D) (ci := 8) (v := .ref s_amounts) (C := RX8) (T := TX8) (N := 3) hx hb hts in8 hown hK hH.1 3 rfl rfl 1 (by decide) wd2 (fun _ h9 => h9) rfl dX8_append_51 ?_
          refine lv_iload hx hb dX8_append_54 (lv_at hl 0 rfl) ?_
          refine lv_iload_n hx hb dX8_append_56 rfl (lv_at hl 4 rfl) ?_
          refine sj_iast hx hb hK hH hS 1 1 rfl rfl (sj_vin (by decide) (by decide)) dX8_append_57 (fun H locs hH hS => ?_)
          have hH : sj_H D A ([(s_commands, .inl (ks, 32, .inl (upd fc 28 command))), (s_amounts, .inl (ka, 32, .inl (upd fa 28 k))), (s_counts, .inl (kn, 8, .inl (fun _ => 0))), (h0, .inr (8, [.ref s_commands, .ref s_amounts, .ref s_counts]))] ++ []) H := hH
          refine lv_aload_n hx hb dX8_append_58 rfl (lv_at hl 1 rfl) ?_
          refine va_get (D := D) (ci := 8) (v := .ref s_counts) (C := RX8) (T := TX8) (N := 3) hx hb hts in8 hown hK hH.1 3 rfl rfl 2 (by decide) wd0 (fun _ h9 => h9) rfl dX8_append_59 ?_
          refine lv_iload_n hx hb dX8_append_62 rfl (lv_at hl 2 rfl) ?_
          refine lv_dup2_11 hx hb dX8_append_63 rfl rfl ?_
          refine va_iald hx hb hK hH.1 2 2 rfl rfl (sj_vin (by decide) (by decide)) dX8_append_64 ?_
          refine sj_i (y := 0) (rfl) ?_
          refine lv_iconst (v := 1) hx hb dX8_append_65 (by decide) ?_
          refine lv_iadd hx hb dX8_append_66 ?_
          refine sj_i (y := 1) (by decide) ?_
          refine sj_iast hx hb hK hH hS 2 2 rfl rfl (sj_vin (by decide) (by decide)) dX8_append_67 (fun H locs hH hS => ?_)
          have hH : sj_H D A ([(s_commands, .inl (ks, 32, .inl (upd fc 28 command))), (s_amounts, .inl (ka, 32, .inl (upd fa 28 k))), (s_counts, .inl (kn, 8, .inl (upd (fun _ => 0) 7 1))), (h0, .inr (8, [.ref s_commands, .ref s_amounts, .ref s_counts]))] ++ []) H := hH
          refine lv_iconst (v := 1) hx hb dX8_append_68 (by decide) ?_
          exact sj_zret hx hb hr hlocks (by decide +kernel) hS () (Or.inl ⟨rfl, ⟨by first | omega | decide, by first | omega | decide⟩, by omega, by omega⟩) sj_nil (sj_Knil hK) (Nat.le_of_ble_eq_true rfl) (Nat.le_of_ble_eq_true rfl) dX8_append_69
  · skip
    refine lv_if_eq (tgt := 28) hx hb dX8_append_5 (by decide) (fun _ => ?_) (fun h => absurd (by decide) h)
    refine lv_iconst (v := 0) hx hb dX8_append_28 (by decide) ?_
    exact sj_zret hx hb hr hlocks (by decide +kernel) hS () (Or.inr ⟨rfl, by omega⟩) sj_nil (sj_Knil hK) (Nat.le_of_ble_eq_true rfl) (Nat.le_of_ble_eq_true rfl) dX8_append_29
set_option maxHeartbeats 4000000 in
set_option maxRecDepth 100000 in
/-- command on a new StoryDesk -/
theorem c_X11_command (l : Launch) (D : va_G) (h0 : Nat) (script : Int32) (command : Int32) (k : Int32) (d_text : Nat) (d_reading : Nat) (d_cases : Nat) (d_scripts : Nat) (d_run : Nat) (d_definitions : Nat) (d_definitionScripts : Nat) (d_hookTags : Nat) (d_hookBefore : Nat) (d_hookScripts : Nat) (d_filterInUse : Nat) (d_filterToTry : Nat) (r_workers : Nat) (r_queue : Nat) (r_events : Nat) (s_commands : Nat) (s_amounts : Nat) (s_counts : Nat) (fc : Nat → Int32) (fa : Nat → Int32) (ks : ClassId) (ka : ClassId) (kn : ClassId) (sz : Nat)  : Met l yX11_command wsX11_command ({ frames := 2, cells := 0, slots := 0, locals := 45 }) (va_Pc [.ref h0, .int script, .int command, .int k] (sj_B D [(h0, .inr (11, [.ref d_text, .ref d_reading, .ref d_cases, .ref d_scripts, .ref d_run, .ref d_definitions, .ref d_definitionScripts, .int 0, .ref d_hookTags, .ref d_hookBefore, .ref d_hookScripts, .int 0, .ref d_filterInUse, .ref d_filterToTry])), (d_run, .inr (7, [.ref r_workers, .int 0, .int 0, .ref r_queue, .int 0, .int 0, .int 0, .int 0, .int 0, .ref r_events, .int 0])), (d_scripts, .inr (8, [.ref s_commands, .ref s_amounts, .ref s_counts])), (s_commands, .inl (ks, 32, .inl fc)), (s_amounts, .inl (ka, 32, .inl fa)), (s_counts, .inl (kn, 8, .inl (fun _ => 0)))] [(ks, .int), (ka, .int), (kn, .int)] sz sj_n)) (sj_Qi (S := Unit) D (fun r _ => r = if (0 ≤ script.toInt ∧ script.toInt ≤ 7) ∧ 0 ≤ command.toInt ∧ command.toInt ≤ 8 then 1 else 0) (fun u => []) (fun u => []) (va_A [(h0, .inr (11, [.ref d_text, .ref d_reading, .ref d_cases, .ref d_scripts, .ref d_run, .ref d_definitions, .ref d_definitionScripts, .int 0, .ref d_hookTags, .ref d_hookBefore, .ref d_hookScripts, .int 0, .ref d_filterInUse, .ref d_filterToTry])), (d_run, .inr (7, [.ref r_workers, .int 0, .int 0, .ref r_queue, .int 0, .int 0, .int 0, .int 0, .int 0, .ref r_events, .int 0])), (d_scripts, .inr (8, [.ref s_commands, .ref s_amounts, .ref s_counts])), (s_commands, .inl (ks, 32, .inl fc)), (s_amounts, .inl (ka, 32, .inl fa)), (s_counts, .inl (kn, 8, .inl (fun _ => 0)))] sz)) 0 0 (va_A [(h0, .inr (11, [.ref d_text, .ref d_reading, .ref d_cases, .ref d_scripts, .ref d_run, .ref d_definitions, .ref d_definitionScripts, .int 0, .ref d_hookTags, .ref d_hookBefore, .ref d_hookScripts, .int 0, .ref d_filterInUse, .ref d_filterToTry])), (d_run, .inr (7, [.ref r_workers, .int 0, .int 0, .ref r_queue, .int 0, .int 0, .int 0, .int 0, .int 0, .ref r_events, .int 0])), (d_scripts, .inr (8, [.ref s_commands, .ref s_amounts, .ref s_counts])), (s_commands, .inl (ks, 32, .inl fc)), (s_amounts, .inl (ka, 32, .inl fa)), (s_counts, .inl (kn, 8, .inl (fun _ => 0)))] sz) := by
  refine sj_met (cc := cX11_command) (maxL := 4) (ret := (some .boolean)) (by decide) rfl (Nat.le_of_ble_eq_true rfl) ?_
  intro p e s m below meth c A ls hx hb hr hml hts hown hlocks hnm hA hsz hS hH hK hE hl
  have hown : s.vm.findClass RX11 = some m.cls := hown
  have in7 : ∀ w ∈ wsX70, w ∈ wsX11_command := by decide +kernel
  have in11 : ∀ w ∈ wsX110, w ∈ wsX11_command := by decide +kernel
  have wd0 := hts (.fieldLink RX11 44 "StoryDesk" "run" "LStoryDesk$Run;") (by decide +kernel)
  have wd1 := hts (.fieldLink RX11 88 "StoryDesk$Run" "underWay" "Z") (by decide +kernel)
  have wd2 := hts (.fieldLink RX11 37 "StoryDesk" "scripts" "LStoryDesk$Scripts;") (by decide +kernel)
  have hl : lv_has ls 4 [(0, .ref h0), (1, .int script), (2, .int command), (3, .int k)] := hl
  have hH : sj_H D A ([(h0, .inr (11, [.ref d_text, .ref d_reading, .ref d_cases, .ref d_scripts, .ref d_run, .ref d_definitions, .ref d_definitionScripts, .int 0, .ref d_hookTags, .ref d_hookBefore, .ref d_hookScripts, .int 0, .ref d_filterInUse, .ref d_filterToTry])), (d_run, .inr (7, [.ref r_workers, .int 0, .int 0, .ref r_queue, .int 0, .int 0, .int 0, .int 0, .int 0, .ref r_events, .int 0])), (d_scripts, .inr (8, [.ref s_commands, .ref s_amounts, .ref s_counts])), (s_commands, .inl (ks, 32, .inl fc)), (s_amounts, .inl (ka, 32, .inl fa)), (s_counts, .inl (kn, 8, .inl (fun _ => 0)))] ++ []) s.heap := hH
  refine lv_aload_n hx hb dX11_command_0 rfl (lv_at hl 0 rfl) ?_
  refine va_get (D := D) (ci := 11) (v := .ref d_run) (C := RX11) (T := TX11) (N := 14) hx hb hts in11 hown hK hH.1 0 rfl rfl 4 (by decide) wd0 (fun _ h9 => h9) rfl dX11_command_1 ?_
  refine va_get (D := D) (ci := 7) (v := .int 0) (C := RX7) (T := TX7) (N := 11) hx hb hts in7 hown hK hH.1 1 rfl rfl 8 (by decide) wd1 (fun _ h9 => h9) rfl dX11_command_4 ?_
  refine lv_if_ne (tgt := 27) hx hb dX11_command_7 (by decide) (fun h => absurd (by decide) h) (fun _ => ?_)
  refine lv_aload_n hx hb dX11_command_10 rfl (lv_at hl 0 rfl) ?_
  refine va_get (D := D) (ci := 11) (v := .ref d_scripts) (C := RX11) (T := TX11) (N := 14) hx hb hts in11 hown hK hH.1 0 rfl rfl 3 (by decide) wd2 (fun _ h9 => h9) rfl dX11_command_11 ?_
  refine lv_iload_n hx hb dX11_command_14 rfl (lv_at hl 1 rfl) ?_
  refine lv_iload_n hx hb dX11_command_15 rfl (lv_at hl 2 rfl) ?_
  refine lv_iload_n hx hb dX11_command_16 rfl (lv_at hl 3 rfl) ?_
  refine sj_calli (wr := [(h0, .inr (11, [.ref d_text, .ref d_reading, .ref d_cases, .ref d_scripts, .ref d_run, .ref d_definitions, .ref d_definitionScripts, .int 0, .ref d_hookTags, .ref d_hookBefore, .ref d_hookScripts, .int 0, .ref d_filterInUse, .ref d_filterToTry])), (d_run, .inr (7, [.ref r_workers, .int 0, .int 0, .ref r_queue, .int 0, .int 0, .int 0, .int 0, .int 0, .ref r_events, .int 0]))]) (va_runV (As := [.int script, .int command, .int k]) (rest := []) ⟨hx, hb, hml, hown, hts⟩ (c_X8_append l D d_scripts script command k s_commands s_amounts s_counts fc fa ks ka kn s.heap.size) (cwV 3 hts gX11_command_X8_append rfl rfl rfl (by decide +kernel) ⟨(Nat.le_of_ble_eq_true rfl), (Nat.le_of_ble_eq_true rfl)⟩) (sj_preV (q := (RX8, TX8, 3)) hH hK [2, 3, 4, 5] rfl rfl [0, 1, 2] rfl rfl rfl sj_bln sj_exn) rfl rfl hl.1 rfl (lv_room (Nat.le_of_ble_eq_true rfl)) dX11_command_17 ⟨(Nat.le_of_ble_eq_true rfl), (Nat.le_of_ble_eq_true rfl)⟩) hH hK hS hA [2, 3, 4, 5] [0, 1] rfl rfl rfl rfl (by decide) rfl rfl (fun r_2 u_3 H locs hw_4 hH hK hS => ?_)
  have hH : sj_H D A ([(h0, .inr (11, [.ref d_text, .ref d_reading, .ref d_cases, .ref d_scripts, .ref d_run, .ref d_definitions, .ref d_definitionScripts, .int 0, .ref d_hookTags, .ref d_hookBefore, .ref d_hookScripts, .int 0, .ref d_filterInUse, .ref d_filterToTry])), (d_run, .inr (7, [.ref r_workers, .int 0, .int 0, .ref r_queue, .int 0, .int 0, .int 0, .int 0, .int 0, .ref r_events, .int 0]))] ++ []) H := hH
  have hK : va_K D vwCl [(ks, .int), (ka, .int), (kn, .int)] s := by simpa using hK
  rcases hw_4 with ⟨rfl, hc_hw_4⟩ | ⟨rfl, hc_hw_4⟩
  · skip
    refine lv_if_eq (tgt := 27) hx hb dX11_command_20 (by decide) (fun h => absurd h (by decide)) (fun _ => ?_)
    refine lv_iconst (v := 1) hx hb dX11_command_23 (by decide) ?_
    refine lv_goto (tgt := 28) hx hb dX11_command_24 (by decide) ?_
    exact sj_zret hx hb hr hlocks (by decide +kernel) hS () (by first | exact (if_pos (by assumption)).symm | exact (if_neg (by assumption)).symm) sj_nil (sj_Knil hK) (Nat.le_of_ble_eq_true rfl) (Nat.le_of_ble_eq_true rfl) dX11_command_28
  · skip
    refine lv_if_eq (tgt := 27) hx hb dX11_command_20 (by decide) (fun _ => ?_) (fun h => absurd (by decide) h)
    refine lv_iconst (v := 0) hx hb dX11_command_27 (by decide) ?_
    exact sj_zret hx hb hr hlocks (by decide +kernel) hS () (by first | exact (if_pos (by assumption)).symm | exact (if_neg (by assumption)).symm) sj_nil (sj_Knil hK) (Nat.le_of_ble_eq_true rfl) (Nat.le_of_ble_eq_true rfl) dX11_command_28
set_option maxHeartbeats 4000000 in
set_option maxRecDepth 100000 in
/-- define without a text -/
theorem c_X11_define (l : Launch) (hl0 : l.stackTraces = false) (D : va_G) (h0 : Nat) (script : Int32) (d_text : Nat) (d_reading : Nat) (d_cases : Nat) (d_scripts : Nat) (d_run : Nat) (d_definitions : Nat) (d_definitionScripts : Nat) (d_hookTags : Nat) (d_hookBefore : Nat) (d_hookScripts : Nat) (d_filterInUse : Nat) (d_filterToTry : Nat) (r_workers : Nat) (r_queue : Nat) (r_events : Nat) (kd : ClassId) (fd : Nat → Option Nat) (x0 : Nat) (x_chars : Nat) (x_choiceStarts : Nat) (x_kinds : Nat) (x_firstChoices : Nat) (x_open : Nat) (x_begins : Nat) (x_lengths : Nat) (x_argumentKinds : Nat) (fx : Nat → Int32) (kx : ClassId) (tch : Nat) (sz : Nat) (hfd : fd 0 = some x0) : vx_Met l yX11_define wsX11_define ({ frames := 6, cells := 1, slots := 6, locals := 90 }) (va_Pc [.ref h0, .int script] (sj_B D [(h0, .inr (11, [.ref d_text, .ref d_reading, .ref d_cases, .ref d_scripts, .ref d_run, .ref d_definitions, .ref d_definitionScripts, .int 0, .ref d_hookTags, .ref d_hookBefore, .ref d_hookScripts, .int 0, .ref d_filterInUse, .ref d_filterToTry])), (d_run, .inr (7, [.ref r_workers, .int 0, .int 0, .ref r_queue, .int 0, .int 0, .int 0, .int 0, .int 0, .ref r_events, .int 0])), (d_definitions, .inl (kd, 13, .inr (.inr (.inr (.inr fd))))), (x0, .inr (2, [.ref x_chars, .ref x_choiceStarts, .int 0, .ref x_kinds, .ref x_firstChoices, .int 0, .int 0, .ref x_open, .ref x_begins, .ref x_lengths, .ref x_argumentKinds])), (x_choiceStarts, .inl (kx, 62, .inl fx)), (d_text, .inr (3, [.ref tch, .int 0]))] [(kd, .object RX2), (kx, .int)] sz (sj_xt "java/lang/IllegalArgumentException" (va_A [(h0, .inr (11, [.ref d_text, .ref d_reading, .ref d_cases, .ref d_scripts, .ref d_run, .ref d_definitions, .ref d_definitionScripts, .int 0, .ref d_hookTags, .ref d_hookBefore, .ref d_hookScripts, .int 0, .ref d_filterInUse, .ref d_filterToTry])), (d_run, .inr (7, [.ref r_workers, .int 0, .int 0, .ref r_queue, .int 0, .int 0, .int 0, .int 0, .int 0, .ref r_events, .int 0])), (d_definitions, .inl (kd, 13, .inr (.inr (.inr (.inr fd))))), (x0, .inr (2, [.ref x_chars, .ref x_choiceStarts, .int 0, .ref x_kinds, .ref x_firstChoices, .int 0, .int 0, .ref x_open, .ref x_begins, .ref x_lengths, .ref x_argumentKinds])), (x_choiceStarts, .inl (kx, 62, .inl fx)), (d_text, .inr (3, [.ref tch, .int 0]))] sz)))) (sj_Qi (S := Unit) D (fun _ _ => False) (fun u => []) (fun u => []) (va_A [(h0, .inr (11, [.ref d_text, .ref d_reading, .ref d_cases, .ref d_scripts, .ref d_run, .ref d_definitions, .ref d_definitionScripts, .int 0, .ref d_hookTags, .ref d_hookBefore, .ref d_hookScripts, .int 0, .ref d_filterInUse, .ref d_filterToTry])), (d_run, .inr (7, [.ref r_workers, .int 0, .int 0, .ref r_queue, .int 0, .int 0, .int 0, .int 0, .int 0, .ref r_events, .int 0])), (d_definitions, .inl (kd, 13, .inr (.inr (.inr (.inr fd))))), (x0, .inr (2, [.ref x_chars, .ref x_choiceStarts, .int 0, .ref x_kinds, .ref x_firstChoices, .int 0, .int 0, .ref x_open, .ref x_begins, .ref x_lengths, .ref x_argumentKinds])), (x_choiceStarts, .inl (kx, 62, .inl fx)), (d_text, .inr (3, [.ref tch, .int 0]))] sz)) (sj_XC "java/lang/IllegalArgumentException" (True) (va_A [(h0, .inr (11, [.ref d_text, .ref d_reading, .ref d_cases, .ref d_scripts, .ref d_run, .ref d_definitions, .ref d_definitionScripts, .int 0, .ref d_hookTags, .ref d_hookBefore, .ref d_hookScripts, .int 0, .ref d_filterInUse, .ref d_filterToTry])), (d_run, .inr (7, [.ref r_workers, .int 0, .int 0, .ref r_queue, .int 0, .int 0, .int 0, .int 0, .int 0, .ref r_events, .int 0])), (d_definitions, .inl (kd, 13, .inr (.inr (.inr (.inr fd))))), (x0, .inr (2, [.ref x_chars, .ref x_choiceStarts, .int 0, .ref x_kinds, .ref x_firstChoices, .int 0, .int 0, .ref x_open, .ref x_begins, .ref x_lengths, .ref x_argumentKinds])), (x_choiceStarts, .inl (kx, 62, .inl fx)), (d_text, .inr (3, [.ref tch, .int 0]))] sz)) 1 6 (va_A [(h0, .inr (11, [.ref d_text, .ref d_reading, .ref d_cases, .ref d_scripts, .ref d_run, .ref d_definitions, .ref d_definitionScripts, .int 0, .ref d_hookTags, .ref d_hookBefore, .ref d_hookScripts, .int 0, .ref d_filterInUse, .ref d_filterToTry])), (d_run, .inr (7, [.ref r_workers, .int 0, .int 0, .ref r_queue, .int 0, .int 0, .int 0, .int 0, .int 0, .ref r_events, .int 0])), (d_definitions, .inl (kd, 13, .inr (.inr (.inr (.inr fd))))), (x0, .inr (2, [.ref x_chars, .ref x_choiceStarts, .int 0, .ref x_kinds, .ref x_firstChoices, .int 0, .int 0, .ref x_open, .ref x_begins, .ref x_lengths, .ref x_argumentKinds])), (x_choiceStarts, .inl (kx, 62, .inl fx)), (d_text, .inr (3, [.ref tch, .int 0]))] sz) := by
  refine sj_vmet (Ex := fun A => sj_xt "java/lang/IllegalArgumentException" A) (XC := fun A => sj_XC "java/lang/IllegalArgumentException" (True) A) (cc := cX11_define) (maxL := 3) (ret := (some .int)) (by decide) rfl (Nat.le_of_ble_eq_true rfl) ?_
  intro p e s m below meth c A ls hx hb hr hml hts hown hlocks hnt hA hsz hS hH hK hE hl
  have hown : s.vm.findClass RX11 = some m.cls := hown
  have in3 : ∀ w ∈ wsX30, w ∈ wsX11_define := by decide +kernel
  have in7 : ∀ w ∈ wsX70, w ∈ wsX11_define := by decide +kernel
  have in11 : ∀ w ∈ wsX110, w ∈ wsX11_define := by decide +kernel
  have wd0 := hts (.fieldLink RX11 44 "StoryDesk" "run" "LStoryDesk$Run;") (by decide +kernel)
  have wd1 := hts (.fieldLink RX11 88 "StoryDesk$Run" "underWay" "Z") (by decide +kernel)
  have wd2 := hts (.fieldLink RX11 50 "StoryDesk" "definitions" "[LStoryDesk$Expression;") (by decide +kernel)
  have wd3 := hts (.fieldLink RX11 114 "StoryDesk" "definitionCount" "I") (by decide +kernel)
  have wd4 := hts (.fieldLink RX11 14 "StoryDesk" "text" "LStoryDesk$Letters;") (by decide +kernel)
  have wd5 := hts (.fieldLink RX11 80 "StoryDesk$Letters" "length" "I") (by decide +kernel)
  have wd6 := hts (.classLink RX11 124 "java/lang/IllegalArgumentException") (by decide +kernel)
  have wd7 := hts (.initialized "java/lang/IllegalArgumentException") (by decide +kernel)
  have thr_126 : ∀ w ∈ (vx_at0 RX11 126 "java/lang/IllegalArgumentException" ["java/lang/RuntimeException", "java/lang/Exception"]).filter goodWord, w ∈ wsX11_define := by decide +kernel
  have hl : lv_has ls 3 [(0, .ref h0), (1, .int script)] := hl
  have hH : sj_H D A ([(h0, .inr (11, [.ref d_text, .ref d_reading, .ref d_cases, .ref d_scripts, .ref d_run, .ref d_definitions, .ref d_definitionScripts, .int 0, .ref d_hookTags, .ref d_hookBefore, .ref d_hookScripts, .int 0, .ref d_filterInUse, .ref d_filterToTry])), (d_run, .inr (7, [.ref r_workers, .int 0, .int 0, .ref r_queue, .int 0, .int 0, .int 0, .int 0, .int 0, .ref r_events, .int 0])), (d_definitions, .inl (kd, 13, .inr (.inr (.inr (.inr fd))))), (x0, .inr (2, [.ref x_chars, .ref x_choiceStarts, .int 0, .ref x_kinds, .ref x_firstChoices, .int 0, .int 0, .ref x_open, .ref x_begins, .ref x_lengths, .ref x_argumentKinds])), (x_choiceStarts, .inl (kx, 62, .inl fx)), (d_text, .inr (3, [.ref tch, .int 0]))] ++ []) s.heap := hH
  refine lv_aload_n hx hb dX11_define_0 rfl (lv_at hl 0 rfl) ?_
  refine va_get (D := D) (ci := 11) (v := .ref d_run) (C := RX11) (T := TX11) (N := 14) hx hb hts in11 hown hK hH.1 0 rfl rfl 4 (by decide) wd0 (fun _ h9 => h9) rfl dX11_define_1 ?_
  refine va_get (D := D) (ci := 7) (v := .int 0) (C := RX7) (T := TX7) (N := 11) hx hb hts in7 hown hK hH.1 1 rfl rfl 8 (by decide) wd1 (fun _ h9 => h9) rfl dX11_define_4 ?_
  refine lv_if_eq (tgt := 18) hx hb dX11_define_7 (by decide) (fun _ => ?_) (fun h => absurd (by decide) h)
  refine lv_aload_n hx hb dX11_define_18 rfl (lv_at hl 0 rfl) ?_
  refine va_get (D := D) (ci := 11) (v := .ref d_definitions) (C := RX11) (T := TX11) (N := 14) hx hb hts in11 hown hK hH.1 0 rfl rfl 5 (by decide) wd2 (fun _ h9 => h9) rfl dX11_define_19 ?_
  refine lv_aload_n hx hb dX11_define_22 rfl (lv_at hl 0 rfl) ?_
  refine va_get (D := D) (ci := 11) (v := .int 0) (C := RX11) (T := TX11) (N := 14) hx hb hts in11 hown hK hH.1 0 rfl rfl 7 (by decide) wd3 (fun _ h9 => h9) rfl dX11_define_23 ?_
  refine va_aldq hx hb hK hH.1 2 0 rfl rfl (sj_vin (by decide) (by decide)) dX11_define_26 ?_
  refine sj_v (y := .ref x0) (by rw [sb_cl0, hfd]; rfl) ?_
  refine lv_aload_n hx hb dX11_define_27 rfl (lv_at hl 0 rfl) ?_
  refine va_get (D := D) (ci := 11) (v := .ref d_text) (C := RX11) (T := TX11) (N := 14) hx hb hts in11 hown hK hH.1 0 rfl rfl 0 (by decide) wd4 (fun _ h9 => h9) rfl dX11_define_28 ?_
  refine sj_calli (wr := [(h0, .inr (11, [.ref d_text, .ref d_reading, .ref d_cases, .ref d_scripts, .ref d_run, .ref d_definitions, .ref d_definitionScripts, .int 0, .ref d_hookTags, .ref d_hookBefore, .ref d_hookScripts, .int 0, .ref d_filterInUse, .ref d_filterToTry])), (d_run, .inr (7, [.ref r_workers, .int 0, .int 0, .ref r_queue, .int 0, .int 0, .int 0, .int 0, .int 0, .ref r_events, .int 0])), (d_definitions, .inl (kd, 13, .inr (.inr (.inr (.inr fd)))))]) (va_runV (As := [.ref d_text]) (rest := []) ⟨hx, hb, hml, hown, hts⟩ (c_X2_take l D x0 d_text x_chars x_choiceStarts x_kinds x_firstChoices x_open x_begins x_lengths x_argumentKinds fx kx tch s.heap.size) (cwV 1 hts gX11_define_X2_take rfl rfl rfl (by decide +kernel) ⟨(Nat.le_of_ble_eq_true rfl), (Nat.le_of_ble_eq_true rfl)⟩) (sj_preV (q := (RX2, TX2, 11)) hH hK [3, 4, 5] rfl rfl [1] rfl rfl rfl sj_bln sj_exn) rfl rfl hl.1 rfl (lv_room (Nat.le_of_ble_eq_true rfl)) dX11_define_31 ⟨(Nat.le_of_ble_eq_true rfl), (Nat.le_of_ble_eq_true rfl)⟩) hH hK hS hA [3, 4, 5] [0, 1, 2] rfl rfl rfl rfl (by decide) rfl rfl (fun r_2 u_3 H locs hw_4 hH hK hS => ?_)
  have hH : sj_H D A ([(h0, .inr (11, [.ref d_text, .ref d_reading, .ref d_cases, .ref d_scripts, .ref d_run, .ref d_definitions, .ref d_definitionScripts, .int 0, .ref d_hookTags, .ref d_hookBefore, .ref d_hookScripts, .int 0, .ref d_filterInUse, .ref d_filterToTry])), (d_run, .inr (7, [.ref r_workers, .int 0, .int 0, .ref r_queue, .int 0, .int 0, .int 0, .int 0, .int 0, .ref r_events, .int 0])), (d_definitions, .inl (kd, 13, .inr (.inr (.inr (.inr fd))))), (d_text, .inr (3, [.ref tch, .int 0]))] ++ []) H := hH
  have hK : va_K D vwCl [(kd, .object RX2), (kx, .int)] s := by simpa using hK
  subst hw_4
  refine lv_istore_n (lv' := [(2, .int 0), (0, .ref h0), (1, .int script)]) hx hb dX11_define_34 rfl hl (by decide) rfl (fun ls hl => ?_)
  refine lv_aload_n hx hb dX11_define_35 rfl (lv_at hl 1 rfl) ?_
  refine va_get (D := D) (ci := 11) (v := .ref d_text) (C := RX11) (T := TX11) (N := 14) hx hb hts in11 hown hK hH.1 0 rfl rfl 0 (by decide) wd4 (fun _ h9 => h9) rfl dX11_define_36 ?_
  refine lv_iconst (v := 0) hx hb dX11_define_39 (by decide) ?_
  refine sj_put (D := D) (ci := 3) (v := .int 0) (ty := .int) (C := RX3) (F := TX3) (N := 2) hx hb hts in3 tyX3 tyX3_ok nmX3 hown hK hH hS 3 rfl rfl 1 (by decide) wd5 (fun _ h9 => h9) rfl (by decide +kernel) rfl rfl (Nat.le_of_ble_eq_true rfl) dX11_define_40 (fun H locs (hH : sj_H D A ([(h0, .inr (11, [.ref d_text, .ref d_reading, .ref d_cases, .ref d_scripts, .ref d_run, .ref d_definitions, .ref d_definitionScripts, .int 0, .ref d_hookTags, .ref d_hookBefore, .ref d_hookScripts, .int 0, .ref d_filterInUse, .ref d_filterToTry])), (d_run, .inr (7, [.ref r_workers, .int 0, .int 0, .ref r_queue, .int 0, .int 0, .int 0, .int 0, .int 0, .ref r_events, .int 0])), (d_definitions, .inl (kd, 13, .inr (.inr (.inr (.inr fd))))), (d_text, .inr (3, [.ref tch, .int 0]))] ++ []) H) hS => ?_)
  refine lv_iload_n hx hb dX11_define_43 rfl (lv_at hl 0 rfl) ?_
  refine lv_if_eq (tgt := 58) hx hb dX11_define_44 (by decide) (fun _ => ?_) (fun h => absurd (by decide) h)
  exact sj_throw hx hb hl0 (ik := 124) (ic := 126) (cls := "java/lang/IllegalArgumentException") trivial hown (by decide) wd6 wd7 (fun w h => hts w (thr_126 w h)) (by decide +kernel) (by decide +kernel) hE hS (hl.1.trans hml.symm) dX11_define_58 dX11_define_61 dX11_define_62 dX11_define_65 hnt (Nat.le_of_ble_eq_true rfl) (Nat.le_of_ble_eq_true rfl) (Nat.le_of_ble_eq_true rfl) (Nat.le_of_ble_eq_true rfl) hlocks (Nat.le_of_ble_eq_true rfl) (Nat.le_of_ble_eq_true rfl)
set_option maxHeartbeats 4000000 in
set_option maxRecDepth 100000 in
/-- hook without a text -/
theorem c_X11_hook (l : Launch) (hl0 : l.stackTraces = false) (D : va_G) (h0 : Nat) (before : Int32) (script : Int32) (d_text : Nat) (d_reading : Nat) (d_cases : Nat) (d_scripts : Nat) (d_run : Nat) (d_definitions : Nat) (d_definitionScripts : Nat) (d_hookTags : Nat) (d_hookBefore : Nat) (d_hookScripts : Nat) (d_filterInUse : Nat) (d_filterToTry : Nat) (r_workers : Nat) (r_queue : Nat) (r_events : Nat) (kh : ClassId) (fh : Nat → Option Nat) (g0 : Nat) (g_signs : Nat) (kb : ClassId) (fb : Nat → Int32) (ki : ClassId) (fi : Nat → Int32) (s_commands : Nat) (s_amounts : Nat) (s_counts : Nat) (tch : Nat) (sz : Nat) (hfh : fh 0 = some g0) : vx_Met l yX11_hook wsX11_hook ({ frames := 6, cells := 1, slots := 6, locals := 90 }) (va_Pc [.ref h0, .int before, .int script] (sj_B D [(h0, .inr (11, [.ref d_text, .ref d_reading, .ref d_cases, .ref d_scripts, .ref d_run, .ref d_definitions, .ref d_definitionScripts, .int 0, .ref d_hookTags, .ref d_hookBefore, .ref d_hookScripts, .int 0, .ref d_filterInUse, .ref d_filterToTry])), (d_run, .inr (7, [.ref r_workers, .int 0, .int 0, .ref r_queue, .int 0, .int 0, .int 0, .int 0, .int 0, .ref r_events, .int 0])), (d_hookTags, .inl (kh, 9, .inr (.inr (.inr (.inr fh))))), (g0, .inr (9, [.ref g_signs, .int 0, .int 0, .int 0])), (d_hookBefore, .inl (kb, 8, .inl fb)), (d_hookScripts, .inl (ki, 8, .inl fi)), (d_scripts, .inr (8, [.ref s_commands, .ref s_amounts, .ref s_counts])), (d_text, .inr (3, [.ref tch, .int 0]))] [(kh, .object RX9), (kb, .boolean), (ki, .int)] sz (sj_xt "java/lang/IllegalArgumentException" (va_A [(h0, .inr (11, [.ref d_text, .ref d_reading, .ref d_cases, .ref d_scripts, .ref d_run, .ref d_definitions, .ref d_definitionScripts, .int 0, .ref d_hookTags, .ref d_hookBefore, .ref d_hookScripts, .int 0, .ref d_filterInUse, .ref d_filterToTry])), (d_run, .inr (7, [.ref r_workers, .int 0, .int 0, .ref r_queue, .int 0, .int 0, .int 0, .int 0, .int 0, .ref r_events, .int 0])), (d_hookTags, .inl (kh, 9, .inr (.inr (.inr (.inr fh))))), (g0, .inr (9, [.ref g_signs, .int 0, .int 0, .int 0])), (d_hookBefore, .inl (kb, 8, .inl fb)), (d_hookScripts, .inl (ki, 8, .inl fi)), (d_scripts, .inr (8, [.ref s_commands, .ref s_amounts, .ref s_counts])), (d_text, .inr (3, [.ref tch, .int 0]))] sz)))) (sj_Qi (S := Unit) D (fun r _ => r = 0 ∧ 0 ≤ script.toInt ∧ script.toInt ≤ 7) (fun u => []) (fun u => []) (va_A [(h0, .inr (11, [.ref d_text, .ref d_reading, .ref d_cases, .ref d_scripts, .ref d_run, .ref d_definitions, .ref d_definitionScripts, .int 0, .ref d_hookTags, .ref d_hookBefore, .ref d_hookScripts, .int 0, .ref d_filterInUse, .ref d_filterToTry])), (d_run, .inr (7, [.ref r_workers, .int 0, .int 0, .ref r_queue, .int 0, .int 0, .int 0, .int 0, .int 0, .ref r_events, .int 0])), (d_hookTags, .inl (kh, 9, .inr (.inr (.inr (.inr fh))))), (g0, .inr (9, [.ref g_signs, .int 0, .int 0, .int 0])), (d_hookBefore, .inl (kb, 8, .inl fb)), (d_hookScripts, .inl (ki, 8, .inl fi)), (d_scripts, .inr (8, [.ref s_commands, .ref s_amounts, .ref s_counts])), (d_text, .inr (3, [.ref tch, .int 0]))] sz)) (sj_XC "java/lang/IllegalArgumentException" (¬ (0 ≤ script.toInt ∧ script.toInt ≤ 7)) (va_A [(h0, .inr (11, [.ref d_text, .ref d_reading, .ref d_cases, .ref d_scripts, .ref d_run, .ref d_definitions, .ref d_definitionScripts, .int 0, .ref d_hookTags, .ref d_hookBefore, .ref d_hookScripts, .int 0, .ref d_filterInUse, .ref d_filterToTry])), (d_run, .inr (7, [.ref r_workers, .int 0, .int 0, .ref r_queue, .int 0, .int 0, .int 0, .int 0, .int 0, .ref r_events, .int 0])), (d_hookTags, .inl (kh, 9, .inr (.inr (.inr (.inr fh))))), (g0, .inr (9, [.ref g_signs, .int 0, .int 0, .int 0])), (d_hookBefore, .inl (kb, 8, .inl fb)), (d_hookScripts, .inl (ki, 8, .inl fi)), (d_scripts, .inr (8, [.ref s_commands, .ref s_amounts, .ref s_counts])), (d_text, .inr (3, [.ref tch, .int 0]))] sz)) 1 6 (va_A [(h0, .inr (11, [.ref d_text, .ref d_reading, .ref d_cases, .ref d_scripts, .ref d_run, .ref d_definitions, .ref d_definitionScripts, .int 0, .ref d_hookTags, .ref d_hookBefore, .ref d_hookScripts, .int 0, .ref d_filterInUse, .ref d_filterToTry])), (d_run, .inr (7, [.ref r_workers, .int 0, .int 0, .ref r_queue, .int 0, .int 0, .int 0, .int 0, .int 0, .ref r_events, .int 0])), (d_hookTags, .inl (kh, 9, .inr (.inr (.inr (.inr fh))))), (g0, .inr (9, [.ref g_signs, .int 0, .int 0, .int 0])), (d_hookBefore, .inl (kb, 8, .inl fb)), (d_hookScripts, .inl (ki, 8, .inl fi)), (d_scripts, .inr (8, [.ref s_commands, .ref s_amounts, .ref s_counts])), (d_text, .inr (3, [.ref tch, .int 0]))] sz) := by
  refine sj_vmet (Ex := fun A => sj_xt "java/lang/IllegalArgumentException" A) (XC := fun A => sj_XC "java/lang/IllegalArgumentException" (¬ (0 ≤ script.toInt ∧ script.toInt ≤ 7)) A) (cc := cX11_hook) (maxL := 4) (ret := (some .int)) (by decide) rfl (Nat.le_of_ble_eq_true rfl) ?_
  intro p e s m below meth c A ls hx hb hr hml hts hown hlocks hnt hA hsz hS hH hK hE hl
  have hown : s.vm.findClass RX11 = some m.cls := hown
  have in3 : ∀ w ∈ wsX30, w ∈ wsX11_hook := by decide +kernel
  have in7 : ∀ w ∈ wsX70, w ∈ wsX11_hook := by decide +kernel
  have in11 : ∀ w ∈ wsX110, w ∈ wsX11_hook := by decide +kernel
  have wd0 := hts (.fieldLink RX11 44 "StoryDesk" "run" "LStoryDesk$Run;") (by decide +kernel)
  have wd1 := hts (.fieldLink RX11 88 "StoryDesk$Run" "underWay" "Z") (by decide +kernel)
  have wd2 := hts (.fieldLink RX11 61 "StoryDesk" "hookTags" "[LStoryDesk$TagExpression;") (by decide +kernel)
  have wd3 := hts (.fieldLink RX11 130 "StoryDesk" "hookCount" "I") (by decide +kernel)
  have wd4 := hts (.fieldLink RX11 14 "StoryDesk" "text" "LStoryDesk$Letters;") (by decide +kernel)
  have wd5 := hts (.fieldLink RX11 80 "StoryDesk$Letters" "length" "I") (by decide +kernel)
  have wd6 := hts (.fieldLink RX11 37 "StoryDesk" "scripts" "LStoryDesk$Scripts;") (by decide +kernel)
  have wd7 := hts (.fieldLink RX11 66 "StoryDesk" "hookBefore" "[Z") (by decide +kernel)
  have wd8 := hts (.fieldLink RX11 70 "StoryDesk" "hookScripts" "[I") (by decide +kernel)
  have wd9 := hts (.classLink RX11 124 "java/lang/IllegalArgumentException") (by decide +kernel)
  have wd10 := hts (.initialized "java/lang/IllegalArgumentException") (by decide +kernel)
  have thr_126 : ∀ w ∈ (vx_at0 RX11 126 "java/lang/IllegalArgumentException" ["java/lang/RuntimeException", "java/lang/Exception"]).filter goodWord, w ∈ wsX11_hook := by decide +kernel
  have hl : lv_has ls 4 [(0, .ref h0), (1, .int before), (2, .int script)] := hl
  have hH : sj_H D A ([(h0, .inr (11, [.ref d_text, .ref d_reading, .ref d_cases, .ref d_scripts, .ref d_run, .ref d_definitions, .ref d_definitionScripts, .int 0, .ref d_hookTags, .ref d_hookBefore, .ref d_hookScripts, .int 0, .ref d_filterInUse, .ref d_filterToTry])), (d_run, .inr (7, [.ref r_workers, .int 0, .int 0, .ref r_queue, .int 0, .int 0, .int 0, .int 0, .int 0, .ref r_events, .int 0])), (d_hookTags, .inl (kh, 9, .inr (.inr (.inr (.inr fh))))), (g0, .inr (9, [.ref g_signs, .int 0, .int 0, .int 0])), (d_hookBefore, .inl (kb, 8, .inl fb)), (d_hookScripts, .inl (ki, 8, .inl fi)), (d_scripts, .inr (8, [.ref s_commands, .ref s_amounts, .ref s_counts])), (d_text, .inr (3, [.ref tch, .int 0]))] ++ []) s.heap := hH
  refine lv_aload_n hx hb dX11_hook_0 rfl (lv_at hl 0 rfl) ?_
  refine va_get (D := D) (ci := 11) (v := .ref d_run) (C := RX11) (T := TX11) (N := 14) hx hb hts in11 hown hK hH.1 0 rfl rfl 4 (by decide) wd0 (fun _ h9 => h9) rfl dX11_hook_1 ?_
  refine va_get (D := D) (ci := 7) (v := .int 0) (C := RX7) (T := TX7) (N := 11) hx hb hts in7 hown hK hH.1 1 rfl rfl 8 (by decide) wd1 (fun _ h9 => h9) rfl dX11_hook_4 ?_
  refine lv_if_eq (tgt := 18) hx hb dX11_hook_7 (by decide) (fun _ => ?_) (fun h => absurd (by decide) h)
  refine lv_aload_n hx hb dX11_hook_18 rfl (lv_at hl 0 rfl) ?_
  refine va_get (D := D) (ci := 11) (v := .ref d_hookTags) (C := RX11) (T := TX11) (N := 14) hx hb hts in11 hown hK hH.1 0 rfl rfl 8 (by decide) wd2 (fun _ h9 => h9) rfl dX11_hook_19 ?_
  refine lv_aload_n hx hb dX11_hook_22 rfl (lv_at hl 0 rfl) ?_
  refine va_get (D := D) (ci := 11) (v := .int 0) (C := RX11) (T := TX11) (N := 14) hx hb hts in11 hown hK hH.1 0 rfl rfl 11 (by decide) wd3 (fun _ h9 => h9) rfl dX11_hook_23 ?_
  refine va_aldq hx hb hK hH.1 2 0 rfl rfl (sj_vin (by decide) (by decide)) dX11_hook_26 ?_
  refine sj_v (y := .ref g0) (by rw [sb_cl0, hfh]; rfl) ?_
  refine lv_aload_n hx hb dX11_hook_27 rfl (lv_at hl 0 rfl) ?_
  refine va_get (D := D) (ci := 11) (v := .ref d_text) (C := RX11) (T := TX11) (N := 14) hx hb hts in11 hown hK hH.1 0 rfl rfl 0 (by decide) wd4 (fun _ h9 => h9) rfl dX11_hook_28 ?_
  refine sj_calli (wr := [(h0, .inr (11, [.ref d_text, .ref d_reading, .ref d_cases, .ref d_scripts, .ref d_run, .ref d_definitions, .ref d_definitionScripts, .int 0, .ref d_hookTags, .ref d_hookBefore, .ref d_hookScripts, .int 0, .ref d_filterInUse, .ref d_filterToTry])), (d_run, .inr (7, [.ref r_workers, .int 0, .int 0, .ref r_queue, .int 0, .int 0, .int 0, .int 0, .int 0, .ref r_events, .int 0])), (d_hookTags, .inl (kh, 9, .inr (.inr (.inr (.inr fh))))), (d_hookBefore, .inl (kb, 8, .inl fb)), (d_hookScripts, .inl (ki, 8, .inl fi)), (d_scripts, .inr (8, [.ref s_commands, .ref s_amounts, .ref s_counts]))]) (va_runV (As := [.ref d_text]) (rest := []) ⟨hx, hb, hml, hown, hts⟩ (c_X9_take l D g0 d_text g_signs tch s.heap.size) (cwV 1 hts gX11_hook_X9_take rfl rfl rfl (by decide +kernel) ⟨(Nat.le_of_ble_eq_true rfl), (Nat.le_of_ble_eq_true rfl)⟩) (sj_preV (q := (RX9, TX9, 4)) hH hK [3, 7] rfl rfl [] rfl rfl rfl sj_bln sj_exn) rfl rfl hl.1 rfl (lv_room (Nat.le_of_ble_eq_true rfl)) dX11_hook_31 ⟨(Nat.le_of_ble_eq_true rfl), (Nat.le_of_ble_eq_true rfl)⟩) hH hK hS hA [3, 7] [0, 1, 2, 4, 5, 6] rfl rfl rfl rfl (by decide) rfl rfl (fun r_2 u_3 H locs hw_4 hH hK hS => ?_)
  have hH : sj_H D A ([(h0, .inr (11, [.ref d_text, .ref d_reading, .ref d_cases, .ref d_scripts, .ref d_run, .ref d_definitions, .ref d_definitionScripts, .int 0, .ref d_hookTags, .ref d_hookBefore, .ref d_hookScripts, .int 0, .ref d_filterInUse, .ref d_filterToTry])), (d_run, .inr (7, [.ref r_workers, .int 0, .int 0, .ref r_queue, .int 0, .int 0, .int 0, .int 0, .int 0, .ref r_events, .int 0])), (d_hookTags, .inl (kh, 9, .inr (.inr (.inr (.inr fh))))), (d_hookBefore, .inl (kb, 8, .inl fb)), (d_hookScripts, .inl (ki, 8, .inl fi)), (d_scripts, .inr (8, [.ref s_commands, .ref s_amounts, .ref s_counts])), (d_text, .inr (3, [.ref tch, .int 0]))] ++ []) H := hH
  have hK : va_K D vwCl [(kh, .object RX9), (kb, .boolean), (ki, .int)] s := by simpa using hK
  subst hw_4
  refine lv_istore_n (lv' := [(3, .int 1), (0, .ref h0), (1, .int before), (2, .int script)]) hx hb dX11_hook_34 rfl hl (by decide) rfl (fun ls hl => ?_)
  refine lv_aload_n hx hb dX11_hook_35 rfl (lv_at hl 1 rfl) ?_
  refine va_get (D := D) (ci := 11) (v := .ref d_text) (C := RX11) (T := TX11) (N := 14) hx hb hts in11 hown hK hH.1 0 rfl rfl 0 (by decide) wd4 (fun _ h9 => h9) rfl dX11_hook_36 ?_
  refine lv_iconst (v := 0) hx hb dX11_hook_39 (by decide) ?_
  refine sj_put (D := D) (ci := 3) (v := .int 0) (ty := .int) (C := RX3) (F := TX3) (N := 2) hx hb hts in3 tyX3 tyX3_ok nmX3 hown hK hH hS 6 rfl rfl 1 (by decide) wd5 (fun _ h9 => h9) rfl (by decide +kernel) rfl rfl (Nat.le_of_ble_eq_true rfl) dX11_hook_40 (fun H locs (hH : sj_H D A ([(h0, .inr (11, [.ref d_text, .ref d_reading, .ref d_cases, .ref d_scripts, .ref d_run, .ref d_definitions, .ref d_definitionScripts, .int 0, .ref d_hookTags, .ref d_hookBefore, .ref d_hookScripts, .int 0, .ref d_filterInUse, .ref d_filterToTry])), (d_run, .inr (7, [.ref r_workers, .int 0, .int 0, .ref r_queue, .int 0, .int 0, .int 0, .int 0, .int 0, .ref r_events, .int 0])), (d_hookTags, .inl (kh, 9, .inr (.inr (.inr (.inr fh))))), (d_hookBefore, .inl (kb, 8, .inl fb)), (d_hookScripts, .inl (ki, 8, .inl fi)), (d_scripts, .inr (8, [.ref s_commands, .ref s_amounts, .ref s_counts])), (d_text, .inr (3, [.ref tch, .int 0]))] ++ []) H) hS => ?_)
  refine lv_iload_n hx hb dX11_hook_43 rfl (lv_at hl 0 rfl) ?_
  refine lv_if_eq (tgt := 58) hx hb dX11_hook_44 (by decide) (fun h => absurd h (by decide)) (fun _ => ?_)
  refine lv_aload_n hx hb dX11_hook_47 rfl (lv_at hl 1 rfl) ?_
  refine va_get (D := D) (ci := 11) (v := .ref d_scripts) (C := RX11) (T := TX11) (N := 14) hx hb hts in11 hown hK hH.1 0 rfl rfl 3 (by decide) wd6 (fun _ h9 => h9) rfl dX11_hook_48 ?_
  refine lv_iload_n hx hb dX11_hook_51 rfl (lv_at hl 3 rfl) ?_
  refine sj_calli (wr := [(h0, .inr (11, [.ref d_text, .ref d_reading, .ref d_cases, .ref d_scripts, .ref d_run, .ref d_definitions, .ref d_definitionScripts, .int 0, .ref d_hookTags, .ref d_hookBefore, .ref d_hookScripts, .int 0, .ref d_filterInUse, .ref d_filterToTry])), (d_run, .inr (7, [.ref r_workers, .int 0, .int 0, .ref r_queue, .int 0, .int 0, .int 0, .int 0, .int 0, .ref r_events, .int 0])), (d_hookTags, .inl (kh, 9, .inr (.inr (.inr (.inr fh))))), (d_hookBefore, .inl (kb, 8, .inl fb)), (d_hookScripts, .inl (ki, 8, .inl fi)), (d_text, .inr (3, [.ref tch, .int 0]))]) (va_runV (As := [.int script]) (rest := []) ⟨hx, hb, hml, hown, hts⟩ (c_X8_has l D d_scripts script s_commands s_amounts s_counts H.size) (cwV 1 hts gX11_hook_X8_has rfl rfl rfl (by decide +kernel) ⟨(Nat.le_of_ble_eq_true rfl), (Nat.le_of_ble_eq_true rfl)⟩) (sj_preV (q := (RX8, TX8, 3)) hH hK [5] rfl rfl [] rfl rfl rfl sj_bln sj_exn) rfl rfl hl.1 rfl (lv_room (Nat.le_of_ble_eq_true rfl)) dX11_hook_52 ⟨(Nat.le_of_ble_eq_true rfl), (Nat.le_of_ble_eq_true rfl)⟩) hH hK hS hA [5] [0, 1, 2, 3, 4, 6] rfl rfl rfl rfl (by decide) rfl rfl (fun r_6 u_7 H locs hw_8 hH hK hS => ?_)
  have hH : sj_H D A ([(h0, .inr (11, [.ref d_text, .ref d_reading, .ref d_cases, .ref d_scripts, .ref d_run, .ref d_definitions, .ref d_definitionScripts, .int 0, .ref d_hookTags, .ref d_hookBefore, .ref d_hookScripts, .int 0, .ref d_filterInUse, .ref d_filterToTry])), (d_run, .inr (7, [.ref r_workers, .int 0, .int 0, .ref r_queue, .int 0, .int 0, .int 0, .int 0, .int 0, .ref r_events, .int 0])), (d_hookTags, .inl (kh, 9, .inr (.inr (.inr (.inr fh))))), (d_hookBefore, .inl (kb, 8, .inl fb)), (d_hookScripts, .inl (ki, 8, .inl fi)), (d_text, .inr (3, [.ref tch, .int 0])), (d_scripts, .inr (8, [.ref s_commands, .ref s_amounts, .ref s_counts]))] ++ []) H := hH
  have hK : va_K D vwCl [(kh, .object RX9), (kb, .boolean), (ki, .int)] s := by simpa using hK
  rcases hw_8 with ⟨rfl, hc_hw_8⟩ | ⟨rfl, hc_hw_8⟩
  · skip
    have d_9 := hc_hw_8.1
    have d_10 := hc_hw_8.2
    refine lv_if_ne (tgt := 66) hx hb dX11_hook_55 (by decide) (fun _ => ?_) (fun h => absurd h (by decide))
    refine lv_aload_n hx hb dX11_hook_66 rfl (lv_at hl 1 rfl) ?_
    refine va_get (D := D) (ci := 11) (v := .int 0) (C := RX11) (T := TX11) (N := 14) hx hb hts in11 hown hK hH.1 0 rfl rfl 11 (by decide) wd3 (fun _ h9 => h9) rfl dX11_hook_67 ?_
    refine lv_bipush (v := 8) hx hb dX11_hook_70 (by decide) ?_
    refine lv_icmp_lt (tgt := 83) hx hb dX11_hook_72 (by decide) (fun _ => ?_) (fun h => absurd (by decide) h)
    refine lv_aload_n hx hb dX11_hook_83 rfl (lv_at hl 1 rfl) ?_
    refine va_get (D := D) (ci := 11) (v := .ref d_hookBefore) (C := RX11) (T := TX11) (N := 14) hx hb hts in11 hown hK hH.1 0 rfl rfl 9 (by decide) wd7 (fun _ h9 => h9) rfl dX11_hook_84 ?_
    refine lv_aload_n hx hb dX11_hook_87 rfl (lv_at hl 1 rfl) ?_
    refine va_get (D := D) (ci := 11) (v := .int 0) (C := RX11) (T := TX11) (N := 14) hx hb hts in11 hown hK hH.1 0 rfl rfl 11 (by decide) wd3 (fun _ h9 => h9) rfl dX11_hook_88 ?_
    refine lv_iload_n hx hb dX11_hook_91 rfl (lv_at hl 2 rfl) ?_
    refine sj_zast hx hb hK hH hS 3 1 rfl rfl (sj_vin (by decide) (by decide)) dX11_hook_92 (fun H locs hH hS => ?_)
    have hH : sj_H D A ([(h0, .inr (11, [.ref d_text, .ref d_reading, .ref d_cases, .ref d_scripts, .ref d_run, .ref d_definitions, .ref d_definitionScripts, .int 0, .ref d_hookTags, .ref d_hookBefore, .ref d_hookScripts, .int 0, .ref d_filterInUse, .ref d_filterToTry])), (d_run, .inr (7, [.ref r_workers, .int 0, .int 0, .ref r_queue, .int 0, .int 0, .int 0, .int 0, .int 0, .ref r_events, .int 0])), (d_hookTags, .inl (kh, 9, .inr (.inr (.inr (.inr fh))))), (d_hookBefore, .inl (kb, 8, .inl (upd fb 0 (vp_nar .boolean before)))), (d_hookScripts, .inl (ki, 8, .inl fi)), (d_text, .inr (3, [.ref tch, .int 0])), (d_scripts, .inr (8, [.ref s_commands, .ref s_amounts, .ref s_counts]))] ++ []) H := hH
    refine lv_aload_n hx hb dX11_hook_93 rfl (lv_at hl 1 rfl) ?_
    refine va_get (D := D) (ci := 11) (v := .ref d_hookScripts) (C := RX11) (T := TX11) (N := 14) hx hb hts in11 hown hK hH.1 0 rfl rfl 10 (by decide) wd8 (fun _ h9 => h9) rfl dX11_hook_94 ?_
    refine lv_aload_n hx hb dX11_hook_97 rfl (lv_at hl 1 rfl) ?_
    refine va_get (D := D) (ci := 11) (v := .int 0) (C := RX11) (T := TX11) (N := 14) hx hb hts in11 hown hK hH.1 0 rfl rfl 11 (by decide) wd3 (fun _ h9 => h9) rfl dX11_hook_98 ?_
    refine lv_iload_n hx hb dX11_hook_101 rfl (lv_at hl 3 rfl) ?_
    refine sj_iast hx hb hK hH hS 4 2 rfl rfl (sj_vin (by decide) (by decide)) dX11_hook_102 (fun H locs hH hS => ?_)
    have hH : sj_H D A ([(h0, .inr (11, [.ref d_text, .ref d_reading, .ref d_cases, .ref d_scripts, .ref d_run, .ref d_definitions, .ref d_definitionScripts, .int 0, .ref d_hookTags, .ref d_hookBefore, .ref d_hookScripts, .int 0, .ref d_filterInUse, .ref d_filterToTry])), (d_run, .inr (7, [.ref r_workers, .int 0, .int 0, .ref r_queue, .int 0, .int 0, .int 0, .int 0, .int 0, .ref r_events, .int 0])), (d_hookTags, .inl (kh, 9, .inr (.inr (.inr (.inr fh))))), (d_hookBefore, .inl (kb, 8, .inl (upd fb 0 (vp_nar .boolean before)))), (d_hookScripts, .inl (ki, 8, .inl (upd fi 0 script))), (d_text, .inr (3, [.ref tch, .int 0])), (d_scripts, .inr (8, [.ref s_commands, .ref s_amounts, .ref s_counts]))] ++ []) H := hH
    refine lv_aload_n hx hb dX11_hook_103 rfl (lv_at hl 1 rfl) ?_
    refine lv_dup hx hb dX11_hook_104 rfl ?_
    refine va_get (D := D) (ci := 11) (v := .int 0) (C := RX11) (T := TX11) (N := 14) hx hb hts in11 hown hK hH.1 0 rfl rfl 11 (by decide) wd3 (fun _ h9 => h9) rfl dX11_hook_105 ?_
    refine lv_iconst (v := 1) hx hb dX11_hook_108 (by decide) ?_
    refine lv_iadd hx hb dX11_hook_109 ?_
    refine sj_i (y := 1) (by decide) ?_
    refine sj_put (D := D) (ci := 11) (v := .int 1) (ty := .int) (C := RX11) (F := TX11) (N := 14) hx hb hts in11 tyX11 tyX11_ok nmX11 hown hK hH hS 0 rfl rfl 11 (by decide) wd3 (fun _ h9 => h9) rfl (by decide +kernel) rfl rfl (Nat.le_of_ble_eq_true rfl) dX11_hook_110 (fun H locs (hH : sj_H D A ([(h0, .inr (11, [.ref d_text, .ref d_reading, .ref d_cases, .ref d_scripts, .ref d_run, .ref d_definitions, .ref d_definitionScripts, .int 0, .ref d_hookTags, .ref d_hookBefore, .ref d_hookScripts, .int 1, .ref d_filterInUse, .ref d_filterToTry])), (d_run, .inr (7, [.ref r_workers, .int 0, .int 0, .ref r_queue, .int 0, .int 0, .int 0, .int 0, .int 0, .ref r_events, .int 0])), (d_hookTags, .inl (kh, 9, .inr (.inr (.inr (.inr fh))))), (d_hookBefore, .inl (kb, 8, .inl (upd fb 0 (vp_nar .boolean before)))), (d_hookScripts, .inl (ki, 8, .inl (upd fi 0 script))), (d_text, .inr (3, [.ref tch, .int 0])), (d_scripts, .inr (8, [.ref s_commands, .ref s_amounts, .ref s_counts]))] ++ []) H) hS => ?_)
    refine lv_aload_n hx hb dX11_hook_113 rfl (lv_at hl 1 rfl) ?_
    refine va_get (D := D) (ci := 11) (v := .int 1) (C := RX11) (T := TX11) (N := 14) hx hb hts in11 hown hK hH.1 0 rfl rfl 11 (by decide) wd3 (fun _ h9 => h9) rfl dX11_hook_114 ?_
    refine lv_iconst (v := 1) hx hb dX11_hook_117 (by decide) ?_
    refine lv_isub hx hb dX11_hook_118 ?_
    refine sj_i (y := 0) (by decide) ?_
    refine vx_ret ?_
    exact sj_zret hx hb hr hlocks rfl hS () ⟨rfl, by omega, by omega⟩ sj_nil (sj_Knil hK) (Nat.le_of_ble_eq_true rfl) (Nat.le_of_ble_eq_true rfl) dX11_hook_119
  · skip
    refine lv_if_ne (tgt := 66) hx hb dX11_hook_55 (by decide) (fun h => absurd (by decide) h) (fun _ => ?_)
    exact sj_throw hx hb hl0 (ik := 124) (ic := 126) (cls := "java/lang/IllegalArgumentException") (by omega) hown (by decide) wd9 wd10 (fun w h => hts w (thr_126 w h)) (by decide +kernel) (by decide +kernel) hE hS (hl.1.trans hml.symm) dX11_hook_58 dX11_hook_61 dX11_hook_62 dX11_hook_65 hnt (Nat.le_of_ble_eq_true rfl) (Nat.le_of_ble_eq_true rfl) (Nat.le_of_ble_eq_true rfl) (Nat.le_of_ble_eq_true rfl) hlocks (Nat.le_of_ble_eq_true rfl) (Nat.le_of_ble_eq_true rfl)
set_option maxHeartbeats 4000000 in
set_option maxRecDepth 100000 in
/-- filter without a text -/
theorem c_X11_filter (l : Launch) (hl0 : l.stackTraces = false) (D : va_G) (h0 : Nat) (d_text : Nat) (d_reading : Nat) (d_cases : Nat) (d_scripts : Nat) (d_run : Nat) (d_definitions : Nat) (d_definitionScripts : Nat) (d_hookTags : Nat) (d_hookBefore : Nat) (d_hookScripts : Nat) (d_filterInUse : Nat) (d_filterToTry : Nat) (r_workers : Nat) (r_queue : Nat) (r_events : Nat) (g_signs : Nat) (c_reading : Nat) (c_stepText : Nat) (c_cellText : Nat) (c_all : Nat) (tch : Nat) (sz : Nat)  : vx_Met l yX11_filter wsX11_filter ({ frames := 2, cells := 0, slots := 0, locals := 43 }) (va_Pc [.ref h0] (sj_B D [(h0, .inr (11, [.ref d_text, .ref d_reading, .ref d_cases, .ref d_scripts, .ref d_run, .ref d_definitions, .ref d_definitionScripts, .int 0, .ref d_hookTags, .ref d_hookBefore, .ref d_hookScripts, .int 0, .ref d_filterInUse, .ref d_filterToTry])), (d_run, .inr (7, [.ref r_workers, .int 0, .int 0, .ref r_queue, .int 0, .int 0, .int 0, .int 0, .int 0, .ref r_events, .int 0])), (d_filterToTry, .inr (9, [.ref g_signs, .int 0, .int 0, .int 0])), (d_text, .inr (3, [.ref tch, .int 0])), (d_cases, .inr (1, [.ref c_reading, .ref c_stepText, .ref c_cellText, .ref c_all, .int 0]))] [] sz (sj_xt "java/lang/IllegalArgumentException" (va_A [(h0, .inr (11, [.ref d_text, .ref d_reading, .ref d_cases, .ref d_scripts, .ref d_run, .ref d_definitions, .ref d_definitionScripts, .int 0, .ref d_hookTags, .ref d_hookBefore, .ref d_hookScripts, .int 0, .ref d_filterInUse, .ref d_filterToTry])), (d_run, .inr (7, [.ref r_workers, .int 0, .int 0, .ref r_queue, .int 0, .int 0, .int 0, .int 0, .int 0, .ref r_events, .int 0])), (d_filterToTry, .inr (9, [.ref g_signs, .int 0, .int 0, .int 0])), (d_text, .inr (3, [.ref tch, .int 0])), (d_cases, .inr (1, [.ref c_reading, .ref c_stepText, .ref c_cellText, .ref c_all, .int 0]))] sz)))) (sj_Qi (S := Unit) D (fun r _ => r = 0) (fun u => []) (fun u => []) (va_A [(h0, .inr (11, [.ref d_text, .ref d_reading, .ref d_cases, .ref d_scripts, .ref d_run, .ref d_definitions, .ref d_definitionScripts, .int 0, .ref d_hookTags, .ref d_hookBefore, .ref d_hookScripts, .int 0, .ref d_filterInUse, .ref d_filterToTry])), (d_run, .inr (7, [.ref r_workers, .int 0, .int 0, .ref r_queue, .int 0, .int 0, .int 0, .int 0, .int 0, .ref r_events, .int 0])), (d_filterToTry, .inr (9, [.ref g_signs, .int 0, .int 0, .int 0])), (d_text, .inr (3, [.ref tch, .int 0])), (d_cases, .inr (1, [.ref c_reading, .ref c_stepText, .ref c_cellText, .ref c_all, .int 0]))] sz)) (sj_XC "java/lang/IllegalArgumentException" (False) (va_A [(h0, .inr (11, [.ref d_text, .ref d_reading, .ref d_cases, .ref d_scripts, .ref d_run, .ref d_definitions, .ref d_definitionScripts, .int 0, .ref d_hookTags, .ref d_hookBefore, .ref d_hookScripts, .int 0, .ref d_filterInUse, .ref d_filterToTry])), (d_run, .inr (7, [.ref r_workers, .int 0, .int 0, .ref r_queue, .int 0, .int 0, .int 0, .int 0, .int 0, .ref r_events, .int 0])), (d_filterToTry, .inr (9, [.ref g_signs, .int 0, .int 0, .int 0])), (d_text, .inr (3, [.ref tch, .int 0])), (d_cases, .inr (1, [.ref c_reading, .ref c_stepText, .ref c_cellText, .ref c_all, .int 0]))] sz)) 0 0 (va_A [(h0, .inr (11, [.ref d_text, .ref d_reading, .ref d_cases, .ref d_scripts, .ref d_run, .ref d_definitions, .ref d_definitionScripts, .int 0, .ref d_hookTags, .ref d_hookBefore, .ref d_hookScripts, .int 0, .ref d_filterInUse, .ref d_filterToTry])), (d_run, .inr (7, [.ref r_workers, .int 0, .int 0, .ref r_queue, .int 0, .int 0, .int 0, .int 0, .int 0, .ref r_events, .int 0])), (d_filterToTry, .inr (9, [.ref g_signs, .int 0, .int 0, .int 0])), (d_text, .inr (3, [.ref tch, .int 0])), (d_cases, .inr (1, [.ref c_reading, .ref c_stepText, .ref c_cellText, .ref c_all, .int 0]))] sz) := by
  refine sj_vmet (Ex := fun A => sj_xt "java/lang/IllegalArgumentException" A) (XC := fun A => sj_XC "java/lang/IllegalArgumentException" (False) A) (cc := cX11_filter) (maxL := 5) (ret := (some .int)) (by decide) rfl (Nat.le_of_ble_eq_true rfl) ?_
  intro p e s m below meth c A ls hx hb hr hml hts hown hlocks hnt hA hsz hS hH hK hE hl
  have hown : s.vm.findClass RX11 = some m.cls := hown
  have in1 : ∀ w ∈ wsX10, w ∈ wsX11_filter := by decide +kernel
  have in3 : ∀ w ∈ wsX30, w ∈ wsX11_filter := by decide +kernel
  have in7 : ∀ w ∈ wsX70, w ∈ wsX11_filter := by decide +kernel
  have in11 : ∀ w ∈ wsX110, w ∈ wsX11_filter := by decide +kernel
  have wd0 := hts (.fieldLink RX11 44 "StoryDesk" "run" "LStoryDesk$Run;") (by decide +kernel)
  have wd1 := hts (.fieldLink RX11 88 "StoryDesk$Run" "underWay" "Z") (by decide +kernel)
  have wd2 := hts (.fieldLink RX11 77 "StoryDesk" "filterToTry" "LStoryDesk$TagExpression;") (by decide +kernel)
  have wd3 := hts (.fieldLink RX11 14 "StoryDesk" "text" "LStoryDesk$Letters;") (by decide +kernel)
  have wd4 := hts (.fieldLink RX11 80 "StoryDesk$Letters" "length" "I") (by decide +kernel)
  have wd5 := hts (.fieldLink RX11 73 "StoryDesk" "filterInUse" "LStoryDesk$TagExpression;") (by decide +kernel)
  have wd6 := hts (.fieldLink RX11 30 "StoryDesk" "cases" "LStoryDesk$Cases;") (by decide +kernel)
  have wd7 := hts (.fieldLink RX11 134 "StoryDesk$Cases" "count" "I") (by decide +kernel)
  have hl : lv_has ls 5 [(0, .ref h0)] := hl
  have hH : sj_H D A ([(h0, .inr (11, [.ref d_text, .ref d_reading, .ref d_cases, .ref d_scripts, .ref d_run, .ref d_definitions, .ref d_definitionScripts, .int 0, .ref d_hookTags, .ref d_hookBefore, .ref d_hookScripts, .int 0, .ref d_filterInUse, .ref d_filterToTry])), (d_run, .inr (7, [.ref r_workers, .int 0, .int 0, .ref r_queue, .int 0, .int 0, .int 0, .int 0, .int 0, .ref r_events, .int 0])), (d_filterToTry, .inr (9, [.ref g_signs, .int 0, .int 0, .int 0])), (d_text, .inr (3, [.ref tch, .int 0])), (d_cases, .inr (1, [.ref c_reading, .ref c_stepText, .ref c_cellText, .ref c_all, .int 0]))] ++ []) s.heap := hH
  refine lv_aload_n hx hb dX11_filter_0 rfl (lv_at hl 0 rfl) ?_
  refine va_get (D := D) (ci := 11) (v := .ref d_run) (C := RX11) (T := TX11) (N := 14) hx hb hts in11 hown hK hH.1 0 rfl rfl 4 (by decide) wd0 (fun _ h9 => h9) rfl dX11_filter_1 ?_
  refine va_get (D := D) (ci := 7) (v := .int 0) (C := RX7) (T := TX7) (N := 11) hx hb hts in7 hown hK hH.1 1 rfl rfl 8 (by decide) wd1 (fun _ h9 => h9) rfl dX11_filter_4 ?_
  refine lv_if_eq (tgt := 18) hx hb dX11_filter_7 (by decide) (fun _ => ?_) (fun h => absurd (by decide) h)
  refine lv_aload_n hx hb dX11_filter_18 rfl (lv_at hl 0 rfl) ?_
  refine va_get (D := D) (ci := 11) (v := .ref d_filterToTry) (C := RX11) (T := TX11) (N := 14) hx hb hts in11 hown hK hH.1 0 rfl rfl 13 (by decide) wd2 (fun _ h9 => h9) rfl dX11_filter_19 ?_
  refine lv_aload_n hx hb dX11_filter_22 rfl (lv_at hl 0 rfl) ?_
  refine va_get (D := D) (ci := 11) (v := .ref d_text) (C := RX11) (T := TX11) (N := 14) hx hb hts in11 hown hK hH.1 0 rfl rfl 0 (by decide) wd3 (fun _ h9 => h9) rfl dX11_filter_23 ?_
  refine sj_calli (wr := [(h0, .inr (11, [.ref d_text, .ref d_reading, .ref d_cases, .ref d_scripts, .ref d_run, .ref d_definitions, .ref d_definitionScripts, .int 0, .ref d_hookTags, .ref d_hookBefore, .ref d_hookScripts, .int 0, .ref d_filterInUse, .ref d_filterToTry])), (d_run, .inr (7, [.ref r_workers, .int 0, .int 0, .ref r_queue, .int 0, .int 0, .int 0, .int 0, .int 0, .ref r_events, .int 0])), (d_cases, .inr (1, [.ref c_reading, .ref c_stepText, .ref c_cellText, .ref c_all, .int 0]))]) (va_runV (As := [.ref d_text]) (rest := []) ⟨hx, hb, hml, hown, hts⟩ (c_X9_take l D d_filterToTry d_text g_signs tch s.heap.size) (cwV 1 hts gX11_filter_X9_take rfl rfl rfl (by decide +kernel) ⟨(Nat.le_of_ble_eq_true rfl), (Nat.le_of_ble_eq_true rfl)⟩) (sj_preV (q := (RX9, TX9, 4)) hH hK [2, 3] rfl rfl [] rfl rfl rfl sj_bln sj_exn) rfl rfl hl.1 rfl (lv_room (Nat.le_of_ble_eq_true rfl)) dX11_filter_26 ⟨(Nat.le_of_ble_eq_true rfl), (Nat.le_of_ble_eq_true rfl)⟩) hH hK hS hA [2, 3] [0, 1, 4] rfl rfl rfl rfl (by decide) rfl rfl (fun r_2 u_3 H locs hw_4 hH hK hS => ?_)
  have hH : sj_H D A ([(h0, .inr (11, [.ref d_text, .ref d_reading, .ref d_cases, .ref d_scripts, .ref d_run, .ref d_definitions, .ref d_definitionScripts, .int 0, .ref d_hookTags, .ref d_hookBefore, .ref d_hookScripts, .int 0, .ref d_filterInUse, .ref d_filterToTry])), (d_run, .inr (7, [.ref r_workers, .int 0, .int 0, .ref r_queue, .int 0, .int 0, .int 0, .int 0, .int 0, .ref r_events, .int 0])), (d_cases, .inr (1, [.ref c_reading, .ref c_stepText, .ref c_cellText, .ref c_all, .int 0])), (d_text, .inr (3, [.ref tch, .int 0]))] ++ []) H := hH
  have hK : va_K D vwCl [] s := by simpa using hK
  subst hw_4
  refine lv_istore_n (lv' := [(1, .int 1), (0, .ref h0)]) hx hb dX11_filter_29 rfl hl (by decide) rfl (fun ls hl => ?_)
  refine lv_aload_n hx hb dX11_filter_30 rfl (lv_at hl 1 rfl) ?_
  refine va_get (D := D) (ci := 11) (v := .ref d_text) (C := RX11) (T := TX11) (N := 14) hx hb hts in11 hown hK hH.1 0 rfl rfl 0 (by decide) wd3 (fun _ h9 => h9) rfl dX11_filter_31 ?_
  refine lv_iconst (v := 0) hx hb dX11_filter_34 (by decide) ?_
  refine sj_put (D := D) (ci := 3) (v := .int 0) (ty := .int) (C := RX3) (F := TX3) (N := 2) hx hb hts in3 tyX3 tyX3_ok nmX3 hown hK hH hS 3 rfl rfl 1 (by decide) wd4 (fun _ h9 => h9) rfl (by decide +kernel) rfl rfl (Nat.le_of_ble_eq_true rfl) dX11_filter_35 (fun H locs (hH : sj_H D A ([(h0, .inr (11, [.ref d_text, .ref d_reading, .ref d_cases, .ref d_scripts, .ref d_run, .ref d_definitions, .ref d_definitionScripts, .int 0, .ref d_hookTags, .ref d_hookBefore, .ref d_hookScripts, .int 0, .ref d_filterInUse, .ref d_filterToTry])), (d_run, .inr (7, [.ref r_workers, .int 0, .int 0, .ref r_queue, .int 0, .int 0, .int 0, .int 0, .int 0, .ref r_events, .int 0])), (d_cases, .inr (1, [.ref c_reading, .ref c_stepText, .ref c_cellText, .ref c_all, .int 0])), (d_text, .inr (3, [.ref tch, .int 0]))] ++ []) H) hS => ?_)
  refine lv_iload_n hx hb dX11_filter_38 rfl (lv_at hl 0 rfl) ?_
  refine lv_if_ne (tgt := 50) hx hb dX11_filter_39 (by decide) (fun _ => ?_) (fun h => absurd h (by decide))
  refine lv_aload_n hx hb dX11_filter_50 rfl (lv_at hl 1 rfl) ?_
  refine va_get (D := D) (ci := 11) (v := .ref d_filterInUse) (C := RX11) (T := TX11) (N := 14) hx hb hts in11 hown hK hH.1 0 rfl rfl 12 (by decide) wd5 (fun _ h9 => h9) rfl dX11_filter_51 ?_
  refine lv_astore_n (lv' := [(2, .ref d_filterInUse), (1, .int 1), (0, .ref h0)]) hx hb dX11_filter_54 rfl hl (by decide) rfl (fun ls hl => ?_)
  refine lv_aload_n hx hb dX11_filter_55 rfl (lv_at hl 2 rfl) ?_
  refine lv_aload_n hx hb dX11_filter_56 rfl (lv_at hl 2 rfl) ?_
  refine va_get (D := D) (ci := 11) (v := .ref d_filterToTry) (C := RX11) (T := TX11) (N := 14) hx hb hts in11 hown hK hH.1 0 rfl rfl 13 (by decide) wd2 (fun _ h9 => h9) rfl dX11_filter_57 ?_
  refine sj_put (D := D) (ci := 11) (v := .ref d_filterToTry) (ty := (.object "StoryDesk$TagExpression")) (C := RX11) (F := TX11) (N := 14) hx hb hts in11 tyX11 tyX11_ok nmX11 hown hK hH hS 0 rfl rfl 12 (by decide) wd5 (fun _ h9 => h9) rfl (by decide +kernel) rfl rfl (Nat.le_of_ble_eq_true rfl) dX11_filter_60 (fun H locs (hH : sj_H D A ([(h0, .inr (11, [.ref d_text, .ref d_reading, .ref d_cases, .ref d_scripts, .ref d_run, .ref d_definitions, .ref d_definitionScripts, .int 0, .ref d_hookTags, .ref d_hookBefore, .ref d_hookScripts, .int 0, .ref d_filterToTry, .ref d_filterToTry])), (d_run, .inr (7, [.ref r_workers, .int 0, .int 0, .ref r_queue, .int 0, .int 0, .int 0, .int 0, .int 0, .ref r_events, .int 0])), (d_cases, .inr (1, [.ref c_reading, .ref c_stepText, .ref c_cellText, .ref c_all, .int 0])), (d_text, .inr (3, [.ref tch, .int 0]))] ++ []) H) hS => ?_)
  refine lv_aload_n hx hb dX11_filter_63 rfl (lv_at hl 2 rfl) ?_
  refine lv_aload_n hx hb dX11_filter_64 rfl (lv_at hl 0 rfl) ?_
  refine sj_put (D := D) (ci := 11) (v := .ref d_filterInUse) (ty := (.object "StoryDesk$TagExpression")) (C := RX11) (F := TX11) (N := 14) hx hb hts in11 tyX11 tyX11_ok nmX11 hown hK hH hS 0 rfl rfl 13 (by decide) wd2 (fun _ h9 => h9) rfl (by decide +kernel) rfl rfl (Nat.le_of_ble_eq_true rfl) dX11_filter_65 (fun H locs (hH : sj_H D A ([(h0, .inr (11, [.ref d_text, .ref d_reading, .ref d_cases, .ref d_scripts, .ref d_run, .ref d_definitions, .ref d_definitionScripts, .int 0, .ref d_hookTags, .ref d_hookBefore, .ref d_hookScripts, .int 0, .ref d_filterToTry, .ref d_filterInUse])), (d_run, .inr (7, [.ref r_workers, .int 0, .int 0, .ref r_queue, .int 0, .int 0, .int 0, .int 0, .int 0, .ref r_events, .int 0])), (d_cases, .inr (1, [.ref c_reading, .ref c_stepText, .ref c_cellText, .ref c_all, .int 0])), (d_text, .inr (3, [.ref tch, .int 0]))] ++ []) H) hS => ?_)
  refine lv_iconst (v := 0) hx hb dX11_filter_68 (by decide) ?_
  refine lv_istore_n (lv' := [(3, .int 0), (2, .ref d_filterInUse), (1, .int 1), (0, .ref h0)]) hx hb dX11_filter_69 rfl hl (by decide) rfl (fun ls hl => ?_)
  refine lv_iconst (v := 0) hx hb dX11_filter_70 (by decide) ?_
  refine lv_istore (lv' := [(4, .int 0), (3, .int 0), (2, .ref d_filterInUse), (1, .int 1), (0, .ref h0)]) hx hb dX11_filter_71 hl (by decide) rfl (fun ls hl => ?_)
  refine lv_iload hx hb dX11_filter_73 (lv_at hl 0 rfl) ?_
  refine lv_aload_n hx hb dX11_filter_75 rfl (lv_at hl 4 rfl) ?_
  refine va_get (D := D) (ci := 11) (v := .ref d_cases) (C := RX11) (T := TX11) (N := 14) hx hb hts in11 hown hK hH.1 0 rfl rfl 2 (by decide) wd6 (fun _ h9 => h9) rfl dX11_filter_76 ?_
  refine va_get (D := D) (ci := 1) (v := .int 0) (C := RX1) (T := TX1) (N := 5) hx hb hts in1 hown hK hH.1 2 rfl rfl 4 (by decide) wd7 (fun _ h9 => h9) rfl dX11_filter_79 ?_
  refine lv_icmp_ge (tgt := 117) hx hb dX11_filter_82 (by decide) (fun _ => ?_) (fun h => absurd (by decide) h)
  refine lv_iload_n hx hb dX11_filter_117 rfl (lv_at hl 1 rfl) ?_
  refine vx_ret ?_
  exact sj_zret hx hb hr hlocks rfl hS () rfl sj_nil (sj_Knil hK) (Nat.le_of_ble_eq_true rfl) (Nat.le_of_ble_eq_true rfl) dX11_filter_118
set_option maxHeartbeats 4000000 in
set_option maxRecDepth 100000 in
/-- an event is told -/
theorem c_X7_tell0 (l : Launch) (D : va_G) (h0 : Nat) (ak : Int32) (a1 : Int32) (a2 : Int32) (a3 : Int32) (r_workers : Nat) (r_queue : Nat) (r_events : Nat) (wc : Int32) (uw : Int32) (ev : Nat → Int32) (ke : ClassId) (sz : Nat)  : Met l yX7_tell wsX7_tell ({ frames := 0, cells := 0, slots := 0, locals := 0 }) (va_Pc [.ref h0, .int ak, .int a1, .int a2, .int a3] (sj_B D [(h0, .inr (7, [.ref r_workers, .int wc, .int 0, .ref r_queue, .int 0, .int 0, .int 0, .int 0, .int uw, .ref r_events, .int 0])), (r_events, .inl (ke, 256, .inl ev))] [(ke, .int)] sz sj_n)) (sj_Qv (S := Unit) D (fun _ => True) (fun u => [(h0, .inr (7, [.ref r_workers, .int wc, .int 0, .ref r_queue, .int 0, .int 0, .int 0, .int 0, .int uw, .ref r_events, .int 1])), (r_events, .inl (ke, 256, .inl (upd (upd (upd (upd ev 0 ak) 1 a1) 2 a2) 3 a3)))]) (fun u => []) (va_A [(h0, .inr (7, [.ref r_workers, .int wc, .int 0, .ref r_queue, .int 0, .int 0, .int 0, .int 0, .int uw, .ref r_events, .int 0])), (r_events, .inl (ke, 256, .inl ev))] sz)) 0 0 (va_A [(h0, .inr (7, [.ref r_workers, .int wc, .int 0, .ref r_queue, .int 0, .int 0, .int 0, .int 0, .int uw, .ref r_events, .int 0])), (r_events, .inl (ke, 256, .inl ev))] sz) := by
  refine sj_met (cc := cX7_tell) (maxL := 6) (ret := none) (by decide) rfl (Nat.le_of_ble_eq_true rfl) ?_
  intro p e s m below meth c A ls hx hb hr hml hts hown hlocks hnm hA hsz hS hH hK hE hl
  have hown : s.vm.findClass RX7 = some m.cls := hown
  have in7 : ∀ w ∈ wsX70, w ∈ wsX7_tell := by decide +kernel
  have wd0 := hts (.fieldLink RX7 75 "StoryDesk$Run" "eventCount" "I") (by decide +kernel)
  have wd1 := hts (.fieldLink RX7 26 "StoryDesk$Run" "events" "[I") (by decide +kernel)
  have hl : lv_has ls 6 [(0, .ref h0), (1, .int ak), (2, .int a1), (3, .int a2), (4, .int a3)] := hl
  have hH : sj_H D A ([(h0, .inr (7, [.ref r_workers, .int wc, .int 0, .ref r_queue, .int 0, .int 0, .int 0, .int 0, .int uw, .ref r_events, .int 0])), (r_events, .inl (ke, 256, .inl ev))] ++ []) s.heap := hH
  refine lv_aload_n hx hb dX7_tell_0 rfl (lv_at hl 0 rfl) ?_
  refine va_get (D := D) (ci := 7) (v := .int 0) (C := RX7) (T := TX7) (N := 11) hx hb hts in7 hown hK hH.1 0 rfl rfl 10 (by decide) wd0 (fun _ h9 => h9) rfl dX7_tell_1 ?_
  refine lv_bipush (v := 64) hx hb dX7_tell_4 (by decide) ?_
  refine lv_irem hx hb dX7_tell_6 (by decide) ?_
  refine sj_i (y := 0) (by decide) ?_
  refine lv_iconst (v := 4) hx hb dX7_tell_7 (by decide) ?_
  refine lv_imul hx hb dX7_tell_8 ?_
  refine sj_i (y := 0) (by decide) ?_
  refine lv_istore (lv' := [(5, .int 0), (0, .ref h0), (1, .int ak), (2, .int a1), (3, .int a2), (4, .int a3)]) hx hb dX7_tell_9 hl (by decide) rfl (fun ls hl => ?_)
  refine lv_aload_n hx hb dX7_tell_11 rfl (lv_at hl 1 rfl) ?_
  refine va_get (D := D) (ci := 7) (v := .ref r_events) (C := RX7) (T := TX7) (N := 11) hx hb hts in7 hown hK hH.1 0 rfl rfl 9 (by decide) wd1 (fun _ h9 => h9) rfl dX7_tell_12 ?_
  refine lv_iload hx hb dX7_tell_15 (lv_at hl 0 rfl) ?_
  refine lv_iload_n hx hb dX7_tell_17 rfl (lv_at hl 2 rfl) ?_
  refine sj_iast hx hb hK hH hS 1 0 rfl rfl (sj_vin (by decide) (by decide)) dX7_tell_18 (fun H locs hH hS => ?_)
  have hH : sj_H D A ([(h0, .inr (7, [.ref r_workers, .int wc, .int 0, .ref r_queue, .int 0, .int 0, .int 0, .int 0, .int uw, .ref r_events, .int 0])), (r_events, .inl (ke, 256, .inl (upd ev 0 ak)))] ++ []) H := hH
  refine lv_aload_n hx hb dX7_tell_19 rfl (lv_at hl 1 rfl) ?_
  refine va_get (D := D) (ci := 7) (v := .ref r_events) (C := RX7) (T := TX7) (N := 11) hx hb hts in7 hown hK hH.1 0 rfl rfl 9 (by decide) wd1 (fun _ h9 => h9) rfl dX7_tell_20 ?_
  refine lv_iload hx hb dX7_tell_23 (lv_at hl 0 rfl) ?_
  refine lv_iconst (v := 1) hx hb dX7_tell_25 (by decide) ?_
  refine lv_iadd hx hb dX7_tell_26 ?_
  refine sj_i (y := 1) (by decide) ?_
  refine lv_iload_n hx hb dX7_tell_27 rfl (lv_at hl 3 rfl) ?_
  refine sj_iast hx hb hK hH hS 1 0 rfl rfl (sj_vin (by decide) (by decide)) dX7_tell_28 (fun H locs hH hS => ?_)
  have hH : sj_H D A ([(h0, .inr (7, [.ref r_workers, .int wc, .int 0, .ref r_queue, .int 0, .int 0, .int 0, .int 0, .int uw, .ref r_events, .int 0])), (r_events, .inl (ke, 256, .inl (upd (upd ev 0 ak) 1 a1)))] ++ []) H := hH
  refine lv_aload_n hx hb dX7_tell_29 rfl (lv_at hl 1 rfl) ?_
  refine va_get (D := D) (ci := 7) (v := .ref r_events) (C := RX7) (T := TX7) (N := 11) hx hb hts in7 hown hK hH.1 0 rfl rfl 9 (by decide) wd1 (fun _ h9 => h9) rfl dX7_tell_30 ?_
  refine lv_iload hx hb dX7_tell_33 (lv_at hl 0 rfl) ?_
  refine lv_iconst (v := 2) hx hb dX7_tell_35 (by decide) ?_
  refine lv_iadd hx hb dX7_tell_36 ?_
  refine sj_i (y := 2) (by decide) ?_
  refine lv_iload_n hx hb dX7_tell_37 rfl (lv_at hl 4 rfl) ?_
  refine sj_iast hx hb hK hH hS 1 0 rfl rfl (sj_vin (by decide) (by decide)) dX7_tell_38 (fun H locs hH hS => ?_)
  have hH : sj_H D A ([(h0, .inr (7, [.ref r_workers, .int wc, .int 0, .ref r_queue, .int 0, .int 0, .int 0, .int 0, .int uw, .ref r_events, .int 0])), (r_events, .inl (ke, 256, .inl (upd (upd (upd ev 0 ak) 1 a1) 2 a2)))] ++ []) H := hH
  refine lv_aload_n hx hb dX7_tell_39 rfl (lv_at hl 1 rfl) ?_
  refine va_get (D := D) (ci := 7) (v := .ref r_events) (C := RX7) (T := TX7) (N := 11) hx hb hts in7 hown hK hH.1 0 rfl rfl 9 (by decide) wd1 (fun _ h9 => h9) rfl dX7_tell_40 ?_
  refine lv_iload hx hb dX7_tell_43 (lv_at hl 0 rfl) ?_
  refine lv_iconst (v := 3) hx hb dX7_tell_45 (by decide) ?_
  refine lv_iadd hx hb dX7_tell_46 ?_
  refine sj_i (y := 3) (by decide) ?_
  refine lv_iload hx hb dX7_tell_47 (lv_at hl 5 rfl) ?_
  refine sj_iast hx hb hK hH hS 1 0 rfl rfl (sj_vin (by decide) (by decide)) dX7_tell_49 (fun H locs hH hS => ?_)
  have hH : sj_H D A ([(h0, .inr (7, [.ref r_workers, .int wc, .int 0, .ref r_queue, .int 0, .int 0, .int 0, .int 0, .int uw, .ref r_events, .int 0])), (r_events, .inl (ke, 256, .inl (upd (upd (upd (upd ev 0 ak) 1 a1) 2 a2) 3 a3)))] ++ []) H := hH
  refine lv_aload_n hx hb dX7_tell_50 rfl (lv_at hl 1 rfl) ?_
  refine lv_dup hx hb dX7_tell_51 rfl ?_
  refine va_get (D := D) (ci := 7) (v := .int 0) (C := RX7) (T := TX7) (N := 11) hx hb hts in7 hown hK hH.1 0 rfl rfl 10 (by decide) wd0 (fun _ h9 => h9) rfl dX7_tell_52 ?_
  refine lv_iconst (v := 1) hx hb dX7_tell_55 (by decide) ?_
  refine lv_iadd hx hb dX7_tell_56 ?_
  refine sj_i (y := 1) (by decide) ?_
  refine sj_put (D := D) (ci := 7) (v := .int 1) (ty := .int) (C := RX7) (F := TX7) (N := 11) hx hb hts in7 tyX7 tyX7_ok nmX7 hown hK hH hS 0 rfl rfl 10 (by decide) wd0 (fun _ h9 => h9) rfl (by decide +kernel) rfl rfl (Nat.le_of_ble_eq_true rfl) dX7_tell_57 (fun H locs (hH : sj_H D A ([(h0, .inr (7, [.ref r_workers, .int wc, .int 0, .ref r_queue, .int 0, .int 0, .int 0, .int 0, .int uw, .ref r_events, .int 1])), (r_events, .inl (ke, 256, .inl (upd (upd (upd (upd ev 0 ak) 1 a1) 2 a2) 3 a3)))] ++ []) H) hS => ?_)
  exact sj_vret hx hb hr hlocks hS () trivial (sj_sub hH [0, 1] rfl rfl) (sj_Knil hK) (Nat.le_of_ble_eq_true rfl) (Nat.le_of_ble_eq_true rfl) dX7_tell_60
set_option maxHeartbeats 4000000 in
set_option maxRecDepth 100000 in
/-- an event is told -/
theorem c_X7_tell1 (l : Launch) (D : va_G) (h0 : Nat) (ak : Int32) (a1 : Int32) (a2 : Int32) (a3 : Int32) (r_workers : Nat) (r_queue : Nat) (r_events : Nat) (wc : Int32) (uw : Int32) (ev : Nat → Int32) (ke : ClassId) (sz : Nat)  : Met l yX7_tell wsX7_tell ({ frames := 0, cells := 0, slots := 0, locals := 0 }) (va_Pc [.ref h0, .int ak, .int a1, .int a2, .int a3] (sj_B D [(h0, .inr (7, [.ref r_workers, .int wc, .int 0, .ref r_queue, .int 0, .int 0, .int 0, .int 0, .int uw, .ref r_events, .int 1])), (r_events, .inl (ke, 256, .inl ev))] [(ke, .int)] sz sj_n)) (sj_Qv (S := Unit) D (fun _ => True) (fun u => [(h0, .inr (7, [.ref r_workers, .int wc, .int 0, .ref r_queue, .int 0, .int 0, .int 0, .int 0, .int uw, .ref r_events, .int 2])), (r_events, .inl (ke, 256, .inl (upd (upd (upd (upd ev 4 ak) 5 a1) 6 a2) 7 a3)))]) (fun u => []) (va_A [(h0, .inr (7, [.ref r_workers, .int wc, .int 0, .ref r_queue, .int 0, .int 0, .int 0, .int 0, .int uw, .ref r_events, .int 1])), (r_events, .inl (ke, 256, .inl ev))] sz)) 0 0 (va_A [(h0, .inr (7, [.ref r_workers, .int wc, .int 0, .ref r_queue, .int 0, .int 0, .int 0, .int 0, .int uw, .ref r_events, .int 1])), (r_events, .inl (ke, 256, .inl ev))] sz) := by
  refine sj_met (cc := cX7_tell) (maxL := 6) (ret := none) (by decide) rfl (Nat.le_of_ble_eq_true rfl) ?_
  intro p e s m below meth c A ls hx hb hr hml hts hown hlocks hnm hA hsz hS hH hK hE hl
  have hown : s.vm.findClass RX7 = some m.cls := hown
  have in7 : ∀ w ∈ wsX70, w ∈ wsX7_tell := by decide +kernel
  have wd0 := hts (.fieldLink RX7 75 "StoryDesk$Run" "eventCount" "I") (by decide +kernel)
  have wd1 := hts (.fieldLink RX7 26 "StoryDesk$Run" "events" "[I") (by decide +kernel)
  have hl : lv_has ls 6 [(0, .ref h0), (1, .int ak), (2, .int a1), (3, .int a2), (4, .int a3)] := hl
  have hH : sj_H D A ([(h0, .inr (7, [.ref r_workers, .int wc, .int 0, .ref r_queue, .int 0, .int 0, .int 0, .int 0, .int uw, .ref r_events, .int 1])), (r_events, .inl (ke, 256, .inl ev))] ++ []) s.heap := hH
  refine lv_aload_n hx hb dX7_tell_0 rfl (lv_at hl 0 rfl) ?_
  refine va_get (D := D) (ci := 7) (v := .int 1) (C := RX7) (T := TX7) (N := 11) hx hb hts in7 hown hK hH.1 0 rfl rfl 10 (by decide) wd0 (fun _ h9 => h9) rfl dX7_tell_1 ?_
  refine lv_bipush (v := 64) hx hb dX7_tell_4 (by decide) ?_
  refine lv_irem hx hb dX7_tell_6 (by decide) ?_
  refine sj_i (y := 1) (by decide) ?_
  refine lv_iconst (v := 4) hx hb dX7_tell_7 (by decide) ?_
  refine lv_imul hx hb dX7_tell_8 ?_
  refine sj_i (y := 4) (by decide) ?_
  refine lv_istore (lv' := [(5, .int 4), (0, .ref h0), (1, .int ak), (2, .int a1), (3, .int a2), (4, .int a3)]) hx hb dX7_tell_9 hl (by decide) rfl (fun ls hl => ?_)
  refine lv_aload_n hx hb dX7_tell_11 rfl (lv_at hl 1 rfl) ?_
  refine va_get (D := D) (ci := 7) (v := .ref r_events) (C := RX7) (T := TX7) (N := 11) hx hb hts in7 hown hK hH.1 0 rfl rfl 9 (by decide) wd1 (fun _ h9 => h9) rfl dX7_tell_12 ?_
  refine lv_iload hx hb dX7_tell_15 (lv_at hl 0 rfl) ?_
  refine lv_iload_n hx hb dX7_tell_17 rfl (lv_at hl 2 rfl) ?_
  refine sj_iast hx hb hK hH hS 1 0 rfl rfl (sj_vin (by decide) (by decide)) dX7_tell_18 (fun H locs hH hS => ?_)
  have hH : sj_H D A ([(h0, .inr (7, [.ref r_workers, .int wc, .int 0, .ref r_queue, .int 0, .int 0, .int 0, .int 0, .int uw, .ref r_events, .int 1])), (r_events, .inl (ke, 256, .inl (upd ev 4 ak)))] ++ []) H := hH
  refine lv_aload_n hx hb dX7_tell_19 rfl (lv_at hl 1 rfl) ?_
  refine va_get (D := D) (ci := 7) (v := .ref r_events) (C := RX7) (T := TX7) (N := 11) hx hb hts in7 hown hK hH.1 0 rfl rfl 9 (by decide) wd1 (fun _ h9 => h9) rfl dX7_tell_20 ?_
  refine lv_iload hx hb dX7_tell_23 (lv_at hl 0 rfl) ?_
  refine lv_iconst (v := 1) hx hb dX7_tell_25 (by decide) ?_
  refine lv_iadd hx hb dX7_tell_26 ?_
  refine sj_i (y := 5) (by decide) ?_
  refine lv_iload_n hx hb dX7_tell_27 rfl (lv_at hl 3 rfl) ?_
  refine sj_iast hx hb hK hH hS 1 0 rfl rfl (sj_vin (by decide) (by decide)) dX7_tell_28 (fun H locs hH hS => ?_)
  have hH : sj_H D A ([(h0, .inr (7, [.ref r_workers, .int wc, .int 0, .ref r_queue, .int 0, .int 0, .int 0, .int 0, .int uw, .ref r_events, .int 1])), (r_events, .inl (ke, 256, .inl (upd (upd ev 4 ak) 5 a1)))] ++ []) H := hH
  refine lv_aload_n hx hb dX7_tell_29 rfl (lv_at hl 1 rfl) ?_
  refine va_get (D := D) (ci := 7) (v := .ref r_events) (C := RX7) (T := TX7) (N := 11) hx hb hts in7 hown hK hH.1 0 rfl rfl 9 (by decide) wd1 (fun _ h9 => h9) rfl dX7_tell_30 ?_
  refine lv_iload hx hb dX7_tell_33 (lv_at hl 0 rfl) ?_
  refine lv_iconst (v := 2) hx hb dX7_tell_35 (by decide) ?_
  refine lv_iadd hx hb dX7_tell_36 ?_
  refine sj_i (y := 6) (by decide) ?_
  refine lv_iload_n hx hb dX7_tell_37 rfl (lv_at hl 4 rfl) ?_
  refine sj_iast hx hb hK hH hS 1 0 rfl rfl (sj_vin (by decide) (by decide)) dX7_tell_38 (fun H locs hH hS => ?_)
  have hH : sj_H D A ([(h0, .inr (7, [.ref r_workers, .int wc, .int 0, .ref r_queue, .int 0, .int 0, .int 0, .int 0, .int uw, .ref r_events, .int 1])), (r_events, .inl (ke, 256, .inl (upd (upd (upd ev 4 ak) 5 a1) 6 a2)))] ++ []) H := hH
  refine lv_aload_n hx hb dX7_tell_39 rfl (lv_at hl 1 rfl) ?_
  refine va_get (D := D) (ci := 7) (v := .ref r_events) (C := RX7) (T := TX7) (N := 11) hx hb hts in7 hown hK hH.1 0 rfl rfl 9 (by decide) wd1 (fun _ h9 => h9) rfl dX7_tell_40 ?_
  refine lv_iload hx hb dX7_tell_43 (lv_at hl 0 rfl) ?_
  refine lv_iconst (v := 3) hx hb dX7_tell_45 (by decide) ?_
  refine lv_iadd hx hb dX7_tell_46 ?_
  refine sj_i (y := 7) (by decide) ?_
  refine lv_iload hx hb dX7_tell_47 (lv_at hl 5 rfl) ?_
  refine sj_iast hx hb hK hH hS 1 0 rfl rfl (sj_vin (by decide) (by decide)) dX7_tell_49 (fun H locs hH hS => ?_)
  have hH : sj_H D A ([(h0, .inr (7, [.ref r_workers, .int wc, .int 0, .ref r_queue, .int 0, .int 0, .int 0, .int 0, .int uw, .ref r_events, .int 1])), (r_events, .inl (ke, 256, .inl (upd (upd (upd (upd ev 4 ak) 5 a1) 6 a2) 7 a3)))] ++ []) H := hH
  refine lv_aload_n hx hb dX7_tell_50 rfl (lv_at hl 1 rfl) ?_
  refine lv_dup hx hb dX7_tell_51 rfl ?_
  refine va_get (D := D) (ci := 7) (v := .int 1) (C := RX7) (T := TX7) (N := 11) hx hb hts in7 hown hK hH.1 0 rfl rfl 10 (by decide) wd0 (fun _ h9 => h9) rfl dX7_tell_52 ?_
  refine lv_iconst (v := 1) hx hb dX7_tell_55 (by decide) ?_
  refine lv_iadd hx hb dX7_tell_56 ?_
  refine sj_i (y := 2) (by decide) ?_
  refine sj_put (D := D) (ci := 7) (v := .int 2) (ty := .int) (C := RX7) (F := TX7) (N := 11) hx hb hts in7 tyX7 tyX7_ok nmX7 hown hK hH hS 0 rfl rfl 10 (by decide) wd0 (fun _ h9 => h9) rfl (by decide +kernel) rfl rfl (Nat.le_of_ble_eq_true rfl) dX7_tell_57 (fun H locs (hH : sj_H D A ([(h0, .inr (7, [.ref r_workers, .int wc, .int 0, .ref r_queue, .int 0, .int 0, .int 0, .int 0, .int uw, .ref r_events, .int 2])), (r_events, .inl (ke, 256, .inl (upd (upd (upd (upd ev 4 ak) 5 a1) 6 a2) 7 a3)))] ++ []) H) hS => ?_)
  exact sj_vret hx hb hr hlocks hS () trivial (sj_sub hH [0, 1] rfl rfl) (sj_Knil hK) (Nat.le_of_ble_eq_true rfl) (Nat.le_of_ble_eq_true rfl) dX7_tell_60
set_option maxHeartbeats 4000000 in
set_option maxRecDepth 100000 in
/-- a run begins -/
theorem c_X7_clear (l : Launch) (D : va_G) (h0 : Nat) (nw : Int32) (r_workers : Nat) (r_queue : Nat) (r_events : Nat) (wc : Int32) (uw : Int32) (w0 : Nat) (w1 : Nat) (w2 : Nat) (kw : ClassId) (sz : Nat)  : Met l yX7_clear wsX7_clear ({ frames := 0, cells := 0, slots := 0, locals := 0 }) (va_Pc [.ref h0, .int nw] (sj_B D [(h0, .inr (7, [.ref r_workers, .int wc, .int 0, .ref r_queue, .int 0, .int 0, .int 0, .int 0, .int uw, .ref r_events, .int 0])), (r_workers, .inl (kw, 3, .inr (.inr (.inr (.inr (sj_f3 w0 w1 w2)))))), (w0, .inr (10, [.int 0, .int (-1), .int 0, .int 0, .int 0, .double 0, .int 0, .int 0])), (w1, .inr (10, [.int 1, .int (-1), .int 0, .int 0, .int 0, .double 0, .int 0, .int 0])), (w2, .inr (10, [.int 2, .int (-1), .int 0, .int 0, .int 0, .double 0, .int 0, .int 0]))] [(kw, .object RX10)] sz sj_n)) (sj_Qv (S := Unit) D (fun _ => True) (fun u => [(h0, .inr (7, [.ref r_workers, .int nw, .int 0, .ref r_queue, .int 0, .int 0, .int 0, .int 0, .int 1, .ref r_events, .int 0])), (r_workers, .inl (kw, 3, .inr (.inr (.inr (.inr (sj_f3 w0 w1 w2)))))), (w0, .inr (10, [.int 0, .int (-1), .int 0, .int 0, .int 0, .double 0, .int 0, .int 0])), (w1, .inr (10, [.int 1, .int (-1), .int 0, .int 0, .int 0, .double 0, .int 0, .int 0])), (w2, .inr (10, [.int 2, .int (-1), .int 0, .int 0, .int 0, .double 0, .int 0, .int 0]))]) (fun u => []) (va_A [(h0, .inr (7, [.ref r_workers, .int wc, .int 0, .ref r_queue, .int 0, .int 0, .int 0, .int 0, .int uw, .ref r_events, .int 0])), (r_workers, .inl (kw, 3, .inr (.inr (.inr (.inr (sj_f3 w0 w1 w2)))))), (w0, .inr (10, [.int 0, .int (-1), .int 0, .int 0, .int 0, .double 0, .int 0, .int 0])), (w1, .inr (10, [.int 1, .int (-1), .int 0, .int 0, .int 0, .double 0, .int 0, .int 0])), (w2, .inr (10, [.int 2, .int (-1), .int 0, .int 0, .int 0, .double 0, .int 0, .int 0]))] sz)) 0 0 (va_A [(h0, .inr (7, [.ref r_workers, .int wc, .int 0, .ref r_queue, .int 0, .int 0, .int 0, .int 0, .int uw, .ref r_events, .int 0])), (r_workers, .inl (kw, 3, .inr (.inr (.inr (.inr (sj_f3 w0 w1 w2)))))), (w0, .inr (10, [.int 0, .int (-1), .int 0, .int 0, .int 0, .double 0, .int 0, .int 0])), (w1, .inr (10, [.int 1, .int (-1), .int 0, .int 0, .int 0, .double 0, .int 0, .int 0])), (w2, .inr (10, [.int 2, .int (-1), .int 0, .int 0, .int 0, .double 0, .int 0, .int 0]))] sz) := by
  refine sj_met (cc := cX7_clear) (maxL := 3) (ret := none) (by decide) rfl (Nat.le_of_ble_eq_true rfl) ?_
  intro p e s m below meth c A ls hx hb hr hml hts hown hlocks hnm hA hsz hS hH hK hE hl
  have hown : s.vm.findClass RX7 = some m.cls := hown
  have in7 : ∀ w ∈ wsX70, w ∈ wsX7_clear := by decide +kernel
  have in10 : ∀ w ∈ wsX100, w ∈ wsX7_clear := by decide +kernel
  have wd0 := hts (.fieldLink RX7 29 "StoryDesk$Run" "workerCount" "I") (by decide +kernel)
  have wd1 := hts (.fieldLink RX7 33 "StoryDesk$Run" "turn" "I") (by decide +kernel)
  have wd2 := hts (.fieldLink RX7 36 "StoryDesk$Run" "queued" "I") (by decide +kernel)
  have wd3 := hts (.fieldLink RX7 39 "StoryDesk$Run" "taken" "I") (by decide +kernel)
  have wd4 := hts (.fieldLink RX7 42 "StoryDesk$Run" "over" "I") (by decide +kernel)
  have wd5 := hts (.fieldLink RX7 45 "StoryDesk$Run" "worst" "I") (by decide +kernel)
  have wd6 := hts (.fieldLink RX7 48 "StoryDesk$Run" "underWay" "Z") (by decide +kernel)
  have wd7 := hts (.fieldLink RX7 11 "StoryDesk$Run" "workers" "[LStoryDesk$Worker;") (by decide +kernel)
  have wd8 := hts (.fieldLink RX7 52 "StoryDesk$Worker" "waitedInRun" "I") (by decide +kernel)
  have hl : lv_has ls 3 [(0, .ref h0), (1, .int nw)] := hl
  have hH : sj_H D A ([(h0, .inr (7, [.ref r_workers, .int wc, .int 0, .ref r_queue, .int 0, .int 0, .int 0, .int 0, .int uw, .ref r_events, .int 0])), (r_workers, .inl (kw, 3, .inr (.inr (.inr (.inr (sj_f3 w0 w1 w2)))))), (w0, .inr (10, [.int 0, .int (-1), .int 0, .int 0, .int 0, .double 0, .int 0, .int 0])), (w1, .inr (10, [.int 1, .int (-1), .int 0, .int 0, .int 0, .double 0, .int 0, .int 0])), (w2, .inr (10, [.int 2, .int (-1), .int 0, .int 0, .int 0, .double 0, .int 0, .int 0]))] ++ []) s.heap := hH
  refine lv_aload_n hx hb dX7_clear_0 rfl (lv_at hl 0 rfl) ?_
  refine lv_iload_n hx hb dX7_clear_1 rfl (lv_at hl 1 rfl) ?_
  refine sj_put (D := D) (ci := 7) (v := .int nw) (ty := .int) (C := RX7) (F := TX7) (N := 11) hx hb hts in7 tyX7 tyX7_ok nmX7 hown hK hH hS 0 rfl rfl 1 (by decide) wd0 (fun _ h9 => h9) rfl (by decide +kernel) rfl rfl (Nat.le_of_ble_eq_true rfl) dX7_clear_2 (fun H locs (hH : sj_H D A ([(h0, .inr (7, [.ref r_workers, .int nw, .int 0, .ref r_queue, .int 0, .int 0, .int 0, .int 0, .int uw, .ref r_events, .int 0])), (r_workers, .inl (kw, 3, .inr (.inr (.inr (.inr (sj_f3 w0 w1 w2)))))), (w0, .inr (10, [.int 0, .int (-1), .int 0, .int 0, .int 0, .double 0, .int 0, .int 0])), (w1, .inr (10, [.int 1, .int (-1), .int 0, .int 0, .int 0, .double 0, .int 0, .int 0])), (w2, .inr (10, [.int 2, .int (-1), .int 0, .int 0, .int 0, .double 0, .int 0, .int 0]))] ++ []) H) hS => ?_)
  refine lv_aload_n hx hb dX7_clear_5 rfl (lv_at hl 0 rfl) ?_
  refine lv_iconst (v := 0) hx hb dX7_clear_6 (by decide) ?_
  refine sj_put (D := D) (ci := 7) (v := .int 0) (ty := .int) (C := RX7) (F := TX7) (N := 11) hx hb hts in7 tyX7 tyX7_ok nmX7 hown hK hH hS 0 rfl rfl 2 (by decide) wd1 (fun _ h9 => h9) rfl (by decide +kernel) rfl rfl (Nat.le_of_ble_eq_true rfl) dX7_clear_7 (fun H locs (hH : sj_H D A ([(h0, .inr (7, [.ref r_workers, .int nw, .int 0, .ref r_queue, .int 0, .int 0, .int 0, .int 0, .int uw, .ref r_events, .int 0])), (r_workers, .inl (kw, 3, .inr (.inr (.inr (.inr (sj_f3 w0 w1 w2)))))), (w0, .inr (10, [.int 0, .int (-1), .int 0, .int 0, .int 0, .double 0, .int 0, .int 0])), (w1, .inr (10, [.int 1, .int (-1), .int 0, .int 0, .int 0, .double 0, .int 0, .int 0])), (w2, .inr (10, [.int 2, .int (-1), .int 0, .int 0, .int 0, .double 0, .int 0, .int 0]))] ++ []) H) hS => ?_)
  refine lv_aload_n hx hb dX7_clear_10 rfl (lv_at hl 0 rfl) ?_
  refine lv_iconst (v := 0) hx hb dX7_clear_11 (by decide) ?_
  refine sj_put (D := D) (ci := 7) (v := .int 0) (ty := .int) (C := RX7) (F := TX7) (N := 11) hx hb hts in7 tyX7 tyX7_ok nmX7 hown hK hH hS 0 rfl rfl 4 (by decide) wd2 (fun _ h9 => h9) rfl (by decide +kernel) rfl rfl (Nat.le_of_ble_eq_true rfl) dX7_clear_12 (fun H locs (hH : sj_H D A ([(h0, .inr (7, [.ref r_workers, .int nw, .int 0, .ref r_queue, .int 0, .int 0, .int 0, .int 0, .int uw, .ref r_events, .int 0])), (r_workers, .inl (kw, 3, .inr (.inr (.inr (.inr (sj_f3 w0 w1 w2)))))), (w0, .inr (10, [.int 0, .int (-1), .int 0, .int 0, .int 0, .double 0, .int 0, .int 0])), (w1, .inr (10, [.int 1, .int (-1), .int 0, .int 0, .int 0, .double 0, .int 0, .int 0])), (w2, .inr (10, [.int 2, .int (-1), .int 0, .int 0, .int 0, .double 0, .int 0, .int 0]))] ++ []) H) hS => ?_)
  refine lv_aload_n hx hb dX7_clear_15 rfl (lv_at hl 0 rfl) ?_
  refine lv_iconst (v := 0) hx hb dX7_clear_16 (by decide) ?_
  refine sj_put (D := D) (ci := 7) (v := .int 0) (ty := .int) (C := RX7) (F := TX7) (N := 11) hx hb hts in7 tyX7 tyX7_ok nmX7 hown hK hH hS 0 rfl rfl 5 (by decide) wd3 (fun _ h9 => h9) rfl (by decide +kernel) rfl rfl (Nat.le_of_ble_eq_true rfl) dX7_clear_17 (fun H locs (hH : sj_H D A ([(h0, .inr (7, [.ref r_workers, .int nw, .int 0, .ref r_queue, .int 0, .int 0, .int 0, .int 0, .int uw, .ref r_events, .int 0])), (r_workers, .inl (kw, 3, .inr (.inr (.inr (.inr (sj_f3 w0 w1 w2)))))), (w0, .inr (10, [.int 0, .int (-1), .int 0, .int 0, .int 0, .double 0, .int 0, .int 0])), (w1, .inr (10, [.int 1, .int (-1), .int 0, .int 0, .int 0, .double 0, .int 0, .int 0])), (w2, .inr (10, [.int 2, .int (-1), .int 0, .int 0, .int 0, .double 0, .int 0, .int 0]))] ++ []) H) hS => ?_)
  refine lv_aload_n hx hb dX7_clear_20 rfl (lv_at hl 0 rfl) ?_
  refine lv_iconst (v := 0) hx hb dX7_clear_21 (by decide) ?_
  refine sj_put (D := D) (ci := 7) (v := .int 0) (ty := .int) (C := RX7) (F := TX7) (N := 11) hx hb hts in7 tyX7 tyX7_ok nmX7 hown hK hH hS 0 rfl rfl 6 (by decide) wd4 (fun _ h9 => h9) rfl (by decide +kernel) rfl rfl (Nat.le_of_ble_eq_true rfl) dX7_clear_22 (fun H locs (hH : sj_H D A ([(h0, .inr (7, [.ref r_workers, .int nw, .int 0, .ref r_queue, .int 0, .int 0, .int 0, .int 0, .int uw, .ref r_events, .int 0])), (r_workers, .inl (kw, 3, .inr (.inr (.inr (.inr (sj_f3 w0 w1 w2)))))), (w0, .inr (10, [.int 0, .int (-1), .int 0, .int 0, .int 0, .double 0, .int 0, .int 0])), (w1, .inr (10, [.int 1, .int (-1), .int 0, .int 0, .int 0, .double 0, .int 0, .int 0])), (w2, .inr (10, [.int 2, .int (-1), .int 0, .int 0, .int 0, .double 0, .int 0, .int 0]))] ++ []) H) hS => ?_)
  refine lv_aload_n hx hb dX7_clear_25 rfl (lv_at hl 0 rfl) ?_
  refine lv_iconst (v := 0) hx hb dX7_clear_26 (by decide) ?_
  refine sj_put (D := D) (ci := 7) (v := .int 0) (ty := .int) (C := RX7) (F := TX7) (N := 11) hx hb hts in7 tyX7 tyX7_ok nmX7 hown hK hH hS 0 rfl rfl 7 (by decide) wd5 (fun _ h9 => h9) rfl (by decide +kernel) rfl rfl (Nat.le_of_ble_eq_true rfl) dX7_clear_27 (fun H locs (hH : sj_H D A ([(h0, .inr (7, [.ref r_workers, .int nw, .int 0, .ref r_queue, .int 0, .int 0, .int 0, .int 0, .int uw, .ref r_events, .int 0])), (r_workers, .inl (kw, 3, .inr (.inr (.inr (.inr (sj_f3 w0 w1 w2)))))), (w0, .inr (10, [.int 0, .int (-1), .int 0, .int 0, .int 0, .double 0, .int 0, .int 0])), (w1, .inr (10, [.int 1, .int (-1), .int 0, .int 0, .int 0, .double 0, .int 0, .int 0])), (w2, .inr (10, [.int 2, .int (-1), .int 0, .int 0, .int 0, .double 0, .int 0, .int 0]))] ++ []) H) hS => ?_)
  refine lv_aload_n hx hb dX7_clear_30 rfl (lv_at hl 0 rfl) ?_
  refine lv_iconst (v := 1) hx hb dX7_clear_31 (by decide) ?_
  refine sj_put (D := D) (ci := 7) (v := .int 1) (ty := .boolean) (C := RX7) (F := TX7) (N := 11) hx hb hts in7 tyX7 tyX7_ok nmX7 hown hK hH hS 0 rfl rfl 8 (by decide) wd6 (fun _ h9 => h9) rfl (by decide +kernel) (by decide +kernel) (by decide +kernel) (Nat.le_of_ble_eq_true rfl) dX7_clear_32 (fun H locs (hH : sj_H D A ([(h0, .inr (7, [.ref r_workers, .int nw, .int 0, .ref r_queue, .int 0, .int 0, .int 0, .int 0, .int 1, .ref r_events, .int 0])), (r_workers, .inl (kw, 3, .inr (.inr (.inr (.inr (sj_f3 w0 w1 w2)))))), (w0, .inr (10, [.int 0, .int (-1), .int 0, .int 0, .int 0, .double 0, .int 0, .int 0])), (w1, .inr (10, [.int 1, .int (-1), .int 0, .int 0, .int 0, .double 0, .int 0, .int 0])), (w2, .inr (10, [.int 2, .int (-1), .int 0, .int 0, .int 0, .double 0, .int 0, .int 0]))] ++ []) H) hS => ?_)
  refine lv_iconst (v := 0) hx hb dX7_clear_35 (by decide) ?_
  refine lv_istore_n (lv' := [(2, .int 0), (0, .ref h0), (1, .int nw)]) hx hb dX7_clear_36 rfl hl (by decide) rfl (fun ls hl => ?_)
  refine lv_iload_n hx hb dX7_clear_37 rfl (lv_at hl 0 rfl) ?_
  refine lv_aload_n hx hb dX7_clear_38 rfl (lv_at hl 1 rfl) ?_
  refine va_get (D := D) (ci := 7) (v := .ref r_workers) (C := RX7) (T := TX7) (N := 11) hx hb hts in7 hown hK hH.1 0 rfl rfl 0 (by decide) wd7 (fun _ h9 => h9) rfl dX7_clear_39 ?_
  refine va_alen hx hb hK hH.1 1 0 rfl rfl (v := 3) rfl dX7_clear_42 ?_
  refine lv_icmp_ge (tgt := 62) hx hb dX7_clear_43 (by decide) (fun h => absurd h (by decide)) (fun _ => ?_)
  refine lv_aload_n hx hb dX7_clear_46 rfl (lv_at hl 1 rfl) ?_
  refine va_get (D := D) (ci := 7) (v := .ref r_workers) (C := RX7) (T := TX7) (N := 11) hx hb hts in7 hown hK hH.1 0 rfl rfl 0 (by decide) wd7 (fun _ h9 => h9) rfl dX7_clear_47 ?_
  refine lv_iload_n hx hb dX7_clear_50 rfl (lv_at hl 0 rfl) ?_
  refine va_aldq hx hb hK hH.1 1 0 rfl rfl (sj_vin (by decide) (by decide)) dX7_clear_51 ?_
  refine sj_v (y := .ref w0) (rfl) ?_
  refine lv_iconst (v := 0) hx hb dX7_clear_52 (by decide) ?_
  refine sj_put (D := D) (ci := 10) (v := .int 0) (ty := .int) (C := RX10) (F := TX10) (N := 8) hx hb hts in10 tyX10 tyX10_ok nmX10 hown hK hH hS 2 rfl rfl 7 (by decide) wd8 (fun _ h9 => h9) rfl (by decide +kernel) rfl rfl (Nat.le_of_ble_eq_true rfl) dX7_clear_53 (fun H locs (hH : sj_H D A ([(h0, .inr (7, [.ref r_workers, .int nw, .int 0, .ref r_queue, .int 0, .int 0, .int 0, .int 0, .int 1, .ref r_events, .int 0])), (r_workers, .inl (kw, 3, .inr (.inr (.inr (.inr (sj_f3 w0 w1 w2)))))), (w0, .inr (10, [.int 0, .int (-1), .int 0, .int 0, .int 0, .double 0, .int 0, .int 0])), (w1, .inr (10, [.int 1, .int (-1), .int 0, .int 0, .int 0, .double 0, .int 0, .int 0])), (w2, .inr (10, [.int 2, .int (-1), .int 0, .int 0, .int 0, .double 0, .int 0, .int 0]))] ++ []) H) hS => ?_)
  refine lv_iinc (v := 1) (lv' := [(2, .int 1), (0, .ref h0), (1, .int nw)]) hx hb dX7_clear_56 hl (k := 0) rfl (by decide) (by decide) rfl (fun ls hl => ?_)
  refine lv_goto (tgt := 37) hx hb dX7_clear_59 (by decide) ?_
  refine lv_iload_n hx hb dX7_clear_37 rfl (lv_at hl 0 rfl) ?_
  refine lv_aload_n hx hb dX7_clear_38 rfl (lv_at hl 1 rfl) ?_
  refine va_get (D := D) (ci := 7) (v := .ref r_workers) (C := RX7) (T := TX7) (N := 11) hx hb hts in7 hown hK hH.1 0 rfl rfl 0 (by decide) wd7 (fun _ h9 => h9) rfl dX7_clear_39 ?_
  refine va_alen hx hb hK hH.1 1 0 rfl rfl (v := 3) rfl dX7_clear_42 ?_
  refine lv_icmp_ge (tgt := 62) hx hb dX7_clear_43 (by decide) (fun h => absurd h (by decide)) (fun _ => ?_)
  refine lv_aload_n hx hb dX7_clear_46 rfl (lv_at hl 1 rfl) ?_
  refine va_get (D := D) (ci := 7) (v := .ref r_workers) (C := RX7) (T := TX7) (N := 11) hx hb hts in7 hown hK hH.1 0 rfl rfl 0 (by decide) wd7 (fun _ h9 => h9) rfl dX7_clear_47 ?_
  refine lv_iload_n hx hb dX7_clear_50 rfl (lv_at hl 0 rfl) ?_
  refine va_aldq hx hb hK hH.1 1 0 rfl rfl (sj_vin (by decide) (by decide)) dX7_clear_51 ?_
  refine sj_v (y := .ref w1) (rfl) ?_
  refine lv_iconst (v := 0) hx hb dX7_clear_52 (by decide) ?_
  refine sj_put (D := D) (ci := 10) (v := .int 0) (ty := .int) (C := RX10) (F := TX10) (N := 8) hx hb hts in10 tyX10 tyX10_ok nmX10 hown hK hH hS 3 rfl rfl 7 (by decide) wd8 (fun _ h9 => h9) rfl (by decide +kernel) rfl rfl (Nat.le_of_ble_eq_true rfl) dX7_clear_53 (fun H locs (hH : sj_H D A ([(h0, .inr (7, [.ref r_workers, .int nw, .int 0, .ref r_queue, .int 0, .int 0, .int 0, .int 0, .int 1, .ref r_events, .int 0])), (r_workers, .inl (kw, 3, .inr (.inr (.inr (.inr (sj_f3 w0 w1 w2)))))), (w0, .inr (10, [.int 0, .int (-1), .int 0, .int 0, .int 0, .double 0, .int 0, .int 0])), (w1, .inr (10, [.int 1, .int (-1), .int 0, .int 0, .int 0, .double 0, .int 0, .int 0])), (w2, .inr (10, [.int 2, .int (-1), .int 0, .int 0, .int 0, .double 0, .int 0, .int 0]))] ++ []) H) hS => ?_)
  refine lv_iinc (v := 2) (lv' := [(2, .int 2), (0, .ref h0), (1, .int nw)]) hx hb dX7_clear_56 hl (k := 0) rfl (by decide) (by decide) rfl (fun ls hl => ?_)
  refine lv_goto (tgt := 37) hx hb dX7_clear_59 (by decide) ?_
  refine lv_iload_n hx hb dX7_clear_37 rfl (lv_at hl 0 rfl) ?_
  refine lv_aload_n hx hb dX7_clear_38 rfl (lv_at hl 1 rfl) ?_
  refine va_get (D := D) (ci := 7) (v := .ref r_workers) (C := RX7) (T := TX7) (N := 11) hx hb hts in7 hown hK hH.1 0 rfl rfl 0 (by decide) wd7 (fun _ h9 => h9) rfl dX7_clear_39 ?_
  refine va_alen hx hb hK hH.1 1 0 rfl rfl (v := 3) rfl dX7_clear_42 ?_
  refine lv_icmp_ge (tgt := 62) hx hb dX7_clear_43 (by decide) (fun h => absurd h (by decide)) (fun _ => ?_)
  refine lv_aload_n hx hb dX7_clear_46 rfl (lv_at hl 1 rfl) ?_
  refine va_get (D := D) (ci := 7) (v := .ref r_workers) (C := RX7) (T := TX7) (N := 11) hx hb hts in7 hown hK hH.1 0 rfl rfl 0 (by decide) wd7 (fun _ h9 => h9) rfl dX7_clear_47 ?_
  refine lv_iload_n hx hb dX7_clear_50 rfl (lv_at hl 0 rfl) ?_
  refine va_aldq hx hb hK hH.1 1 0 rfl rfl (sj_vin (by decide) (by decide)) dX7_clear_51 ?_
  refine sj_v (y := .ref w2) (rfl) ?_
  refine lv_iconst (v := 0) hx hb dX7_clear_52 (by decide) ?_
  refine sj_put (D := D) (ci := 10) (v := .int 0) (ty := .int) (C := RX10) (F := TX10) (N := 8) hx hb hts in10 tyX10 tyX10_ok nmX10 hown hK hH hS 4 rfl rfl 7 (by decide) wd8 (fun _ h9 => h9) rfl (by decide +kernel) rfl rfl (Nat.le_of_ble_eq_true rfl) dX7_clear_53 (fun H locs (hH : sj_H D A ([(h0, .inr (7, [.ref r_workers, .int nw, .int 0, .ref r_queue, .int 0, .int 0, .int 0, .int 0, .int 1, .ref r_events, .int 0])), (r_workers, .inl (kw, 3, .inr (.inr (.inr (.inr (sj_f3 w0 w1 w2)))))), (w0, .inr (10, [.int 0, .int (-1), .int 0, .int 0, .int 0, .double 0, .int 0, .int 0])), (w1, .inr (10, [.int 1, .int (-1), .int 0, .int 0, .int 0, .double 0, .int 0, .int 0])), (w2, .inr (10, [.int 2, .int (-1), .int 0, .int 0, .int 0, .double 0, .int 0, .int 0]))] ++ []) H) hS => ?_)
  refine lv_iinc (v := 3) (lv' := [(2, .int 3), (0, .ref h0), (1, .int nw)]) hx hb dX7_clear_56 hl (k := 0) rfl (by decide) (by decide) rfl (fun ls hl => ?_)
  refine lv_goto (tgt := 37) hx hb dX7_clear_59 (by decide) ?_
  refine lv_iload_n hx hb dX7_clear_37 rfl (lv_at hl 0 rfl) ?_
  refine lv_aload_n hx hb dX7_clear_38 rfl (lv_at hl 1 rfl) ?_
  refine va_get (D := D) (ci := 7) (v := .ref r_workers) (C := RX7) (T := TX7) (N := 11) hx hb hts in7 hown hK hH.1 0 rfl rfl 0 (by decide) wd7 (fun _ h9 => h9) rfl dX7_clear_39 ?_
  refine va_alen hx hb hK hH.1 1 0 rfl rfl (v := 3) rfl dX7_clear_42 ?_
  refine lv_icmp_ge (tgt := 62) hx hb dX7_clear_43 (by decide) (fun _ => ?_) (fun h => absurd (by decide) h)
  exact sj_vret hx hb hr hlocks hS () trivial (sj_sub hH [0, 1, 2, 3, 4] rfl rfl) (sj_Knil hK) (Nat.le_of_ble_eq_true rfl) (Nat.le_of_ble_eq_true rfl) dX7_clear_62
set_option maxHeartbeats 4000000 in
set_option maxRecDepth 100000 in
/-- a run without cases ends -/
theorem c_X7_end (l : Launch) (D : va_G) (h0 : Nat) (r_workers : Nat) (r_queue : Nat) (r_events : Nat) (wc : Int32) (w0 : Nat) (w1 : Nat) (w2 : Nat) (kw : ClassId) (ev : Nat → Int32) (ke : ClassId) (sz : Nat)  : Met l yX7_endIfNothingIsLeft wsX7_endIfNothingIsLeft ({ frames := 1, cells := 0, slots := 0, locals := 25 }) (va_Pc [.ref h0] (sj_B D [(h0, .inr (7, [.ref r_workers, .int wc, .int 0, .ref r_queue, .int 0, .int 0, .int 0, .int 0, .int 1, .ref r_events, .int 1])), (r_workers, .inl (kw, 3, .inr (.inr (.inr (.inr (sj_f3 w0 w1 w2)))))), (w0, .inr (10, [.int 0, .int (-1), .int 0, .int 0, .int 0, .double 0, .int 0, .int 0])), (w1, .inr (10, [.int 1, .int (-1), .int 0, .int 0, .int 0, .double 0, .int 0, .int 0])), (w2, .inr (10, [.int 2, .int (-1), .int 0, .int 0, .int 0, .double 0, .int 0, .int 0])), (r_events, .inl (ke, 256, .inl ev))] [(kw, .object RX10), (ke, .int)] sz sj_n)) (sj_Qv (S := Unit) D (fun _ => True) (fun u => [(h0, .inr (7, [.ref r_workers, .int wc, .int 0, .ref r_queue, .int 0, .int 0, .int 0, .int 0, .int 0, .ref r_events, .int 2]))]) (fun u => []) (va_A [(h0, .inr (7, [.ref r_workers, .int wc, .int 0, .ref r_queue, .int 0, .int 0, .int 0, .int 0, .int 1, .ref r_events, .int 1])), (r_workers, .inl (kw, 3, .inr (.inr (.inr (.inr (sj_f3 w0 w1 w2)))))), (w0, .inr (10, [.int 0, .int (-1), .int 0, .int 0, .int 0, .double 0, .int 0, .int 0])), (w1, .inr (10, [.int 1, .int (-1), .int 0, .int 0, .int 0, .double 0, .int 0, .int 0])), (w2, .inr (10, [.int 2, .int (-1), .int 0, .int 0, .int 0, .double 0, .int 0, .int 0])), (r_events, .inl (ke, 256, .inl ev))] sz)) 0 0 (va_A [(h0, .inr (7, [.ref r_workers, .int wc, .int 0, .ref r_queue, .int 0, .int 0, .int 0, .int 0, .int 1, .ref r_events, .int 1])), (r_workers, .inl (kw, 3, .inr (.inr (.inr (.inr (sj_f3 w0 w1 w2)))))), (w0, .inr (10, [.int 0, .int (-1), .int 0, .int 0, .int 0, .double 0, .int 0, .int 0])), (w1, .inr (10, [.int 1, .int (-1), .int 0, .int 0, .int 0, .double 0, .int 0, .int 0])), (w2, .inr (10, [.int 2, .int (-1), .int 0, .int 0, .int 0, .double 0, .int 0, .int 0])), (r_events, .inl (ke, 256, .inl ev))] sz) := by
  refine sj_met (cc := cX7_endIfNothingIsLeft) (maxL := 3) (ret := none) (by decide) rfl (Nat.le_of_ble_eq_true rfl) ?_
  intro p e s m below meth c A ls hx hb hr hml hts hown hlocks hnm hA hsz hS hH hK hE hl
  have hown : s.vm.findClass RX7 = some m.cls := hown
  have in7 : ∀ w ∈ wsX70, w ∈ wsX7_endIfNothingIsLeft := by decide +kernel
  have in10 : ∀ w ∈ wsX100, w ∈ wsX7_endIfNothingIsLeft := by decide +kernel
  have wd0 := hts (.fieldLink RX7 42 "StoryDesk$Run" "over" "I") (by decide +kernel)
  have wd1 := hts (.fieldLink RX7 36 "StoryDesk$Run" "queued" "I") (by decide +kernel)
  have wd2 := hts (.fieldLink RX7 11 "StoryDesk$Run" "workers" "[LStoryDesk$Worker;") (by decide +kernel)
  have wd3 := hts (.fieldLink RX7 52 "StoryDesk$Worker" "waitedInRun" "I") (by decide +kernel)
  have wd4 := hts (.fieldLink RX7 48 "StoryDesk$Run" "underWay" "Z") (by decide +kernel)
  have wd5 := hts (.fieldLink RX7 45 "StoryDesk$Run" "worst" "I") (by decide +kernel)
  have hl : lv_has ls 3 [(0, .ref h0)] := hl
  have hH : sj_H D A ([(h0, .inr (7, [.ref r_workers, .int wc, .int 0, .ref r_queue, .int 0, .int 0, .int 0, .int 0, .int 1, .ref r_events, .int 1])), (r_workers, .inl (kw, 3, .inr (.inr (.inr (.inr (sj_f3 w0 w1 w2)))))), (w0, .inr (10, [.int 0, .int (-1), .int 0, .int 0, .int 0, .double 0, .int 0, .int 0])), (w1, .inr (10, [.int 1, .int (-1), .int 0, .int 0, .int 0, .double 0, .int 0, .int 0])), (w2, .inr (10, [.int 2, .int (-1), .int 0, .int 0, .int 0, .double 0, .int 0, .int 0])), (r_events, .inl (ke, 256, .inl ev))] ++ []) s.heap := hH
  refine lv_aload_n hx hb dX7_endIfNothingIsLeft_0 rfl (lv_at hl 0 rfl) ?_
  refine va_get (D := D) (ci := 7) (v := .int 0) (C := RX7) (T := TX7) (N := 11) hx hb hts in7 hown hK hH.1 0 rfl rfl 6 (by decide) wd0 (fun _ h9 => h9) rfl dX7_endIfNothingIsLeft_1 ?_
  refine lv_aload_n hx hb dX7_endIfNothingIsLeft_4 rfl (lv_at hl 0 rfl) ?_
  refine va_get (D := D) (ci := 7) (v := .int 0) (C := RX7) (T := TX7) (N := 11) hx hb hts in7 hown hK hH.1 0 rfl rfl 4 (by decide) wd1 (fun _ h9 => h9) rfl dX7_endIfNothingIsLeft_5 ?_
  refine lv_icmp_ge (tgt := 12) hx hb dX7_endIfNothingIsLeft_8 (by decide) (fun _ => ?_) (fun h => absurd (by decide) h)
  refine lv_iconst (v := 0) hx hb dX7_endIfNothingIsLeft_12 (by decide) ?_
  refine lv_istore_n (lv' := [(1, .int 0), (0, .ref h0)]) hx hb dX7_endIfNothingIsLeft_13 rfl hl (by decide) rfl (fun ls hl => ?_)
  refine lv_iconst (v := 0) hx hb dX7_endIfNothingIsLeft_14 (by decide) ?_
  refine lv_istore_n (lv' := [(2, .int 0), (1, .int 0), (0, .ref h0)]) hx hb dX7_endIfNothingIsLeft_15 rfl hl (by decide) rfl (fun ls hl => ?_)
  refine lv_iload_n hx hb dX7_endIfNothingIsLeft_16 rfl (lv_at hl 0 rfl) ?_
  refine lv_aload_n hx hb dX7_endIfNothingIsLeft_17 rfl (lv_at hl 2 rfl) ?_
  refine va_get (D := D) (ci := 7) (v := .ref r_workers) (C := RX7) (T := TX7) (N := 11) hx hb hts in7 hown hK hH.1 0 rfl rfl 0 (by decide) wd2 (fun _ h9 => h9) rfl dX7_endIfNothingIsLeft_18 ?_
  refine va_alen hx hb hK hH.1 1 0 rfl rfl (v := 3) rfl dX7_endIfNothingIsLeft_21 ?_
  refine lv_icmp_ge (tgt := 43) hx hb dX7_endIfNothingIsLeft_22 (by decide) (fun h => absurd h (by decide)) (fun _ => ?_)
  refine lv_iload_n hx hb dX7_endIfNothingIsLeft_25 rfl (lv_at hl 1 rfl) ?_
  refine lv_aload_n hx hb dX7_endIfNothingIsLeft_26 rfl (lv_at hl 2 rfl) ?_
  refine va_get (D := D) (ci := 7) (v := .ref r_workers) (C := RX7) (T := TX7) (N := 11) hx hb hts in7 hown hK hH.1 0 rfl rfl 0 (by decide) wd2 (fun _ h9 => h9) rfl dX7_endIfNothingIsLeft_27 ?_
  refine lv_iload_n hx hb dX7_endIfNothingIsLeft_30 rfl (lv_at hl 0 rfl) ?_
  refine va_aldq hx hb hK hH.1 1 0 rfl rfl (sj_vin (by decide) (by decide)) dX7_endIfNothingIsLeft_31 ?_
  refine sj_v (y := .ref w0) (rfl) ?_
  refine va_get (D := D) (ci := 10) (v := .int 0) (C := RX10) (T := TX10) (N := 8) hx hb hts in10 hown hK hH.1 2 rfl rfl 7 (by decide) wd3 (fun _ h9 => h9) rfl dX7_endIfNothingIsLeft_32 ?_
  refine lv_iadd hx hb dX7_endIfNothingIsLeft_35 ?_
  refine sj_i (y := 0) (by decide) ?_
  refine lv_istore_n (lv' := [(1, .int 0), (2, .int 0), (0, .ref h0)]) hx hb dX7_endIfNothingIsLeft_36 rfl hl (by decide) rfl (fun ls hl => ?_)
  refine lv_iinc (v := 1) (lv' := [(2, .int 1), (1, .int 0), (0, .ref h0)]) hx hb dX7_endIfNothingIsLeft_37 hl (k := 1) rfl (by decide) (by decide) rfl (fun ls hl => ?_)
  refine lv_goto (tgt := 16) hx hb dX7_endIfNothingIsLeft_40 (by decide) ?_
  refine lv_iload_n hx hb dX7_endIfNothingIsLeft_16 rfl (lv_at hl 0 rfl) ?_
  refine lv_aload_n hx hb dX7_endIfNothingIsLeft_17 rfl (lv_at hl 2 rfl) ?_
  refine va_get (D := D) (ci := 7) (v := .ref r_workers) (C := RX7) (T := TX7) (N := 11) hx hb hts in7 hown hK hH.1 0 rfl rfl 0 (by decide) wd2 (fun _ h9 => h9) rfl dX7_endIfNothingIsLeft_18 ?_
  refine va_alen hx hb hK hH.1 1 0 rfl rfl (v := 3) rfl dX7_endIfNothingIsLeft_21 ?_
  refine lv_icmp_ge (tgt := 43) hx hb dX7_endIfNothingIsLeft_22 (by decide) (fun h => absurd h (by decide)) (fun _ => ?_)
  refine lv_iload_n hx hb dX7_endIfNothingIsLeft_25 rfl (lv_at hl 1 rfl) ?_
  refine lv_aload_n hx hb dX7_endIfNothingIsLeft_26 rfl (lv_at hl 2 rfl) ?_
  refine va_get (D := D) (ci := 7) (v := .ref r_workers) (C := RX7) (T := TX7) (N := 11) hx hb hts in7 hown hK hH.1 0 rfl rfl 0 (by decide) wd2 (fun _ h9 => h9) rfl dX7_endIfNothingIsLeft_27 ?_
  refine lv_iload_n hx hb dX7_endIfNothingIsLeft_30 rfl (lv_at hl 0 rfl) ?_
  refine va_aldq hx hb hK hH.1 1 0 rfl rfl (sj_vin (by decide) (by decide)) dX7_endIfNothingIsLeft_31 ?_
  refine sj_v (y := .ref w1) (rfl) ?_
  refine va_get (D := D) (ci := 10) (v := .int 0) (C := RX10) (T := TX10) (N := 8) hx hb hts in10 hown hK hH.1 3 rfl rfl 7 (by decide) wd3 (fun _ h9 => h9) rfl dX7_endIfNothingIsLeft_32 ?_
  refine lv_iadd hx hb dX7_endIfNothingIsLeft_35 ?_
  refine sj_i (y := 0) (by decide) ?_
  refine lv_istore_n (lv' := [(1, .int 0), (2, .int 1), (0, .ref h0)]) hx hb dX7_endIfNothingIsLeft_36 rfl hl (by decide) rfl (fun ls hl => ?_)
  refine lv_iinc (v := 2) (lv' := [(2, .int 2), (1, .int 0), (0, .ref h0)]) hx hb dX7_endIfNothingIsLeft_37 hl (k := 1) rfl (by decide) (by decide) rfl (fun ls hl => ?_)
  refine lv_goto (tgt := 16) hx hb dX7_endIfNothingIsLeft_40 (by decide) ?_
  refine lv_iload_n hx hb dX7_endIfNothingIsLeft_16 rfl (lv_at hl 0 rfl) ?_
  refine lv_aload_n hx hb dX7_endIfNothingIsLeft_17 rfl (lv_at hl 2 rfl) ?_
  refine va_get (D := D) (ci := 7) (v := .ref r_workers) (C := RX7) (T := TX7) (N := 11) hx hb hts in7 hown hK hH.1 0 rfl rfl 0 (by decide) wd2 (fun _ h9 => h9) rfl dX7_endIfNothingIsLeft_18 ?_
  refine va_alen hx hb hK hH.1 1 0 rfl rfl (v := 3) rfl dX7_endIfNothingIsLeft_21 ?_
  refine lv_icmp_ge (tgt := 43) hx hb dX7_endIfNothingIsLeft_22 (by decide) (fun h => absurd h (by decide)) (fun _ => ?_)
  refine lv_iload_n hx hb dX7_endIfNothingIsLeft_25 rfl (lv_at hl 1 rfl) ?_
  refine lv_aload_n hx hb dX7_endIfNothingIsLeft_26 rfl (lv_at hl 2 rfl) ?_
  refine va_get (D := D) (ci := 7) (v := .ref r_workers) (C := RX7) (T := TX7) (N := 11) hx hb hts in7 hown hK hH.1 0 rfl rfl 0 (by decide) wd2 (fun _ h9 => h9) rfl dX7_endIfNothingIsLeft_27 ?_
  refine lv_iload_n hx hb dX7_endIfNothingIsLeft_30 rfl (lv_at hl 0 rfl) ?_
  refine va_aldq hx hb hK hH.1 1 0 rfl rfl (sj_vin (by decide) (by decide)) dX7_endIfNothingIsLeft_31 ?_
  refine sj_v (y := .ref w2) (rfl) ?_
  refine va_get (D := D) (ci := 10) (v := .int 0) (C := RX10) (T := TX10) (N := 8) hx hb hts in10 hown hK hH.1 4 rfl rfl 7 (by decide) wd3 (fun _ h9 => h9) rfl dX7_endIfNothingIsLeft_32 ?_
  refine lv_iadd hx hb dX7_endIfNothingIsLeft_35 ?_
  refine sj_i (y := 0) (by decide) ?_
  refine lv_istore_n (lv' := [(1, .int 0), (2, .int 2), (0, .ref h0)]) hx hb dX7_endIfNothingIsLeft_36 rfl hl (by decide) rfl (fun ls hl => ?_)
  refine lv_iinc (v := 3) (lv' := [(2, .int 3), (1, .int 0), (0, .ref h0)]) hx hb dX7_endIfNothingIsLeft_37 hl (k := 1) rfl (by decide) (by decide) rfl (fun ls hl => ?_)
  refine lv_goto (tgt := 16) hx hb dX7_endIfNothingIsLeft_40 (by decide) ?_
  refine lv_iload_n hx hb dX7_endIfNothingIsLeft_16 rfl (lv_at hl 0 rfl) ?_
  refine lv_aload_n hx hb dX7_endIfNothingIsLeft_17 rfl (lv_at hl 2 rfl) ?_
  refine va_get (D := D) (ci := 7) (v := .ref r_workers) (C := RX7) (T := TX7) (N := 11) hx hb hts in7 hown hK hH.1 0 rfl rfl 0 (by decide) wd2 (fun _ h9 => h9) rfl dX7_endIfNothingIsLeft_18 ?_
  refine va_alen hx hb hK hH.1 1 0 rfl rfl (v := 3) rfl dX7_endIfNothingIsLeft_21 ?_
  refine lv_icmp_ge (tgt := 43) hx hb dX7_endIfNothingIsLeft_22 (by decide) (fun _ => ?_) (fun h => absurd (by decide) h)
  refine lv_aload_n hx hb dX7_endIfNothingIsLeft_43 rfl (lv_at hl 2 rfl) ?_
  refine lv_iconst (v := 0) hx hb dX7_endIfNothingIsLeft_44 (by decide) ?_
  refine sj_put (D := D) (ci := 7) (v := .int 0) (ty := .boolean) (C := RX7) (F := TX7) (N := 11) hx hb hts in7 tyX7 tyX7_ok nmX7 hown hK hH hS 0 rfl rfl 8 (by decide) wd4 (fun _ h9 => h9) rfl (by decide +kernel) (by decide +kernel) (by decide +kernel) (Nat.le_of_ble_eq_true rfl) dX7_endIfNothingIsLeft_45 (fun H locs (hH : sj_H D A ([(h0, .inr (7, [.ref r_workers, .int wc, .int 0, .ref r_queue, .int 0, .int 0, .int 0, .int 0, .int 0, .ref r_events, .int 1])), (r_workers, .inl (kw, 3, .inr (.inr (.inr (.inr (sj_f3 w0 w1 w2)))))), (w0, .inr (10, [.int 0, .int (-1), .int 0, .int 0, .int 0, .double 0, .int 0, .int 0])), (w1, .inr (10, [.int 1, .int (-1), .int 0, .int 0, .int 0, .double 0, .int 0, .int 0])), (w2, .inr (10, [.int 2, .int (-1), .int 0, .int 0, .int 0, .double 0, .int 0, .int 0])), (r_events, .inl (ke, 256, .inl ev))] ++ []) H) hS => ?_)
  refine lv_aload_n hx hb dX7_endIfNothingIsLeft_48 rfl (lv_at hl 2 rfl) ?_
  refine lv_iconst (v := 5) hx hb dX7_endIfNothingIsLeft_49 (by decide) ?_
  refine lv_aload_n hx hb dX7_endIfNothingIsLeft_50 rfl (lv_at hl 2 rfl) ?_
  refine va_get (D := D) (ci := 7) (v := .int 0) (C := RX7) (T := TX7) (N := 11) hx hb hts in7 hown hK hH.1 0 rfl rfl 7 (by decide) wd5 (fun _ h9 => h9) rfl dX7_endIfNothingIsLeft_51 ?_
  refine lv_iload_n hx hb dX7_endIfNothingIsLeft_54 rfl (lv_at hl 1 rfl) ?_
  refine lv_iconst (v := 0) hx hb dX7_endIfNothingIsLeft_55 (by decide) ?_
  refine sj_callv (wr := [(r_workers, .inl (kw, 3, .inr (.inr (.inr (.inr (sj_f3 w0 w1 w2)))))), (w0, .inr (10, [.int 0, .int (-1), .int 0, .int 0, .int 0, .double 0, .int 0, .int 0])), (w1, .inr (10, [.int 1, .int (-1), .int 0, .int 0, .int 0, .double 0, .int 0, .int 0])), (w2, .inr (10, [.int 2, .int (-1), .int 0, .int 0, .int 0, .double 0, .int 0, .int 0]))]) (va_runV (As := [.int 5, .int 0, .int 0, .int 0]) (rest := []) ⟨hx, hb, hml, hown, hts⟩ (c_X7_tell1 l D h0 5 0 0 0 r_workers r_queue r_events wc 0 ev ke H.size) (cwV 4 hts gX7_endIfNothingIsLeft_X7_tell rfl rfl rfl (by decide +kernel) ⟨(Nat.le_of_ble_eq_true rfl), (Nat.le_of_ble_eq_true rfl)⟩) (sj_preV (q := (RX7, TX7, 11)) hH hK [0, 5] rfl rfl [1] rfl rfl rfl sj_bln sj_exn) rfl rfl hl.1 rfl (lv_room (Nat.le_of_ble_eq_true rfl)) dX7_endIfNothingIsLeft_56 ⟨(Nat.le_of_ble_eq_true rfl), (Nat.le_of_ble_eq_true rfl)⟩) hH hK hS hA [0, 5] [1, 2, 3, 4] rfl rfl rfl rfl (by decide) rfl rfl (fun u_7 H locs hw_8 hH hK hS => ?_)
  have hH : sj_H D A ([(r_workers, .inl (kw, 3, .inr (.inr (.inr (.inr (sj_f3 w0 w1 w2)))))), (w0, .inr (10, [.int 0, .int (-1), .int 0, .int 0, .int 0, .double 0, .int 0, .int 0])), (w1, .inr (10, [.int 1, .int (-1), .int 0, .int 0, .int 0, .double 0, .int 0, .int 0])), (w2, .inr (10, [.int 2, .int (-1), .int 0, .int 0, .int 0, .double 0, .int 0, .int 0])), (h0, .inr (7, [.ref r_workers, .int wc, .int 0, .ref r_queue, .int 0, .int 0, .int 0, .int 0, .int 0, .ref r_events, .int 2])), (r_events, .inl (ke, 256, .inl (upd (upd (upd (upd ev 4 5) 5 0) 6 0) 7 0)))] ++ []) H := hH
  have hK : va_K D vwCl [(kw, .object RX10), (ke, .int)] s := by simpa using hK
  exact sj_vret hx hb hr hlocks hS () trivial (sj_sub hH [4] rfl rfl) (sj_Knil hK) (Nat.le_of_ble_eq_true rfl) (Nat.le_of_ble_eq_true rfl) dX7_endIfNothingIsLeft_59
set_option maxHeartbeats 4000000 in
set_option maxRecDepth 100000 in
/-- start without cases -/
theorem c_X11_start (l : Launch) (hl0 : l.stackTraces = false) (D : va_G) (h0 : Nat) (workers : Int32) (d_text : Nat) (d_reading : Nat) (d_cases : Nat) (d_scripts : Nat) (d_run : Nat) (d_definitions : Nat) (d_definitionScripts : Nat) (d_hookTags : Nat) (d_hookBefore : Nat) (d_hookScripts : Nat) (d_filterInUse : Nat) (d_filterToTry : Nat) (r_workers : Nat) (r_queue : Nat) (r_events : Nat) (w0 : Nat) (w1 : Nat) (w2 : Nat) (kw : ClassId) (c_reading : Nat) (c_stepText : Nat) (c_cellText : Nat) (c_all : Nat) (ev : Nat → Int32) (ke : ClassId) (sz : Nat)  : vx_Met l yX11_start wsX11_start ({ frames := 6, cells := 1, slots := 6, locals := 90 }) (va_Pc [.ref h0, .int workers] (sj_B D [(h0, .inr (11, [.ref d_text, .ref d_reading, .ref d_cases, .ref d_scripts, .ref d_run, .ref d_definitions, .ref d_definitionScripts, .int 0, .ref d_hookTags, .ref d_hookBefore, .ref d_hookScripts, .int 0, .ref d_filterInUse, .ref d_filterToTry])), (d_run, .inr (7, [.ref r_workers, .int 0, .int 0, .ref r_queue, .int 0, .int 0, .int 0, .int 0, .int 0, .ref r_events, .int 0])), (r_workers, .inl (kw, 3, .inr (.inr (.inr (.inr (sj_f3 w0 w1 w2)))))), (w0, .inr (10, [.int 0, .int (-1), .int 0, .int 0, .int 0, .double 0, .int 0, .int 0])), (w1, .inr (10, [.int 1, .int (-1), .int 0, .int 0, .int 0, .double 0, .int 0, .int 0])), (w2, .inr (10, [.int 2, .int (-1), .int 0, .int 0, .int 0, .double 0, .int 0, .int 0])), (r_events, .inl (ke, 256, .inl ev)), (d_cases, .inr (1, [.ref c_reading, .ref c_stepText, .ref c_cellText, .ref c_all, .int 0]))] [(kw, .object RX10), (ke, .int)] sz (sj_xt "java/lang/IllegalArgumentException" (va_A [(h0, .inr (11, [.ref d_text, .ref d_reading, .ref d_cases, .ref d_scripts, .ref d_run, .ref d_definitions, .ref d_definitionScripts, .int 0, .ref d_hookTags, .ref d_hookBefore, .ref d_hookScripts, .int 0, .ref d_filterInUse, .ref d_filterToTry])), (d_run, .inr (7, [.ref r_workers, .int 0, .int 0, .ref r_queue, .int 0, .int 0, .int 0, .int 0, .int 0, .ref r_events, .int 0])), (r_workers, .inl (kw, 3, .inr (.inr (.inr (.inr (sj_f3 w0 w1 w2)))))), (w0, .inr (10, [.int 0, .int (-1), .int 0, .int 0, .int 0, .double 0, .int 0, .int 0])), (w1, .inr (10, [.int 1, .int (-1), .int 0, .int 0, .int 0, .double 0, .int 0, .int 0])), (w2, .inr (10, [.int 2, .int (-1), .int 0, .int 0, .int 0, .double 0, .int 0, .int 0])), (r_events, .inl (ke, 256, .inl ev)), (d_cases, .inr (1, [.ref c_reading, .ref c_stepText, .ref c_cellText, .ref c_all, .int 0]))] sz)))) (sj_Qi (S := Unit) D (fun r _ => r = 0 ∧ 1 ≤ workers.toInt ∧ workers.toInt ≤ 3) (fun u => []) (fun u => []) (va_A [(h0, .inr (11, [.ref d_text, .ref d_reading, .ref d_cases, .ref d_scripts, .ref d_run, .ref d_definitions, .ref d_definitionScripts, .int 0, .ref d_hookTags, .ref d_hookBefore, .ref d_hookScripts, .int 0, .ref d_filterInUse, .ref d_filterToTry])), (d_run, .inr (7, [.ref r_workers, .int 0, .int 0, .ref r_queue, .int 0, .int 0, .int 0, .int 0, .int 0, .ref r_events, .int 0])), (r_workers, .inl (kw, 3, .inr (.inr (.inr (.inr (sj_f3 w0 w1 w2)))))), (w0, .inr (10, [.int 0, .int (-1), .int 0, .int 0, .int 0, .double 0, .int 0, .int 0])), (w1, .inr (10, [.int 1, .int (-1), .int 0, .int 0, .int 0, .double 0, .int 0, .int 0])), (w2, .inr (10, [.int 2, .int (-1), .int 0, .int 0, .int 0, .double 0, .int 0, .int 0])), (r_events, .inl (ke, 256, .inl ev)), (d_cases, .inr (1, [.ref c_reading, .ref c_stepText, .ref c_cellText, .ref c_all, .int 0]))] sz)) (sj_XC "java/lang/IllegalArgumentException" (¬ (1 ≤ workers.toInt ∧ workers.toInt ≤ 3)) (va_A [(h0, .inr (11, [.ref d_text, .ref d_reading, .ref d_cases, .ref d_scripts, .ref d_run, .ref d_definitions, .ref d_definitionScripts, .int 0, .ref d_hookTags, .ref d_hookBefore, .ref d_hookScripts, .int 0, .ref d_filterInUse, .ref d_filterToTry])), (d_run, .inr (7, [.ref r_workers, .int 0, .int 0, .ref r_queue, .int 0, .int 0, .int 0, .int 0, .int 0, .ref r_events, .int 0])), (r_workers, .inl (kw, 3, .inr (.inr (.inr (.inr (sj_f3 w0 w1 w2)))))), (w0, .inr (10, [.int 0, .int (-1), .int 0, .int 0, .int 0, .double 0, .int 0, .int 0])), (w1, .inr (10, [.int 1, .int (-1), .int 0, .int 0, .int 0, .double 0, .int 0, .int 0])), (w2, .inr (10, [.int 2, .int (-1), .int 0, .int 0, .int 0, .double 0, .int 0, .int 0])), (r_events, .inl (ke, 256, .inl ev)), (d_cases, .inr (1, [.ref c_reading, .ref c_stepText, .ref c_cellText, .ref c_all, .int 0]))] sz)) 1 6 (va_A [(h0, .inr (11, [.ref d_text, .ref d_reading, .ref d_cases, .ref d_scripts, .ref d_run, .ref d_definitions, .ref d_definitionScripts, .int 0, .ref d_hookTags, .ref d_hookBefore, .ref d_hookScripts, .int 0, .ref d_filterInUse, .ref d_filterToTry])), (d_run, .inr (7, [.ref r_workers, .int 0, .int 0, .ref r_queue, .int 0, .int 0, .int 0, .int 0, .int 0, .ref r_events, .int 0])), (r_workers, .inl (kw, 3, .inr (.inr (.inr (.inr (sj_f3 w0 w1 w2)))))), (w0, .inr (10, [.int 0, .int (-1), .int 0, .int 0, .int 0, .double 0, .int 0, .int 0])), (w1, .inr (10, [.int 1, .int (-1), .int 0, .int 0, .int 0, .double 0, .int 0, .int 0])), (w2, .inr (10, [.int 2, .int (-1), .int 0, .int 0, .int 0, .double 0, .int 0, .int 0])), (r_events, .inl (ke, 256, .inl ev)), (d_cases, .inr (1, [.ref c_reading, .ref c_stepText, .ref c_cellText, .ref c_all, .int 0]))] sz) := by
  refine sj_vmet (Ex := fun A => sj_xt "java/lang/IllegalArgumentException" A) (XC := fun A => sj_XC "java/lang/IllegalArgumentException" (¬ (1 ≤ workers.toInt ∧ workers.toInt ≤ 3)) A) (cc := cX11_start) (maxL := 4) (ret := (some .int)) (by decide) rfl (Nat.le_of_ble_eq_true rfl) ?_
  intro p e s m below meth c A ls hx hb hr hml hts hown hlocks hnt hA hsz hS hH hK hE hl
  have hown : s.vm.findClass RX11 = some m.cls := hown
  have in1 : ∀ w ∈ wsX10, w ∈ wsX11_start := by decide +kernel
  have in7 : ∀ w ∈ wsX70, w ∈ wsX11_start := by decide +kernel
  have in11 : ∀ w ∈ wsX110, w ∈ wsX11_start := by decide +kernel
  have wd0 := hts (.fieldLink RX11 44 "StoryDesk" "run" "LStoryDesk$Run;") (by decide +kernel)
  have wd1 := hts (.fieldLink RX11 88 "StoryDesk$Run" "underWay" "Z") (by decide +kernel)
  have wd2 := hts (.classLink RX11 124 "java/lang/IllegalArgumentException") (by decide +kernel)
  have wd3 := hts (.initialized "java/lang/IllegalArgumentException") (by decide +kernel)
  have wd4 := hts (.fieldLink RX11 30 "StoryDesk" "cases" "LStoryDesk$Cases;") (by decide +kernel)
  have wd5 := hts (.fieldLink RX11 134 "StoryDesk$Cases" "count" "I") (by decide +kernel)
  have wd6 := hts (.fieldLink RX11 232 "StoryDesk$Run" "queued" "I") (by decide +kernel)
  have thr_126 : ∀ w ∈ (vx_at0 RX11 126 "java/lang/IllegalArgumentException" ["java/lang/RuntimeException", "java/lang/Exception"]).filter goodWord, w ∈ wsX11_start := by decide +kernel
  have hl : lv_has ls 4 [(0, .ref h0), (1, .int workers)] := hl
  have hH : sj_H D A ([(h0, .inr (11, [.ref d_text, .ref d_reading, .ref d_cases, .ref d_scripts, .ref d_run, .ref d_definitions, .ref d_definitionScripts, .int 0, .ref d_hookTags, .ref d_hookBefore, .ref d_hookScripts, .int 0, .ref d_filterInUse, .ref d_filterToTry])), (d_run, .inr (7, [.ref r_workers, .int 0, .int 0, .ref r_queue, .int 0, .int 0, .int 0, .int 0, .int 0, .ref r_events, .int 0])), (r_workers, .inl (kw, 3, .inr (.inr (.inr (.inr (sj_f3 w0 w1 w2)))))), (w0, .inr (10, [.int 0, .int (-1), .int 0, .int 0, .int 0, .double 0, .int 0, .int 0])), (w1, .inr (10, [.int 1, .int (-1), .int 0, .int 0, .int 0, .double 0, .int 0, .int 0])), (w2, .inr (10, [.int 2, .int (-1), .int 0, .int 0, .int 0, .double 0, .int 0, .int 0])), (r_events, .inl (ke, 256, .inl ev)), (d_cases, .inr (1, [.ref c_reading, .ref c_stepText, .ref c_cellText, .ref c_all, .int 0]))] ++ []) s.heap := hH
  refine lv_aload_n hx hb dX11_start_0 rfl (lv_at hl 0 rfl) ?_
  refine va_get (D := D) (ci := 11) (v := .ref d_run) (C := RX11) (T := TX11) (N := 14) hx hb hts in11 hown hK hH.1 0 rfl rfl 4 (by decide) wd0 (fun _ h9 => h9) rfl dX11_start_1 ?_
  refine va_get (D := D) (ci := 7) (v := .int 0) (C := RX7) (T := TX7) (N := 11) hx hb hts in7 hown hK hH.1 1 rfl rfl 8 (by decide) wd1 (fun _ h9 => h9) rfl dX11_start_4 ?_
  refine lv_if_eq (tgt := 18) hx hb dX11_start_7 (by decide) (fun _ => ?_) (fun h => absurd (by decide) h)
  refine lv_iload_n hx hb dX11_start_18 rfl (lv_at hl 1 rfl) ?_
  refine lv_iconst (v := 1) hx hb dX11_start_19 (by decide) ?_
  refine lv_icmp_lt (tgt := 28) hx hb dX11_start_20 (by decide) (fun c_2 => ?_) (fun c_2 => ?_)
  · skip
    have d_3 := sj_ltF (n := 1) (by decide) c_2
    exact sj_throw hx hb hl0 (ik := 124) (ic := 126) (cls := "java/lang/IllegalArgumentException") (by omega) hown (by decide) wd2 wd3 (fun w h => hts w (thr_126 w h)) (by decide +kernel) (by decide +kernel) hE hS (hl.1.trans hml.symm) dX11_start_28 dX11_start_31 dX11_start_32 dX11_start_35 hnt (Nat.le_of_ble_eq_true rfl) (Nat.le_of_ble_eq_true rfl) (Nat.le_of_ble_eq_true rfl) (Nat.le_of_ble_eq_true rfl) hlocks (Nat.le_of_ble_eq_true rfl) (Nat.le_of_ble_eq_true rfl)
  · skip
    have d_4 := sj_nlt (n := 1) (by decide) c_2
    refine lv_iload_n hx hb dX11_start_23 rfl (lv_at hl 1 rfl) ?_
    refine lv_iconst (v := 3) hx hb dX11_start_24 (by decide) ?_
    refine lv_icmp_le (tgt := 36) hx hb dX11_start_25 (by decide) (fun c_5 => ?_) (fun c_5 => ?_)
    · skip
      have d_6 := sj_leF (n := 3) (by decide) c_5
      refine lv_aload_n hx hb dX11_start_36 rfl (lv_at hl 0 rfl) ?_
      refine va_get (D := D) (ci := 11) (v := .ref d_run) (C := RX11) (T := TX11) (N := 14) hx hb hts in11 hown hK hH.1 0 rfl rfl 4 (by decide) wd0 (fun _ h9 => h9) rfl dX11_start_37 ?_
      refine lv_iload_n hx hb dX11_start_40 rfl (lv_at hl 1 rfl) ?_
      refine sj_callv (wr := [(h0, .inr (11, [.ref d_text, .ref d_reading, .ref d_cases, .ref d_scripts, .ref d_run, .ref d_definitions, .ref d_definitionScripts, .int 0, .ref d_hookTags, .ref d_hookBefore, .ref d_hookScripts, .int 0, .ref d_filterInUse, .ref d_filterToTry])), (r_events, .inl (ke, 256, .inl ev)), (d_cases, .inr (1, [.ref c_reading, .ref c_stepText, .ref c_cellText, .ref c_all, .int 0]))]) (va_runV (As := [.int workers]) (rest := []) ⟨hx, hb, hml, hown, hts⟩ (c_X7_clear l D d_run workers r_workers r_queue r_events 0 0 w0 w1 w2 kw s.heap.size) (cwV 1 hts gX11_start_X7_clear rfl rfl rfl (by decide +kernel) ⟨(Nat.le_of_ble_eq_true rfl), (Nat.le_of_ble_eq_true rfl)⟩) (sj_preV (q := (RX7, TX7, 11)) hH hK [1, 2, 3, 4, 5] rfl rfl [0] rfl rfl rfl sj_bln sj_exn) rfl rfl hl.1 rfl (lv_room (Nat.le_of_ble_eq_true rfl)) dX11_start_41 ⟨(Nat.le_of_ble_eq_true rfl), (Nat.le_of_ble_eq_true rfl)⟩) hH hK hS hA [1, 2, 3, 4, 5] [0, 6, 7] rfl rfl rfl rfl (by decide) rfl rfl (fun u_8 H locs hw_9 hH hK hS => ?_)
      have hH : sj_H D A ([(h0, .inr (11, [.ref d_text, .ref d_reading, .ref d_cases, .ref d_scripts, .ref d_run, .ref d_definitions, .ref d_definitionScripts, .int 0, .ref d_hookTags, .ref d_hookBefore, .ref d_hookScripts, .int 0, .ref d_filterInUse, .ref d_filterToTry])), (r_events, .inl (ke, 256, .inl ev)), (d_cases, .inr (1, [.ref c_reading, .ref c_stepText, .ref c_cellText, .ref c_all, .int 0])), (d_run, .inr (7, [.ref r_workers, .int workers, .int 0, .ref r_queue, .int 0, .int 0, .int 0, .int 0, .int 1, .ref r_events, .int 0])), (r_workers, .inl (kw, 3, .inr (.inr (.inr (.inr (sj_f3 w0 w1 w2)))))), (w0, .inr (10, [.int 0, .int (-1), .int 0, .int 0, .int 0, .double 0, .int 0, .int 0])), (w1, .inr (10, [.int 1, .int (-1), .int 0, .int 0, .int 0, .double 0, .int 0, .int 0])), (w2, .inr (10, [.int 2, .int (-1), .int 0, .int 0, .int 0, .double 0, .int 0, .int 0]))] ++ []) H := hH
      have hK : va_K D vwCl [(kw, .object RX10), (ke, .int)] s := by simpa using hK
      refine lv_iconst (v := 0) hx hb dX11_start_44 (by decide) ?_
      refine lv_istore_n (lv' := [(2, .int 0), (0, .ref h0), (1, .int workers)]) hx hb dX11_start_45 rfl hl (by decide) rfl (fun ls hl => ?_)
      refine lv_iload_n hx hb dX11_start_46 rfl (lv_at hl 0 rfl) ?_
      refine lv_aload_n hx hb dX11_start_47 rfl (lv_at hl 1 rfl) ?_
      refine va_get (D := D) (ci := 11) (v := .ref d_cases) (C := RX11) (T := TX11) (N := 14) hx hb hts in11 hown hK hH.1 0 rfl rfl 2 (by decide) wd4 (fun _ h9 => h9) rfl dX11_start_48 ?_
      refine va_get (D := D) (ci := 1) (v := .int 0) (C := RX1) (T := TX1) (N := 5) hx hb hts in1 hown hK hH.1 2 rfl rfl 4 (by decide) wd5 (fun _ h9 => h9) rfl dX11_start_51 ?_
      refine lv_icmp_ge (tgt := 100) hx hb dX11_start_54 (by decide) (fun _ => ?_) (fun h => absurd (by decide) h)
      refine lv_aload_n hx hb dX11_start_100 rfl (lv_at hl 1 rfl) ?_
      refine va_get (D := D) (ci := 11) (v := .ref d_run) (C := RX11) (T := TX11) (N := 14) hx hb hts in11 hown hK hH.1 0 rfl rfl 4 (by decide) wd0 (fun _ h9 => h9) rfl dX11_start_101 ?_
      refine lv_iconst (v := 0) hx hb dX11_start_104 (by decide) ?_
      refine lv_aload_n hx hb dX11_start_105 rfl (lv_at hl 1 rfl) ?_
      refine va_get (D := D) (ci := 11) (v := .ref d_run) (C := RX11) (T := TX11) (N := 14) hx hb hts in11 hown hK hH.1 0 rfl rfl 4 (by decide) wd0 (fun _ h9 => h9) rfl dX11_start_106 ?_
      refine va_get (D := D) (ci := 7) (v := .int 0) (C := RX7) (T := TX7) (N := 11) hx hb hts in7 hown hK hH.1 3 rfl rfl 4 (by decide) wd6 (fun _ h9 => h9) rfl dX11_start_109 ?_
      refine lv_iload_n hx hb dX11_start_112 rfl (lv_at hl 2 rfl) ?_
      refine lv_iconst (v := 0) hx hb dX11_start_113 (by decide) ?_
      refine sj_callv (wr := [(h0, .inr (11, [.ref d_text, .ref d_reading, .ref d_cases, .ref d_scripts, .ref d_run, .ref d_definitions, .ref d_definitionScripts, .int 0, .ref d_hookTags, .ref d_hookBefore, .ref d_hookScripts, .int 0, .ref d_filterInUse, .ref d_filterToTry])), (d_cases, .inr (1, [.ref c_reading, .ref c_stepText, .ref c_cellText, .ref c_all, .int 0])), (r_workers, .inl (kw, 3, .inr (.inr (.inr (.inr (sj_f3 w0 w1 w2)))))), (w0, .inr (10, [.int 0, .int (-1), .int 0, .int 0, .int 0, .double 0, .int 0, .int 0])), (w1, .inr (10, [.int 1, .int (-1), .int 0, .int 0, .int 0, .double 0, .int 0, .int 0])), (w2, .inr (10, [.int 2, .int (-1), .int 0, .int 0, .int 0, .double 0, .int 0, .int 0]))]) (va_runV (As := [.int 0, .int 0, .int workers, .int 0]) (rest := []) ⟨hx, hb, hml, hown, hts⟩ (c_X7_tell0 l D d_run 0 0 workers 0 r_workers r_queue r_events workers 1 ev ke H.size) (cwV 4 hts gX11_start_X7_tell rfl rfl rfl (by decide +kernel) ⟨(Nat.le_of_ble_eq_true rfl), (Nat.le_of_ble_eq_true rfl)⟩) (sj_preV (q := (RX7, TX7, 11)) hH hK [3, 1] rfl rfl [1] rfl rfl rfl sj_bln sj_exn) rfl rfl hl.1 rfl (lv_room (Nat.le_of_ble_eq_true rfl)) dX11_start_114 ⟨(Nat.le_of_ble_eq_true rfl), (Nat.le_of_ble_eq_true rfl)⟩) hH hK hS hA [3, 1] [0, 2, 4, 5, 6, 7] rfl rfl rfl rfl (by decide) rfl rfl (fun u_12 H locs hw_13 hH hK hS => ?_)
      have hH : sj_H D A ([(h0, .inr (11, [.ref d_text, .ref d_reading, .ref d_cases, .ref d_scripts, .ref d_run, .ref d_definitions, .ref d_definitionScripts, .int 0, .ref d_hookTags, .ref d_hookBefore, .ref d_hookScripts, .int 0, .ref d_filterInUse, .ref d_filterToTry])), (d_cases, .inr (1, [.ref c_reading, .ref c_stepText, .ref c_cellText, .ref c_all, .int 0])), (r_workers, .inl (kw, 3, .inr (.inr (.inr (.inr (sj_f3 w0 w1 w2)))))), (w0, .inr (10, [.int 0, .int (-1), .int 0, .int 0, .int 0, .double 0, .int 0, .int 0])), (w1, .inr (10, [.int 1, .int (-1), .int 0, .int 0, .int 0, .double 0, .int 0, .int 0])), (w2, .inr (10, [.int 2, .int (-1), .int 0, .int 0, .int 0, .double 0, .int 0, .int 0])), (d_run, .inr (7, [.ref r_workers, .int workers, .int 0, .ref r_queue, .int 0, .int 0, .int 0, .int 0, .int 1, .ref r_events, .int 1])), (r_events, .inl (ke, 256, .inl (upd (upd (upd (upd ev 0 0) 1 0) 2 workers) 3 0)))] ++ []) H := hH
      have hK : va_K D vwCl [(kw, .object RX10), (ke, .int)] s := by simpa using hK
      refine lv_aload_n hx hb dX11_start_117 rfl (lv_at hl 1 rfl) ?_
      refine va_get (D := D) (ci := 11) (v := .ref d_run) (C := RX11) (T := TX11) (N := 14) hx hb hts in11 hown hK hH.1 0 rfl rfl 4 (by decide) wd0 (fun _ h9 => h9) rfl dX11_start_118 ?_
      refine sj_callv (wr := [(h0, .inr (11, [.ref d_text, .ref d_reading, .ref d_cases, .ref d_scripts, .ref d_run, .ref d_definitions, .ref d_definitionScripts, .int 0, .ref d_hookTags, .ref d_hookBefore, .ref d_hookScripts, .int 0, .ref d_filterInUse, .ref d_filterToTry])), (d_cases, .inr (1, [.ref c_reading, .ref c_stepText, .ref c_cellText, .ref c_all, .int 0]))]) (va_runV (As := []) (rest := []) ⟨hx, hb, hml, hown, hts⟩ (c_X7_end l D d_run r_workers r_queue r_events workers w0 w1 w2 kw (upd (upd (upd (upd ev 0 0) 1 0) 2 workers) 3 0) ke H.size) (cwV 0 hts gX11_start_X7_endIfNothingIsLeft rfl rfl rfl (by decide +kernel) ⟨(Nat.le_of_ble_eq_true rfl), (Nat.le_of_ble_eq_true rfl)⟩) (sj_preV (q := (RX7, TX7, 11)) hH hK [6, 2, 3, 4, 5, 7] rfl rfl [0, 1] rfl rfl rfl sj_bln sj_exn) rfl rfl hl.1 rfl (lv_room (Nat.le_of_ble_eq_true rfl)) dX11_start_121 ⟨(Nat.le_of_ble_eq_true rfl), (Nat.le_of_ble_eq_true rfl)⟩) hH hK hS hA [6, 2, 3, 4, 5, 7] [0, 1] rfl rfl rfl rfl (by decide) rfl rfl (fun u_15 H locs hw_16 hH hK hS => ?_)
      have hH : sj_H D A ([(h0, .inr (11, [.ref d_text, .ref d_reading, .ref d_cases, .ref d_scripts, .ref d_run, .ref d_definitions, .ref d_definitionScripts, .int 0, .ref d_hookTags, .ref d_hookBefore, .ref d_hookScripts, .int 0, .ref d_filterInUse, .ref d_filterToTry])), (d_cases, .inr (1, [.ref c_reading, .ref c_stepText, .ref c_cellText, .ref c_all, .int 0])), (d_run, .inr (7, [.ref r_workers, .int workers, .int 0, .ref r_queue, .int 0, .int 0, .int 0, .int 0, .int 0, .ref r_events, .int 2]))] ++ []) H := hH
      have hK : va_K D vwCl [(kw, .object RX10), (ke, .int)] s := by simpa using hK
      refine lv_aload_n hx hb dX11_start_124 rfl (lv_at hl 1 rfl) ?_
      refine va_get (D := D) (ci := 11) (v := .ref d_run) (C := RX11) (T := TX11) (N := 14) hx hb hts in11 hown hK hH.1 0 rfl rfl 4 (by decide) wd0 (fun _ h9 => h9) rfl dX11_start_125 ?_
      refine va_get (D := D) (ci := 7) (v := .int 0) (C := RX7) (T := TX7) (N := 11) hx hb hts in7 hown hK hH.1 2 rfl rfl 4 (by decide) wd6 (fun _ h9 => h9) rfl dX11_start_128 ?_
      refine vx_ret ?_
      exact sj_zret hx hb hr hlocks rfl hS () ⟨rfl, by omega, by omega⟩ sj_nil (sj_Knil hK) (Nat.le_of_ble_eq_true rfl) (Nat.le_of_ble_eq_true rfl) dX11_start_131
    · skip
      have d_17 := sj_nle (n := 3) (by decide) c_5
      exact sj_throw hx hb hl0 (ik := 124) (ic := 126) (cls := "java/lang/IllegalArgumentException") (by omega) hown (by decide) wd2 wd3 (fun w h => hts w (thr_126 w h)) (by decide +kernel) (by decide +kernel) hE hS (hl.1.trans hml.symm) dX11_start_28 dX11_start_31 dX11_start_32 dX11_start_35 hnt (Nat.le_of_ble_eq_true rfl) (Nat.le_of_ble_eq_true rfl) (Nat.le_of_ble_eq_true rfl) (Nat.le_of_ble_eq_true rfl) hlocks (Nat.le_of_ble_eq_true rfl) (Nat.le_of_ble_eq_true rfl)
