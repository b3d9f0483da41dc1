theorem dX12_takeLine_0 : decode cX12_takeLine 0 = .ok (.aload_n 0, 1) := by decide +kernel
theorem dX12_takeLine_1 : decode cX12_takeLine 1 = .ok (.getfield 12, 3) := by decide +kernel
theorem dX12_takeLine_4 : decode cX12_takeLine 4 = .ok (.iload_n 1, 1) := by decide +kernel
theorem dX12_takeLine_5 : decode cX12_takeLine 5 = .ok (.iload_n 2, 1) := by decide +kernel
theorem dX12_takeLine_6 : decode cX12_takeLine 6 = .ok (.invokestatic 22, 3) := by decide +kernel
theorem dX12_takeLine_9 : decode cX12_takeLine 9 = .ok (.istore_n 3, 1) := by decide +kernel
theorem dX12_takeLine_10 : decode cX12_takeLine 10 = .ok (.aload_n 0, 1) := by decide +kernel
theorem dX12_takeLine_11 : decode cX12_takeLine 11 = .ok (.aload_n 0, 1) := by decide +kernel
theorem dX12_takeLine_12 : decode cX12_takeLine 12 = .ok (.getfield 12, 3) := by decide +kernel
theorem dX12_takeLine_15 : decode cX12_takeLine 15 = .ok (.iload_n 3, 1) := by decide +kernel
theorem dX12_takeLine_16 : decode cX12_takeLine 16 = .ok (.iload_n 2, 1) := by decide +kernel
theorem dX12_takeLine_17 : decode cX12_takeLine 17 = .ok (.invokestatic 26, 3) := by decide +kernel
theorem dX12_takeLine_20 : decode cX12_takeLine 20 = .ok (.iload_n 3, 1) := by decide +kernel
theorem dX12_takeLine_21 : decode cX12_takeLine 21 = .ok (.isub, 1) := by decide +kernel
theorem dX12_takeLine_22 : decode cX12_takeLine 22 = .ok (.putfield 16, 3) := by decide +kernel
theorem dX12_takeLine_25 : decode cX12_takeLine 25 = .ok (.iconst 0, 1) := by decide +kernel
theorem dX12_takeLine_26 : decode cX12_takeLine 26 = .ok (.istore 4, 2) := by decide +kernel
theorem dX12_takeLine_28 : decode cX12_takeLine 28 = .ok (.iload 4, 2) := by decide +kernel
theorem dX12_takeLine_30 : decode cX12_takeLine 30 = .ok (.aload_n 0, 1) := by decide +kernel
theorem dX12_takeLine_31 : decode cX12_takeLine 31 = .ok (.getfield 16, 3) := by decide +kernel
theorem dX12_takeLine_34 : decode cX12_takeLine 34 = .ok (.if_icmp .ge 25, 3) := by decide +kernel
theorem dX12_takeLine_59 : decode cX12_takeLine 59 = .ok (.return_, 1) := by decide +kernel
theorem dX12_takeLine_37 : decode cX12_takeLine 37 = .ok (.aload_n 0, 1) := by decide +kernel
theorem dX12_takeLine_38 : decode cX12_takeLine 38 = .ok (.getfield 19, 3) := by decide +kernel
theorem dX12_takeLine_41 : decode cX12_takeLine 41 = .ok (.iload 4, 2) := by decide +kernel
theorem dX12_takeLine_43 : decode cX12_takeLine 43 = .ok (.aload_n 0, 1) := by decide +kernel
theorem dX12_takeLine_44 : decode cX12_takeLine 44 = .ok (.getfield 12, 3) := by decide +kernel
theorem dX12_takeLine_47 : decode cX12_takeLine 47 = .ok (.iload_n 3, 1) := by decide +kernel
theorem dX12_takeLine_48 : decode cX12_takeLine 48 = .ok (.iload 4, 2) := by decide +kernel
theorem dX12_takeLine_50 : decode cX12_takeLine 50 = .ok (.iadd, 1) := by decide +kernel
theorem dX12_takeLine_51 : decode cX12_takeLine 51 = .ok (.caload, 1) := by decide +kernel
theorem dX12_takeLine_52 : decode cX12_takeLine 52 = .ok (.castore, 1) := by decide +kernel
theorem dX12_takeLine_53 : decode cX12_takeLine 53 = .ok (.iinc 4 1, 3) := by decide +kernel
theorem dX12_takeLine_56 : decode cX12_takeLine 56 = .ok (.goto (-28), 3) := by decide +kernel
theorem dX12_key_0 : decode cX12_key 0 = .ok (.iload_n 1, 1) := by decide +kernel
theorem dX12_key_1 : decode cX12_key 1 = .ok (.ifCond .ne 58, 3) := by decide +kernel
theorem dX12_key_59 : decode cX12_key 59 = .ok (.iload_n 0, 1) := by decide +kernel
theorem dX12_key_60 : decode cX12_key 60 = .ok (.bipush 80, 2) := by decide +kernel
theorem dX12_key_62 : decode cX12_key 62 = .ok (.if_icmp .ne 7, 3) := by decide +kernel
theorem dX12_key_69 : decode cX12_key 69 = .ok (.iload_n 0, 1) := by decide +kernel
theorem dX12_key_70 : decode cX12_key 70 = .ok (.bipush 81, 2) := by decide +kernel
theorem dX12_key_72 : decode cX12_key 72 = .ok (.if_icmp .ne 7, 3) := by decide +kernel
theorem dX12_key_79 : decode cX12_key 79 = .ok (.iload_n 0, 1) := by decide +kernel
theorem dX12_key_80 : decode cX12_key 80 = .ok (.bipush 72, 2) := by decide +kernel
theorem dX12_key_82 : decode cX12_key 82 = .ok (.if_icmp .ne 7, 3) := by decide +kernel
theorem dX12_key_89 : decode cX12_key 89 = .ok (.iload_n 0, 1) := by decide +kernel
theorem dX12_key_90 : decode cX12_key 90 = .ok (.bipush 67, 2) := by decide +kernel
theorem dX12_key_92 : decode cX12_key 92 = .ok (.if_icmp .ne 8, 3) := by decide +kernel
theorem dX12_key_100 : decode cX12_key 100 = .ok (.iload_n 0, 1) := by decide +kernel
theorem dX12_key_101 : decode cX12_key 101 = .ok (.bipush 88, 2) := by decide +kernel
theorem dX12_key_103 : decode cX12_key 103 = .ok (.if_icmp .ne 8, 3) := by decide +kernel
theorem dX12_key_111 : decode cX12_key 111 = .ok (.bipush 9, 2) := by decide +kernel
theorem dX12_key_113 : decode cX12_key 113 = .ok (.ireturn, 1) := by decide +kernel
theorem dX12_key_106 : decode cX12_key 106 = .ok (.bipush 7, 2) := by decide +kernel
theorem dX12_key_108 : decode cX12_key 108 = .ok (.goto 5, 3) := by decide +kernel
theorem dX12_key_95 : decode cX12_key 95 = .ok (.bipush 6, 2) := by decide +kernel
theorem dX12_key_97 : decode cX12_key 97 = .ok (.goto 16, 3) := by decide +kernel
theorem dX12_key_85 : decode cX12_key 85 = .ok (.iconst 5, 1) := by decide +kernel
theorem dX12_key_86 : decode cX12_key 86 = .ok (.goto 27, 3) := by decide +kernel
theorem dX12_key_75 : decode cX12_key 75 = .ok (.iconst 4, 1) := by decide +kernel
theorem dX12_key_76 : decode cX12_key 76 = .ok (.goto 37, 3) := by decide +kernel
theorem dX12_key_65 : decode cX12_key 65 = .ok (.iconst 3, 1) := by decide +kernel
theorem dX12_key_66 : decode cX12_key 66 = .ok (.goto 47, 3) := by decide +kernel
theorem dX12_key_4 : decode cX12_key 4 = .ok (.iload_n 0, 1) := by decide +kernel
theorem dX12_key_5 : decode cX12_key 5 = .ok (.bipush 70, 2) := by decide +kernel
theorem dX12_key_7 : decode cX12_key 7 = .ok (.if_icmp .ne 7, 3) := by decide +kernel
theorem dX12_key_14 : decode cX12_key 14 = .ok (.iload_n 0, 1) := by decide +kernel
theorem dX12_key_15 : decode cX12_key 15 = .ok (.bipush 82, 2) := by decide +kernel
theorem dX12_key_17 : decode cX12_key 17 = .ok (.if_icmp .ne 7, 3) := by decide +kernel
theorem dX12_key_24 : decode cX12_key 24 = .ok (.iload_n 0, 1) := by decide +kernel
theorem dX12_key_25 : decode cX12_key 25 = .ok (.bipush 66, 2) := by decide +kernel
theorem dX12_key_27 : decode cX12_key 27 = .ok (.if_icmp .ne 7, 3) := by decide +kernel
theorem dX12_key_34 : decode cX12_key 34 = .ok (.iload_n 0, 1) := by decide +kernel
theorem dX12_key_35 : decode cX12_key 35 = .ok (.bipush 83, 2) := by decide +kernel
theorem dX12_key_37 : decode cX12_key 37 = .ok (.if_icmp .ne 8, 3) := by decide +kernel
theorem dX12_key_45 : decode cX12_key 45 = .ok (.iload_n 0, 1) := by decide +kernel
theorem dX12_key_46 : decode cX12_key 46 = .ok (.bipush 69, 2) := by decide +kernel
theorem dX12_key_48 : decode cX12_key 48 = .ok (.if_icmp .ne 8, 3) := by decide +kernel
theorem dX12_key_56 : decode cX12_key 56 = .ok (.bipush 9, 2) := by decide +kernel
theorem dX12_key_58 : decode cX12_key 58 = .ok (.ireturn, 1) := by decide +kernel
theorem dX12_key_51 : decode cX12_key 51 = .ok (.bipush 7, 2) := by decide +kernel
theorem dX12_key_53 : decode cX12_key 53 = .ok (.goto 5, 3) := by decide +kernel
theorem dX12_key_40 : decode cX12_key 40 = .ok (.bipush 6, 2) := by decide +kernel
theorem dX12_key_42 : decode cX12_key 42 = .ok (.goto 16, 3) := by decide +kernel
theorem dX12_key_30 : decode cX12_key 30 = .ok (.iconst 5, 1) := by decide +kernel
theorem dX12_key_31 : decode cX12_key 31 = .ok (.goto 27, 3) := by decide +kernel
theorem dX12_key_20 : decode cX12_key 20 = .ok (.iconst 4, 1) := by decide +kernel
theorem dX12_key_21 : decode cX12_key 21 = .ok (.goto 37, 3) := by decide +kernel
theorem dX12_key_10 : decode cX12_key 10 = .ok (.iconst 3, 1) := by decide +kernel
theorem dX12_key_11 : decode cX12_key 11 = .ok (.goto 47, 3) := by decide +kernel
theorem dX12_sign_0 : decode cX12_sign 0 = .ok (.iload_n 0, 1) := by decide +kernel
theorem dX12_sign_1 : decode cX12_sign 1 = .ok (.bipush 42, 2) := by decide +kernel
theorem dX12_sign_3 : decode cX12_sign 3 = .ok (.if_icmp .ne 5, 3) := by decide +kernel
theorem dX12_sign_8 : decode cX12_sign 8 = .ok (.iload_n 1, 1) := by decide +kernel
theorem dX12_sign_9 : decode cX12_sign 9 = .ok (.ifCond .ne 35, 3) := by decide +kernel
theorem dX12_sign_44 : decode cX12_sign 44 = .ok (.iload_n 0, 1) := by decide +kernel
theorem dX12_sign_45 : decode cX12_sign 45 = .ok (.bipush 68, 2) := by decide +kernel
theorem dX12_sign_47 : decode cX12_sign 47 = .ok (.if_icmp .eq 21, 3) := by decide +kernel
theorem dX12_sign_68 : decode cX12_sign 68 = .ok (.iconst 1, 1) := by decide +kernel
theorem dX12_sign_69 : decode cX12_sign 69 = .ok (.goto 4, 3) := by decide +kernel
theorem dX12_sign_73 : decode cX12_sign 73 = .ok (.ireturn, 1) := by decide +kernel
theorem dX12_sign_50 : decode cX12_sign 50 = .ok (.iload_n 0, 1) := by decide +kernel
theorem dX12_sign_51 : decode cX12_sign 51 = .ok (.bipush 78, 2) := by decide +kernel
theorem dX12_sign_53 : decode cX12_sign 53 = .ok (.if_icmp .eq 15, 3) := by decide +kernel
theorem dX12_sign_56 : decode cX12_sign 56 = .ok (.iload_n 0, 1) := by decide +kernel
theorem dX12_sign_57 : decode cX12_sign 57 = .ok (.bipush 90, 2) := by decide +kernel
theorem dX12_sign_59 : decode cX12_sign 59 = .ok (.if_icmp .eq 9, 3) := by decide +kernel
theorem dX12_sign_62 : decode cX12_sign 62 = .ok (.iload_n 0, 1) := by decide +kernel
theorem dX12_sign_63 : decode cX12_sign 63 = .ok (.bipush 85, 2) := by decide +kernel
theorem dX12_sign_65 : decode cX12_sign 65 = .ok (.if_icmp .ne 7, 3) := by decide +kernel
theorem dX12_sign_72 : decode cX12_sign 72 = .ok (.iconst 0, 1) := by decide +kernel
theorem dX12_sign_12 : decode cX12_sign 12 = .ok (.iload_n 0, 1) := by decide +kernel
theorem dX12_sign_13 : decode cX12_sign 13 = .ok (.bipush 71, 2) := by decide +kernel
theorem dX12_sign_15 : decode cX12_sign 15 = .ok (.if_icmp .eq 21, 3) := by decide +kernel
theorem dX12_sign_36 : decode cX12_sign 36 = .ok (.iconst 1, 1) := by decide +kernel
theorem dX12_sign_37 : decode cX12_sign 37 = .ok (.goto 36, 3) := by decide +kernel
theorem dX12_sign_18 : decode cX12_sign 18 = .ok (.iload_n 0, 1) := by decide +kernel
theorem dX12_sign_19 : decode cX12_sign 19 = .ok (.bipush 87, 2) := by decide +kernel
theorem dX12_sign_21 : decode cX12_sign 21 = .ok (.if_icmp .eq 15, 3) := by decide +kernel
theorem dX12_sign_24 : decode cX12_sign 24 = .ok (.iload_n 0, 1) := by decide +kernel
theorem dX12_sign_25 : decode cX12_sign 25 = .ok (.bipush 84, 2) := by decide +kernel
theorem dX12_sign_27 : decode cX12_sign 27 = .ok (.if_icmp .eq 9, 3) := by decide +kernel
theorem dX12_sign_30 : decode cX12_sign 30 = .ok (.iload_n 0, 1) := by decide +kernel
theorem dX12_sign_31 : decode cX12_sign 31 = .ok (.bipush 65, 2) := by decide +kernel
theorem dX12_sign_33 : decode cX12_sign 33 = .ok (.if_icmp .ne 7, 3) := by decide +kernel
theorem dX12_sign_40 : decode cX12_sign 40 = .ok (.iconst 0, 1) := by decide +kernel
theorem dX12_sign_41 : decode cX12_sign 41 = .ok (.goto 32, 3) := by decide +kernel
theorem dX12_sign_6 : decode cX12_sign 6 = .ok (.iconst 1, 1) := by decide +kernel
theorem dX12_sign_7 : decode cX12_sign 7 = .ok (.ireturn, 1) := by decide +kernel
theorem dX12_kind_0 : decode cX12_kind 0 = .ok (.aload_n 0, 1) := by decide +kernel
theorem dX12_kind_1 : decode cX12_kind 1 = .ok (.getfield 16, 3) := by decide +kernel
theorem dX12_kind_4 : decode cX12_kind 4 = .ok (.ifCond .eq 14, 3) := by decide +kernel
theorem dX12_kind_18 : decode cX12_kind 18 = .ok (.iconst 0, 1) := by decide +kernel
theorem dX12_kind_19 : decode cX12_kind 19 = .ok (.ireturn, 1) := by decide +kernel
theorem dX12_kind_7 : decode cX12_kind 7 = .ok (.aload_n 0, 1) := by decide +kernel
theorem dX12_kind_8 : decode cX12_kind 8 = .ok (.getfield 19, 3) := by decide +kernel
theorem dX12_kind_11 : decode cX12_kind 11 = .ok (.iconst 0, 1) := by decide +kernel
theorem dX12_kind_12 : decode cX12_kind 12 = .ok (.caload, 1) := by decide +kernel
theorem dX12_kind_13 : decode cX12_kind 13 = .ok (.bipush 35, 2) := by decide +kernel
theorem dX12_kind_15 : decode cX12_kind 15 = .ok (.if_icmp .ne 5, 3) := by decide +kernel
theorem dX12_kind_20 : decode cX12_kind 20 = .ok (.aload_n 0, 1) := by decide +kernel
theorem dX12_kind_21 : decode cX12_kind 21 = .ok (.getfield 19, 3) := by decide +kernel
theorem dX12_kind_24 : decode cX12_kind 24 = .ok (.iconst 0, 1) := by decide +kernel
theorem dX12_kind_25 : decode cX12_kind 25 = .ok (.caload, 1) := by decide +kernel
theorem dX12_kind_26 : decode cX12_kind 26 = .ok (.bipush 64, 2) := by decide +kernel
theorem dX12_kind_28 : decode cX12_kind 28 = .ok (.if_icmp .ne 5, 3) := by decide +kernel
theorem dX12_kind_33 : decode cX12_kind 33 = .ok (.aload_n 0, 1) := by decide +kernel
theorem dX12_kind_34 : decode cX12_kind 34 = .ok (.getfield 19, 3) := by decide +kernel
theorem dX12_kind_37 : decode cX12_kind 37 = .ok (.iconst 0, 1) := by decide +kernel
theorem dX12_kind_38 : decode cX12_kind 38 = .ok (.caload, 1) := by decide +kernel
theorem dX12_kind_39 : decode cX12_kind 39 = .ok (.bipush 124, 2) := by decide +kernel
theorem dX12_kind_41 : decode cX12_kind 41 = .ok (.if_icmp .ne 5, 3) := by decide +kernel
theorem dX12_kind_46 : decode cX12_kind 46 = .ok (.aload_n 0, 1) := by decide +kernel
theorem dX12_kind_47 : decode cX12_kind 47 = .ok (.iconst 1, 1) := by decide +kernel
theorem dX12_kind_48 : decode cX12_kind 48 = .ok (.invokevirtual 29, 3) := by decide +kernel
theorem dX12_kind_51 : decode cX12_kind 51 = .ok (.bipush 58, 2) := by decide +kernel
theorem dX12_kind_53 : decode cX12_kind 53 = .ok (.if_icmp .ne 17, 3) := by decide +kernel
theorem dX12_kind_70 : decode cX12_kind 70 = .ok (.aload_n 0, 1) := by decide +kernel
theorem dX12_kind_71 : decode cX12_kind 71 = .ok (.iconst 1, 1) := by decide +kernel
theorem dX12_kind_72 : decode cX12_kind 72 = .ok (.invokevirtual 29, 3) := by decide +kernel
theorem dX12_kind_75 : decode cX12_kind 75 = .ok (.bipush 32, 2) := by decide +kernel
theorem dX12_kind_77 : decode cX12_kind 77 = .ok (.if_icmp .ne 24, 3) := by decide +kernel
theorem dX12_kind_101 : decode cX12_kind 101 = .ok (.bipush 9, 2) := by decide +kernel
theorem dX12_kind_103 : decode cX12_kind 103 = .ok (.ireturn, 1) := by decide +kernel
theorem dX12_kind_80 : decode cX12_kind 80 = .ok (.aload_n 0, 1) := by decide +kernel
theorem dX12_kind_81 : decode cX12_kind 81 = .ok (.getfield 19, 3) := by decide +kernel
theorem dX12_kind_84 : decode cX12_kind 84 = .ok (.iconst 0, 1) := by decide +kernel
theorem dX12_kind_85 : decode cX12_kind 85 = .ok (.caload, 1) := by decide +kernel
theorem dX12_kind_86 : decode cX12_kind 86 = .ok (.aload_n 0, 1) := by decide +kernel
theorem dX12_kind_87 : decode cX12_kind 87 = .ok (.getfield 33, 3) := by decide +kernel
theorem dX12_kind_90 : decode cX12_kind 90 = .ok (.invokestatic 40, 3) := by decide +kernel
theorem dX12_kind_93 : decode cX12_kind 93 = .ok (.ifCond .eq 8, 3) := by decide +kernel
theorem dX12_kind_96 : decode cX12_kind 96 = .ok (.bipush 8, 2) := by decide +kernel
theorem dX12_kind_98 : decode cX12_kind 98 = .ok (.goto 5, 3) := by decide +kernel
theorem dX12_kind_56 : decode cX12_kind 56 = .ok (.aload_n 0, 1) := by decide +kernel
theorem dX12_kind_57 : decode cX12_kind 57 = .ok (.getfield 19, 3) := by decide +kernel
theorem dX12_kind_60 : decode cX12_kind 60 = .ok (.iconst 0, 1) := by decide +kernel
theorem dX12_kind_61 : decode cX12_kind 61 = .ok (.caload, 1) := by decide +kernel
theorem dX12_kind_62 : decode cX12_kind 62 = .ok (.aload_n 0, 1) := by decide +kernel
theorem dX12_kind_63 : decode cX12_kind 63 = .ok (.getfield 33, 3) := by decide +kernel
theorem dX12_kind_66 : decode cX12_kind 66 = .ok (.invokestatic 36, 3) := by decide +kernel
theorem dX12_kind_69 : decode cX12_kind 69 = .ok (.ireturn, 1) := by decide +kernel
theorem dX12_kind_44 : decode cX12_kind 44 = .ok (.iconst 2, 1) := by decide +kernel
theorem dX12_kind_45 : decode cX12_kind 45 = .ok (.ireturn, 1) := by decide +kernel
theorem dX12_kind_31 : decode cX12_kind 31 = .ok (.iconst 1, 1) := by decide +kernel
theorem dX12_kind_32 : decode cX12_kind 32 = .ok (.ireturn, 1) := by decide +kernel
theorem dX12_allowed_0 : decode cX12_allowed 0 = .ok (.iload_n 0, 1) := by decide +kernel
theorem dX12_allowed_1 : decode cX12_allowed 1 = .ok (.tableswitch 75 0 8 #[51, 53, 57, 61, 65, 68, 71, 75, 53], 51) := by decide +kernel
theorem dX12_allowed_52 : decode cX12_allowed 52 = .ok (.iconst 3, 1) := by decide +kernel
theorem dX12_allowed_53 : decode cX12_allowed 53 = .ok (.ireturn, 1) := by decide +kernel
theorem dX12_allowed_54 : decode cX12_allowed 54 = .ok (.sipush 5649, 3) := by decide +kernel
theorem dX12_allowed_57 : decode cX12_allowed 57 = .ok (.ireturn, 1) := by decide +kernel
theorem dX12_allowed_58 : decode cX12_allowed 58 = .ok (.sipush 8649, 3) := by decide +kernel
theorem dX12_allowed_61 : decode cX12_allowed 61 = .ok (.ireturn, 1) := by decide +kernel
theorem dX12_allowed_62 : decode cX12_allowed 62 = .ok (.sipush 8264, 3) := by decide +kernel
theorem dX12_allowed_65 : decode cX12_allowed 65 = .ok (.ireturn, 1) := by decide +kernel
theorem dX12_allowed_66 : decode cX12_allowed 66 = .ok (.ldc 44, 2) := by decide +kernel
theorem dX12_allowed_68 : decode cX12_allowed 68 = .ok (.ireturn, 1) := by decide +kernel
theorem dX12_allowed_69 : decode cX12_allowed 69 = .ok (.ldc 45, 2) := by decide +kernel
theorem dX12_allowed_71 : decode cX12_allowed 71 = .ok (.ireturn, 1) := by decide +kernel
theorem dX12_allowed_72 : decode cX12_allowed 72 = .ok (.sipush 26479, 3) := by decide +kernel
theorem dX12_allowed_75 : decode cX12_allowed 75 = .ok (.ireturn, 1) := by decide +kernel
theorem dX12_allowed_76 : decode cX12_allowed 76 = .ok (.sipush 2647, 3) := by decide +kernel
theorem dX12_allowed_79 : decode cX12_allowed 79 = .ok (.ireturn, 1) := by decide +kernel
theorem dX12_note_0 : decode cX12_note 0 = .ok (.aload_n 0, 1) := by decide +kernel
theorem dX12_note_1 : decode cX12_note 1 = .ok (.getfield 57, 3) := by decide +kernel
theorem dX12_note_4 : decode cX12_note 4 = .ok (.bipush 20, 2) := by decide +kernel
theorem dX12_note_6 : decode cX12_note 6 = .ok (.if_icmp .ne 4, 3) := by decide +kernel
theorem dX12_note_10 : decode cX12_note 10 = .ok (.aload_n 0, 1) := by decide +kernel
theorem dX12_note_11 : decode cX12_note 11 = .ok (.getfield 60, 3) := by decide +kernel
theorem dX12_note_14 : decode cX12_note 14 = .ok (.iconst 2, 1) := by decide +kernel
theorem dX12_note_15 : decode cX12_note 15 = .ok (.aload_n 0, 1) := by decide +kernel
theorem dX12_note_16 : decode cX12_note 16 = .ok (.getfield 57, 3) := by decide +kernel
theorem dX12_note_19 : decode cX12_note 19 = .ok (.imul, 1) := by decide +kernel
theorem dX12_note_20 : decode cX12_note 20 = .ok (.iload_n 1, 1) := by decide +kernel
theorem dX12_note_21 : decode cX12_note 21 = .ok (.iastore, 1) := by decide +kernel
theorem dX12_note_22 : decode cX12_note 22 = .ok (.aload_n 0, 1) := by decide +kernel
theorem dX12_note_23 : decode cX12_note 23 = .ok (.getfield 60, 3) := by decide +kernel
theorem dX12_note_26 : decode cX12_note 26 = .ok (.iconst 2, 1) := by decide +kernel
theorem dX12_note_27 : decode cX12_note 27 = .ok (.aload_n 0, 1) := by decide +kernel
theorem dX12_note_28 : decode cX12_note 28 = .ok (.getfield 57, 3) := by decide +kernel
theorem dX12_note_31 : decode cX12_note 31 = .ok (.imul, 1) := by decide +kernel
theorem dX12_note_32 : decode cX12_note 32 = .ok (.iconst 1, 1) := by decide +kernel
theorem dX12_note_33 : decode cX12_note 33 = .ok (.iadd, 1) := by decide +kernel
theorem dX12_note_34 : decode cX12_note 34 = .ok (.iload_n 2, 1) := by decide +kernel
theorem dX12_note_35 : decode cX12_note 35 = .ok (.iastore, 1) := by decide +kernel
theorem dX12_note_36 : decode cX12_note 36 = .ok (.aload_n 0, 1) := by decide +kernel
theorem dX12_note_37 : decode cX12_note 37 = .ok (.dup, 1) := by decide +kernel
theorem dX12_note_38 : decode cX12_note 38 = .ok (.getfield 57, 3) := by decide +kernel
theorem dX12_note_41 : decode cX12_note 41 = .ok (.iconst 1, 1) := by decide +kernel
theorem dX12_note_42 : decode cX12_note 42 = .ok (.iadd, 1) := by decide +kernel
theorem dX12_note_43 : decode cX12_note 43 = .ok (.putfield 57, 3) := by decide +kernel
theorem dX12_note_46 : decode cX12_note 46 = .ok (.return_, 1) := by decide +kernel
theorem dX12_note_9 : decode cX12_note 9 = .ok (.return_, 1) := by decide +kernel
theorem gw_X12_begin : wsX12_begin.all goodWord = true := by decide +kernel
theorem gX12_takeLine_X12_begin : GoodIn wsX12_takeLine (va_wsS RX12 22 yX12_begin wsX12_begin) := goodIn_app (goodIn_sub (List.forall_mem_cons.mpr ⟨(List.mem_cons_of_mem _ (List.mem_append_left _ lm3)), List.forall_mem_cons.mpr ⟨(List.mem_cons_of_mem _ (List.mem_append_left _ lm4)), List.forall_mem_cons.mpr ⟨(List.mem_cons_of_mem _ (List.mem_append_left _ lm5)), (fun _ h => absurd h List.not_mem_nil)⟩⟩⟩) (by decide +kernel)) (goodIn_sub (by unfold wsX12_begin; exact List.forall_mem_cons.mpr ⟨(List.mem_cons_of_mem _ (List.mem_append_left _ lm6)), (fun _ h => absurd h List.not_mem_nil)⟩) gw_X12_begin)
theorem gw_X12_end : wsX12_end.all goodWord = true := by decide +kernel
theorem gX12_takeLine_X12_end : GoodIn wsX12_takeLine (va_wsS RX12 26 yX12_end wsX12_end) := goodIn_app (goodIn_sub (List.forall_mem_cons.mpr ⟨(List.mem_cons_of_mem _ (List.mem_append_left _ lm7)), List.forall_mem_cons.mpr ⟨(List.mem_cons_of_mem _ (List.mem_append_left _ lm8)), List.forall_mem_cons.mpr ⟨(List.mem_cons_of_mem _ (List.mem_append_left _ lm5)), (fun _ h => absurd h List.not_mem_nil)⟩⟩⟩) (by decide +kernel)) (goodIn_sub (by unfold wsX12_end; exact List.forall_mem_cons.mpr ⟨(List.mem_cons_of_mem _ (List.mem_append_left _ lm9)), (fun _ h => absurd h List.not_mem_nil)⟩) gw_X12_end)
theorem gw_X12_at : wsX12_at.all goodWord = true := by decide +kernel
theorem gX12_kind_X12_at : GoodIn wsX12_kind (wsV RX12 29 RX12 yX12_at wsX12_at) := goodIn_app (goodIn_sub (List.forall_mem_cons.mpr ⟨(List.mem_cons_of_mem _ (List.mem_append_left _ lm3)), List.forall_mem_cons.mpr ⟨(List.mem_cons_of_mem _ (List.mem_append_left _ lm4)), List.forall_mem_cons.mpr ⟨(List.mem_cons_of_mem _ (List.mem_append_left _ lm5)), List.forall_mem_cons.mpr ⟨(List.mem_cons_of_mem _ (List.mem_append_left _ lm6)), (fun _ h => absurd h List.not_mem_nil)⟩⟩⟩⟩) (by decide +kernel)) (goodIn_sub (by unfold wsX12_at; exact List.forall_mem_cons.mpr ⟨(List.mem_cons_of_mem _ (List.mem_append_left _ lm7)), List.forall_mem_append.mpr ⟨List.forall_mem_cons.mpr ⟨(List.mem_cons_of_mem _ (List.mem_append_left _ lm0)), List.forall_mem_cons.mpr ⟨(List.mem_cons_of_mem _ (List.mem_append_left _ lm1)), (fun _ h => absurd h List.not_mem_nil)⟩⟩, (fun _ h => (List.mem_cons_of_mem _ (List.mem_append_right _ h)))⟩⟩) gw_X12_at)
theorem gw_X12_sign : wsX12_sign.all goodWord = true := by decide +kernel
theorem gX12_kind_X12_sign : GoodIn wsX12_kind (va_wsS RX12 40 yX12_sign wsX12_sign) := goodIn_app (goodIn_sub (List.forall_mem_cons.mpr ⟨(List.mem_cons_of_mem _ (List.mem_append_left _ lm11)), List.forall_mem_cons.mpr ⟨(List.mem_cons_of_mem _ (List.mem_append_left _ lm12)), List.forall_mem_cons.mpr ⟨(List.mem_cons_of_mem _ (List.mem_append_left _ lm6)), (fun _ h => absurd h List.not_mem_nil)⟩⟩⟩) (by decide +kernel)) (goodIn_sub (by unfold wsX12_sign; exact List.forall_mem_cons.mpr ⟨(List.mem_cons_of_mem _ (List.mem_append_left _ lm13)), (fun _ h => absurd h List.not_mem_nil)⟩) gw_X12_sign)
theorem gw_X12_key : wsX12_key.all goodWord = true := by decide +kernel
theorem gX12_kind_X12_key : GoodIn wsX12_kind (va_wsS RX12 36 yX12_key wsX12_key) := goodIn_app (goodIn_sub (List.forall_mem_cons.mpr ⟨(List.mem_cons_of_mem _ (List.mem_append_left _ lm8)), List.forall_mem_cons.mpr ⟨(List.mem_cons_of_mem _ (List.mem_append_left _ lm9)), List.forall_mem_cons.mpr ⟨(List.mem_cons_of_mem _ (List.mem_append_left _ lm6)), (fun _ h => absurd h List.not_mem_nil)⟩⟩⟩) (by decide +kernel)) (goodIn_sub (by unfold wsX12_key; exact List.forall_mem_cons.mpr ⟨(List.mem_cons_of_mem _ (List.mem_append_left _ lm10)), (fun _ h => absurd h List.not_mem_nil)⟩) gw_X12_key)
set_option maxHeartbeats 2000000 in
set_option maxRecDepth 100000 in
theorem m_takeLine (l : Launch) (D : va_G) (g : Nat → Nat) (ka : Nat → ClassId) (ad : Nat → Nat) (i : Nat → Nat → Int32) (r : Nat → Nat → Nat) (L : Nat → Nat → Int64) (d : Nat → Nat → UInt64) (x : Int32) (y : Int32) (hO : OkI i) (hR : RS r) (sz : Nat) (hx0 : 0 ≤ x.toInt) (hxy : x.toInt ≤ y.toInt) (hy8 : y.toInt ≤ 480) : Met l yX12_takeLine wsX12_takeLine ({ frames := 1, cells := 0, slots := 0, locals := 23 }) (va_Pc [.ref (g 36), .int x, .int y] (sj_B D (hwc g ka i r L d) (hT ka) sz (gx ad (va_A (hwc g ka i r L d) sz)))) (sj_Qv (S := (Nat → Nat → Int32)) D (fun u => OkI u ∧ (∀ a b, ¬ ((a = 36 ∧ (b = 4)) ∨ a = 380) → u a b = i a b) ∧ (∃ a b : Int, skp (i 379) x.toInt y.toInt a ∧ drp (i 379) a y.toInt b ∧ (u 36 4).toInt = b - a ∧ lnL (u 380) 0 (b - a) = lnL (i 379) a b)) (fun u => hwc g ka u r L d) (fun _ => []) (va_A (hwc g ka i r L d) sz)) 0 0 (va_A (hwc g ka i r L d) sz) := by
  refine x_met (Ex := gx ad) (cc := cX12_takeLine) (maxL := 5) (ret := none) (by decide) rfl (Nat.le_of_ble_eq_true rfl) ?_
  intro p e s m below meth c A ls hx hb hr hml hts hown hlocks hA hS hH hK hE hl
  have hown : s.vm.findClass RX12 = some m.cls := hown
  have in12 : ∀ w ∈ wsX120, w ∈ wsX12_takeLine := (fun _ h => (List.mem_cons_of_mem _ (List.mem_append_right _ h)))
  have wd0 := hts (.fieldLink RX12 12 "StoryDeskModel" "text" "[C") (List.mem_cons_of_mem _ (List.mem_append_left _ lm0))
  have wd1 := hts (.fieldLink RX12 16 "StoryDeskModel" "width" "I") (List.mem_cons_of_mem _ (List.mem_append_left _ lm1))
  have wd2 := hts (.fieldLink RX12 19 "StoryDeskModel" "line" "[C") (List.mem_cons_of_mem _ (List.mem_append_left _ lm2))
  have hl : lv_has ls 5 [(0, .ref (g 36)), (1, .int x), (2, .int y)] := hl
  have hK : va_K D vwCl (hT ka) s := hK
  refine lv_aload_n hx hb dX12_takeLine_0 rfl (lv_at hl 0 rfl) ?_
  refine h_getr (ci := 12) (C := RX12) (F := TX12) (N := 86) hx hb hts in12 hown hK hH (by decide) (rfl : kd 36 = 12) (by decide) rfl 1 (by decide) wd0 (fun _ h9 => h9) (by decide) rfl (t := 379) (hR 36 1 rfl) (by decide) dX12_takeLine_1 ?_
  refine lv_iload_n hx hb dX12_takeLine_4 rfl (lv_at hl 1 rfl) ?_
  refine lv_iload_n hx hb dX12_takeLine_5 rfl (lv_at hl 2 rfl) ?_
  refine x_calli (va_runS (As := [.ref (g 379), .int x, .int y]) (rest := []) ⟨hx, hb, hml, hown, hts⟩ (m_begin_text l D g ka ad i r L d x y hO hR s.heap.size (by first | omega | decide) (by first | omega | decide) (by first | omega | decide)) (cwS 3 hts gX12_takeLine_X12_begin rfl rfl rfl (by decide +kernel) ⟨(Nat.le_of_ble_eq_true rfl), (Nat.le_of_ble_eq_true rfl)⟩) (x_preS hH hK gxb (gxw hE hS (x_F hH hS hA))) rfl rfl hl.1 rfl (lv_room (Nat.le_of_ble_eq_true rfl)) dX12_takeLine_6 ⟨(Nat.le_of_ble_eq_true rfl), (Nat.le_of_ble_eq_true rfl)⟩) hH hS hA rfl rfl (fun r_1 _ H locs hw_2 hH hS => ?_)
  obtain ⟨hr_4, hx2_5⟩ := hw_2
  have hr_4 : (0 : Int) ≤ r_1.toInt ∧ r_1.toInt ≤ 480 := hr_4
  have hsk_6 := hx2_5.1
  have hsk_7 := hx2_5.2.1
  refine lv_istore_n (lv' := [(3, .int r_1), (0, .ref (g 36)), (1, .int x), (2, .int y)]) hx hb dX12_takeLine_9 rfl hl (by decide) rfl (fun ls hl => ?_)
  refine lv_aload_n hx hb dX12_takeLine_10 rfl (lv_at hl 1 rfl) ?_
  refine lv_aload_n hx hb dX12_takeLine_11 rfl (lv_at hl 1 rfl) ?_
  refine h_getr (ci := 12) (C := RX12) (F := TX12) (N := 86) hx hb hts in12 hown hK hH (by decide) (rfl : kd 36 = 12) (by decide) rfl 1 (by decide) wd0 (fun _ h9 => h9) (by decide) rfl (t := 379) (hR 36 1 rfl) (by decide) dX12_takeLine_12 ?_
  refine lv_iload_n hx hb dX12_takeLine_15 rfl (lv_at hl 0 rfl) ?_
  refine lv_iload_n hx hb dX12_takeLine_16 rfl (lv_at hl 3 rfl) ?_
  refine x_calli (va_runS (As := [.ref (g 379), .int r_1, .int y]) (rest := [.ref (g 36)]) ⟨hx, hb, hml, hown, hts⟩ (m_end_text l D g ka ad i r L d r_1 y hO hR H.size (by first | omega | decide) (by first | omega | decide) (by first | omega | decide)) (cwS 3 hts gX12_takeLine_X12_end rfl rfl rfl (by decide +kernel) ⟨(Nat.le_of_ble_eq_true rfl), (Nat.le_of_ble_eq_true rfl)⟩) (x_preS hH hK gxb (gxw hE hS (x_F hH hS hA))) rfl rfl hl.1 rfl (lv_room (Nat.le_of_ble_eq_true rfl)) dX12_takeLine_17 ⟨(Nat.le_of_ble_eq_true rfl), (Nat.le_of_ble_eq_true rfl)⟩) hH hS hA rfl rfl (fun r_8 _ H locs hw_9 hH hS => ?_)
  obtain ⟨hr_11, hx2_12⟩ := hw_9
  have hr_11 : (0 : Int) ≤ r_8.toInt ∧ r_8.toInt ≤ 480 := hr_11
  have hsk_13 := hx2_12.1
  have hsk_14 := hx2_12.2.1
  refine lv_iload_n hx hb dX12_takeLine_20 rfl (lv_at hl 0 rfl) ?_
  refine lv_isub hx hb dX12_takeLine_21 ?_
  obtain ⟨z_15, ez_15, hz_15⟩ := s_sub (rfl : r_8.toInt = _) (rfl : r_1.toInt = _) (by omega) (by omega)
  refine sj_i ez_15 ?_
  have hO_16 := okp hO (n := 36) (k := 4) (v := z_15) (show (0 : Int) ≤ (z_15 : Int32).toInt ∧ (z_15 : Int32).toInt ≤ 480 from ⟨by omega, by omega⟩)
  refine h_puti (ty := .int) (ci := 12) (C := RX12) (F := TX12) (N := 86) hx hb hts in12 tyX12 tyX12_ok nmX12 hown hK hH hS (by decide) (rfl : kd 36 = 12) (by decide) rfl 4 (by decide) wd1 (fun _ h9 => h9) rfl (by decide +kernel) rfl rfl (by decide) rfl dX12_takeLine_22 (fun H locs hH hS => ?_)
  refine lv_iconst (v := 0) hx hb dX12_takeLine_25 (by decide) ?_
  refine lv_istore (lv' := [(4, .int 0), (3, .int r_1), (0, .ref (g 36)), (1, .int x), (2, .int y)]) hx hb dX12_takeLine_26 hl (by decide) rfl (fun ls hl => ?_)
  -- loop at 28
  have lp_17 : ∀ (fuel_lp_17 : Nat) (f : Int32) (j1 : Nat → Nat → Int32) (H : Heap) (locs : List Loc) (ls : Array Slot), (480 - f.toInt).toNat < fuel_lp_17 → (0 : Int) ≤ f.toInt ∧ f.toInt ≤ 480 → f.toInt ≤ (z_15).toInt → (∀ k : Nat, (k : Int) < f.toInt → (j1 380 k).toInt = (i 379 (r_1.toInt.toNat + k)).toInt) → OkI j1 → (∀ a b, ¬ (a = 380) → j1 a b = (up2 i 36 4 z_15) a b) → lv_has ls 5 [(4, .int f), (3, .int r_1), (0, .ref (g 36)), (1, .int x), (2, .int y)] → sj_H D A (hwc g ka j1 r L d) H → va_S A s.heap H locs → W p l e (headSpec wsX12_takeLine ({ frames := 1, cells := 0, slots := 0, locals := 23 })).room s m ([.ref (g 36), .int x, .int y] : List Value).toArray below meth c H locs 0 0 (MQ below (sj_Qv (S := (Nat → Nat → Int32)) D (fun u => OkI u ∧ (∀ a b, ¬ ((a = 36 ∧ (b = 4)) ∨ a = 380) → u a b = i a b) ∧ (∃ a b : Int, skp (i 379) x.toInt y.toInt a ∧ drp (i 379) a y.toInt b ∧ (u 36 4).toInt = b - a ∧ lnL (u 380) 0 (b - a) = lnL (i 379) a b)) (fun u => hwc g ka u r L d) (fun _ => []) A) ([.ref (g 36), .int x, .int y] : List Value).toArray s 0 0 A) (F0 m 28 ls []) := by
    intro fuel_lp_17
    induction fuel_lp_17 with
    | zero => intros; omega
    | succ fuel_lp_17 ih_lp_17 =>
      intro f j1 H locs ls hm hr_f hi_lp_17_0 hi_lp_17_1 hO_j1 hfr_j1 hl hH hS
      refine lv_iload hx hb dX12_takeLine_28 (lv_at hl 0 rfl) ?_
      refine lv_aload_n hx hb dX12_takeLine_30 rfl (lv_at hl 2 rfl) ?_
      refine h_geti (ci := 12) (C := RX12) (F := TX12) (N := 86) hx hb hts in12 hown hK hH (by decide) (rfl : kd 36 = 12) (by decide) rfl 4 (by decide) wd1 (fun _ h9 => h9) (by decide) rfl dX12_takeLine_31 ?_
      refine sj_i (y := z_15) ((hfr_j1 36 4 (by omega)).trans (up2_at _ _ _ _)) ?_
      refine lv_icmp_ge (tgt := 59) hx hb dX12_takeLine_34 (by decide) (fun c_18 => ?_) (fun c_18 => ?_)
      · skip
        have h_19 := s_le (rfl : z_15.toInt = _) (rfl : f.toInt = _) c_18
        have hp_20 : (j1 36 4).toInt = (z_15 : Int32).toInt := congrArg Int32.toInt (((hfr_j1 36 4 (by omega)).trans (up2_at _ _ _ _)))
        have hV_21 : ∃ a b : Int, skp (i 379) x.toInt y.toInt a ∧ drp (i 379) a y.toInt b ∧ (j1 36 4).toInt = b - a ∧ lnL (j1 380) 0 (b - a) = lnL (i 379) a b := ⟨r_1.toInt, r_8.toInt, hx2_5, hx2_12, by omega, lnL_ext (by omega) (by omega) (by omega) (fun j hj => by rw [show (0 + (j : Int)).toNat = j by omega, hi_lp_17_1 j (by omega)]; exact congrArg Int32.toInt (show i 379 _ = i 379 _ by congr 1; omega))⟩
        exact sj_vret hx hb hr hlocks hS j1 ⟨hO_j1, (fun a b ha => ((hfr_j1 a b (by omega)).trans (up2_o _ _ (by omega)))), hV_21⟩ hH (sj_Knil hK) (Nat.le_of_ble_eq_true rfl) (Nat.le_of_ble_eq_true rfl) dX12_takeLine_59
      · skip
        have h_22 := s_nle (rfl : z_15.toInt = _) (rfl : f.toInt = _) c_18
        refine lv_aload_n hx hb dX12_takeLine_37 rfl (lv_at hl 2 rfl) ?_
        refine h_getr (ci := 12) (C := RX12) (F := TX12) (N := 86) hx hb hts in12 hown hK hH (by decide) (rfl : kd 36 = 12) (by decide) rfl 3 (by decide) wd2 (fun _ h9 => h9) (by decide) rfl (t := 380) (hR 36 3 rfl) (by decide) dX12_takeLine_38 ?_
        refine lv_iload hx hb dX12_takeLine_41 (lv_at hl 0 rfl) ?_
        refine lv_aload_n hx hb dX12_takeLine_43 rfl (lv_at hl 2 rfl) ?_
        refine h_getr (ci := 12) (C := RX12) (F := TX12) (N := 86) hx hb hts in12 hown hK hH (by decide) (rfl : kd 36 = 12) (by decide) rfl 1 (by decide) wd0 (fun _ h9 => h9) (by decide) rfl (t := 379) (hR 36 1 rfl) (by decide) dX12_takeLine_44 ?_
        refine lv_iload_n hx hb dX12_takeLine_47 rfl (lv_at hl 1 rfl) ?_
        refine lv_iload hx hb dX12_takeLine_48 (lv_at hl 0 rfl) ?_
        refine lv_iadd hx hb dX12_takeLine_50 ?_
        obtain ⟨z_23, ez_23, hz_23⟩ := s_add (rfl : r_1.toInt = _) (rfl : f.toInt = _) (by omega) (by omega)
        refine sj_i ez_23 ?_
        have bx_24 : (0 : Int) ≤ (i 379 (f.toInt + r_1.toInt).toNat).toInt ∧ (i 379 (f.toInt + r_1.toInt).toNat).toInt ≤ 65535 := hO 379 (f.toInt + r_1.toInt).toNat
        refine h_cald hx hb hK hH (by decide) (rfl : kd 379 = 14) (s_vin (N := 480) (rfl : z_23.toInt = _) (rfl : ln 379 = 480) (by omega) (by omega)) dX12_takeLine_51 ?_
        have ek_25 : z_23.toNatClampNeg = (f.toInt + r_1.toInt).toNat := (s_cl (show z_23.toInt = f.toInt + r_1.toInt by omega))
        refine sj_i (y := (i 379 (f.toInt + r_1.toInt).toNat)) (by rw [ek_25]; exact ((hfr_j1 379 (f.toInt + r_1.toInt).toNat (by omega)).trans (congrFun (up2_n _ _ (by decide)) _))) ?_
        obtain ⟨z_26, ez_26⟩ : ∃ z, vp_nar .char (i 379 (f.toInt + r_1.toInt).toNat) = z := ⟨_, rfl⟩
        have hz_26 : z_26.toInt = (i 379 (f.toInt + r_1.toInt).toNat).toInt := by rw [← ez_26, s_narc (rfl : (i 379 (f.toInt + r_1.toInt).toNat).toInt = _) (by omega) (by omega)] <;> exact (rfl : (i 379 (f.toInt + r_1.toInt).toNat).toInt = _)
        have hO_27 := okp hO_j1 (n := 380) (k := (f.toInt).toNat) (v := z_26) (show (0 : Int) ≤ (z_26 : Int32).toInt ∧ (z_26 : Int32).toInt ≤ 65535 from ⟨by omega, by omega⟩)
        refine h_cast hx hb hK hH hS (by decide) (rfl : kd 380 = 14) (s_vin (N := 480) (rfl : f.toInt = _) (rfl : ln 380 = 480) (by omega) (by omega)) dX12_takeLine_52 (fun H locs hH hS => ?_)
        rw [ez_26] at hH
        rw [s_cl (show f.toInt = f.toInt by omega)] at hH
        obtain ⟨z_28, ez_28, hz_28⟩ := s_add (rfl : f.toInt = _) (show (1 : Int32).toInt = 1 from rfl) (by omega) (by omega)
        refine lv_iinc (v := z_28) (lv' := [(4, .int z_28), (3, .int r_1), (0, .ref (g 36)), (1, .int x), (2, .int y)]) hx hb dX12_takeLine_53 hl (k := 0) rfl ez_28 (by decide) rfl (fun ls hl => ?_)
        refine lv_goto (tgt := 28) hx hb dX12_takeLine_56 (by decide) ?_
        exact ih_lp_17 z_28 _ _ _ ls (by omega) (by omega) (by omega) (fun k hk => by
                  by_cases q : (k : Int) < f.toInt
                  · rw [show (up2 j1 380 (f.toInt).toNat z_26) 380 k = j1 380 k from up2_k _ _ (by omega)]; exact hi_lp_17_1 k q
                  · rw [show k = (f.toInt).toNat by omega, up2_at]; exact hz_26.trans (congrArg (fun q => (i 379 q).toInt) (by omega))) hO_27 (fun a b ha => ((up2_o _ _ (by omega)).trans (hfr_j1 a b (by omega)))) (lv_sub hl [0, 1, 2, 3, 4] rfl) hH hS
  have hl_29 : (0 : Int32).toInt = 0 := rfl
  exact lp_17 _ 0 _ _ _ ls (Nat.lt_succ_self _) (by omega) (by omega) (fun k hk => by exfalso; have : (0 : Int32).toInt = 0 := rfl; omega) hO_16 (fun a b ha => rfl) (lv_sub hl [0, 1, 2, 3, 4] rfl) hH hS
set_option maxHeartbeats 2000000 in
set_option maxRecDepth 100000 in
theorem m_key (l : Launch) (D : va_G) (g : Nat → Nat) (ka : Nat → ClassId) (ad : Nat → Nat) (i : Nat → Nat → Int32) (r : Nat → Nat → Nat) (L : Nat → Nat → Int64) (d : Nat → Nat → UInt64) (x : Int32) (y : Int32) (hO : OkI i) (hR : RS r) (sz : Nat) (hy0 : 0 ≤ y.toInt) (hy1 : y.toInt ≤ 1) : Met l yX12_key wsX12_key ({ frames := 0, cells := 0, slots := 0, locals := 0 }) (va_Pc [.int x, .int y] (sj_B D (hwc g ka i r L d) (hT ka) sz (gx ad (va_A (hwc g ka i r L d) sz)))) (sj_Qi (S := Unit) D (fun v u => ((3 : Int) ≤ v.toInt ∧ v.toInt ≤ 9) ∧ (v.toInt = hdK y.toInt x.toInt)) (fun _ => hwc g ka i r L d) (fun _ => []) (va_A (hwc g ka i r L d) sz)) 0 0 (va_A (hwc g ka i r L d) sz) := by
  refine x_met (Ex := gx ad) (cc := cX12_key) (maxL := 2) (ret := (some .int)) (by decide) rfl (Nat.le_of_ble_eq_true rfl) ?_
  intro p e s m below meth c A ls hx hb hr hml hts hown hlocks hA hS hH hK hE hl
  have hown : s.vm.findClass RX12 = some m.cls := hown
  have hl : lv_has ls 2 [(0, .int x), (1, .int y)] := hl
  have hK : va_K D vwCl (hT ka) s := hK
  have hg_1 := s_rng x
  refine lv_iload_n hx hb dX12_key_0 rfl (lv_at hl 1 rfl) ?_
  refine lv_if_ne (tgt := 59) hx hb dX12_key_1 (by decide) (fun c_2 => ?_) (fun c_2 => ?_)
  · skip
    have h_3 := s_ne (rfl : y.toInt = _) (show (0 : Int32).toInt = 0 from rfl) c_2
    refine lv_iload_n hx hb dX12_key_59 rfl (lv_at hl 0 rfl) ?_
    refine lv_bipush (v := 80) hx hb dX12_key_60 (by decide) ?_
    refine lv_icmp_ne (tgt := 69) hx hb dX12_key_62 (by decide) (fun c_4 => ?_) (fun c_4 => ?_)
    · skip
      have h_5 := s_ne (rfl : x.toInt = _) (show (80 : Int32).toInt = 80 from rfl) c_4
      refine lv_iload_n hx hb dX12_key_69 rfl (lv_at hl 0 rfl) ?_
      refine lv_bipush (v := 81) hx hb dX12_key_70 (by decide) ?_
      refine lv_icmp_ne (tgt := 79) hx hb dX12_key_72 (by decide) (fun c_6 => ?_) (fun c_6 => ?_)
      · skip
        have h_7 := s_ne (rfl : x.toInt = _) (show (81 : Int32).toInt = 81 from rfl) c_6
        refine lv_iload_n hx hb dX12_key_79 rfl (lv_at hl 0 rfl) ?_
        refine lv_bipush (v := 72) hx hb dX12_key_80 (by decide) ?_
        refine lv_icmp_ne (tgt := 89) hx hb dX12_key_82 (by decide) (fun c_8 => ?_) (fun c_8 => ?_)
        · skip
          have h_9 := s_ne (rfl : x.toInt = _) (show (72 : Int32).toInt = 72 from rfl) c_8
          refine lv_iload_n hx hb dX12_key_89 rfl (lv_at hl 0 rfl) ?_
          refine lv_bipush (v := 67) hx hb dX12_key_90 (by decide) ?_
          refine lv_icmp_ne (tgt := 100) hx hb dX12_key_92 (by decide) (fun c_10 => ?_) (fun c_10 => ?_)
          · skip
            have h_11 := s_ne (rfl : x.toInt = _) (show (67 : Int32).toInt = 67 from rfl) c_10
            refine lv_iload_n hx hb dX12_key_100 rfl (lv_at hl 0 rfl) ?_
            refine lv_bipush (v := 88) hx hb dX12_key_101 (by decide) ?_
            refine lv_icmp_ne (tgt := 111) hx hb dX12_key_103 (by decide) (fun c_12 => ?_) (fun c_12 => ?_)
            · skip
              have h_13 := s_ne (rfl : x.toInt = _) (show (88 : Int32).toInt = 88 from rfl) c_12
              refine lv_bipush (v := 9) hx hb dX12_key_111 (by decide) ?_
              have hlv_14 : (9 : Int32).toInt = 9 := rfl
              exact sj_zret hx hb hr hlocks rfl hS () ⟨⟨by decide, by decide⟩, (by unfold hdK; repeat (first | rw [if_pos (by omega)] | rw [if_neg (by omega)]); all_goals omega)⟩ hH (sj_Knil hK) (Nat.le_of_ble_eq_true rfl) (Nat.le_of_ble_eq_true rfl) dX12_key_113
            · skip
              have h_15 := s_eq (rfl : x.toInt = _) (show (88 : Int32).toInt = 88 from rfl) c_12
              refine lv_bipush (v := 7) hx hb dX12_key_106 (by decide) ?_
              refine lv_goto (tgt := 113) hx hb dX12_key_108 (by decide) ?_
              have hlv_16 : (7 : Int32).toInt = 7 := rfl
              exact sj_zret hx hb hr hlocks rfl hS () ⟨⟨by decide, by decide⟩, (by unfold hdK; repeat (first | rw [if_pos (by omega)] | rw [if_neg (by omega)]); all_goals omega)⟩ hH (sj_Knil hK) (Nat.le_of_ble_eq_true rfl) (Nat.le_of_ble_eq_true rfl) dX12_key_113
          · skip
            have h_17 := s_eq (rfl : x.toInt = _) (show (67 : Int32).toInt = 67 from rfl) c_10
            refine lv_bipush (v := 6) hx hb dX12_key_95 (by decide) ?_
            refine lv_goto (tgt := 113) hx hb dX12_key_97 (by decide) ?_
            have hlv_18 : (6 : Int32).toInt = 6 := rfl
            exact sj_zret hx hb hr hlocks rfl hS () ⟨⟨by decide, by decide⟩, (by unfold hdK; repeat (first | rw [if_pos (by omega)] | rw [if_neg (by omega)]); all_goals omega)⟩ hH (sj_Knil hK) (Nat.le_of_ble_eq_true rfl) (Nat.le_of_ble_eq_true rfl) dX12_key_113
        · skip
          have h_19 := s_eq (rfl : x.toInt = _) (show (72 : Int32).toInt = 72 from rfl) c_8
          refine lv_iconst (v := 5) hx hb dX12_key_85 (by decide) ?_
          refine lv_goto (tgt := 113) hx hb dX12_key_86 (by decide) ?_
          have hlv_20 : (5 : Int32).toInt = 5 := rfl
          exact sj_zret hx hb hr hlocks rfl hS () ⟨⟨by decide, by decide⟩, (by unfold hdK; repeat (first | rw [if_pos (by omega)] | rw [if_neg (by omega)]); all_goals omega)⟩ hH (sj_Knil hK) (Nat.le_of_ble_eq_true rfl) (Nat.le_of_ble_eq_true rfl) dX12_key_113
      · skip
        have h_21 := s_eq (rfl : x.toInt = _) (show (81 : Int32).toInt = 81 from rfl) c_6
        refine lv_iconst (v := 4) hx hb dX12_key_75 (by decide) ?_
        refine lv_goto (tgt := 113) hx hb dX12_key_76 (by decide) ?_
        have hlv_22 : (4 : Int32).toInt = 4 := rfl
        exact sj_zret hx hb hr hlocks rfl hS () ⟨⟨by decide, by decide⟩, (by unfold hdK; repeat (first | rw [if_pos (by omega)] | rw [if_neg (by omega)]); all_goals omega)⟩ hH (sj_Knil hK) (Nat.le_of_ble_eq_true rfl) (Nat.le_of_ble_eq_true rfl) dX12_key_113
    · skip
      have h_23 := s_eq (rfl : x.toInt = _) (show (80 : Int32).toInt = 80 from rfl) c_4
      refine lv_iconst (v := 3) hx hb dX12_key_65 (by decide) ?_
      refine lv_goto (tgt := 113) hx hb dX12_key_66 (by decide) ?_
      have hlv_24 : (3 : Int32).toInt = 3 := rfl
      exact sj_zret hx hb hr hlocks rfl hS () ⟨⟨by decide, by decide⟩, (by unfold hdK; repeat (first | rw [if_pos (by omega)] | rw [if_neg (by omega)]); all_goals omega)⟩ hH (sj_Knil hK) (Nat.le_of_ble_eq_true rfl) (Nat.le_of_ble_eq_true rfl) dX12_key_113
  · skip
    have h_25 := s_eq (rfl : y.toInt = _) (show (0 : Int32).toInt = 0 from rfl) c_2
    refine lv_iload_n hx hb dX12_key_4 rfl (lv_at hl 0 rfl) ?_
    refine lv_bipush (v := 70) hx hb dX12_key_5 (by decide) ?_
    refine lv_icmp_ne (tgt := 14) hx hb dX12_key_7 (by decide) (fun c_26 => ?_) (fun c_26 => ?_)
    · skip
      have h_27 := s_ne (rfl : x.toInt = _) (show (70 : Int32).toInt = 70 from rfl) c_26
      refine lv_iload_n hx hb dX12_key_14 rfl (lv_at hl 0 rfl) ?_
      refine lv_bipush (v := 82) hx hb dX12_key_15 (by decide) ?_
      refine lv_icmp_ne (tgt := 24) hx hb dX12_key_17 (by decide) (fun c_28 => ?_) (fun c_28 => ?_)
      · skip
        have h_29 := s_ne (rfl : x.toInt = _) (show (82 : Int32).toInt = 82 from rfl) c_28
        refine lv_iload_n hx hb dX12_key_24 rfl (lv_at hl 0 rfl) ?_
        refine lv_bipush (v := 66) hx hb dX12_key_25 (by decide) ?_
        refine lv_icmp_ne (tgt := 34) hx hb dX12_key_27 (by decide) (fun c_30 => ?_) (fun c_30 => ?_)
        · skip
          have h_31 := s_ne (rfl : x.toInt = _) (show (66 : Int32).toInt = 66 from rfl) c_30
          refine lv_iload_n hx hb dX12_key_34 rfl (lv_at hl 0 rfl) ?_
          refine lv_bipush (v := 83) hx hb dX12_key_35 (by decide) ?_
          refine lv_icmp_ne (tgt := 45) hx hb dX12_key_37 (by decide) (fun c_32 => ?_) (fun c_32 => ?_)
          · skip
            have h_33 := s_ne (rfl : x.toInt = _) (show (83 : Int32).toInt = 83 from rfl) c_32
            refine lv_iload_n hx hb dX12_key_45 rfl (lv_at hl 0 rfl) ?_
            refine lv_bipush (v := 69) hx hb dX12_key_46 (by decide) ?_
            refine lv_icmp_ne (tgt := 56) hx hb dX12_key_48 (by decide) (fun c_34 => ?_) (fun c_34 => ?_)
            · skip
              have h_35 := s_ne (rfl : x.toInt = _) (show (69 : Int32).toInt = 69 from rfl) c_34
              refine lv_bipush (v := 9) hx hb dX12_key_56 (by decide) ?_
              have hlv_36 : (9 : Int32).toInt = 9 := rfl
              exact sj_zret hx hb hr hlocks rfl hS () ⟨⟨by decide, by decide⟩, (by unfold hdK; repeat (first | rw [if_pos (by omega)] | rw [if_neg (by omega)]); all_goals omega)⟩ hH (sj_Knil hK) (Nat.le_of_ble_eq_true rfl) (Nat.le_of_ble_eq_true rfl) dX12_key_58
            · skip
              have h_37 := s_eq (rfl : x.toInt = _) (show (69 : Int32).toInt = 69 from rfl) c_34
              refine lv_bipush (v := 7) hx hb dX12_key_51 (by decide) ?_
              refine lv_goto (tgt := 58) hx hb dX12_key_53 (by decide) ?_
              have hlv_38 : (7 : Int32).toInt = 7 := rfl
              exact sj_zret hx hb hr hlocks rfl hS () ⟨⟨by decide, by decide⟩, (by unfold hdK; repeat (first | rw [if_pos (by omega)] | rw [if_neg (by omega)]); all_goals omega)⟩ hH (sj_Knil hK) (Nat.le_of_ble_eq_true rfl) (Nat.le_of_ble_eq_true rfl) dX12_key_58
          · skip
            have h_39 := s_eq (rfl : x.toInt = _) (show (83 : Int32).toInt = 83 from rfl) c_32
            refine lv_bipush (v := 6) hx hb dX12_key_40 (by decide) ?_
            refine lv_goto (tgt := 58) hx hb dX12_key_42 (by decide) ?_
            have hlv_40 : (6 : Int32).toInt = 6 := rfl
            exact sj_zret hx hb hr hlocks rfl hS () ⟨⟨by decide, by decide⟩, (by unfold hdK; repeat (first | rw [if_pos (by omega)] | rw [if_neg (by omega)]); all_goals omega)⟩ hH (sj_Knil hK) (Nat.le_of_ble_eq_true rfl) (Nat.le_of_ble_eq_true rfl) dX12_key_58
        · skip
          have h_41 := s_eq (rfl : x.toInt = _) (show (66 : Int32).toInt = 66 from rfl) c_30
          refine lv_iconst (v := 5) hx hb dX12_key_30 (by decide) ?_
          refine lv_goto (tgt := 58) hx hb dX12_key_31 (by decide) ?_
          have hlv_42 : (5 : Int32).toInt = 5 := rfl
          exact sj_zret hx hb hr hlocks rfl hS () ⟨⟨by decide, by decide⟩, (by unfold hdK; repeat (first | rw [if_pos (by omega)] | rw [if_neg (by omega)]); all_goals omega)⟩ hH (sj_Knil hK) (Nat.le_of_ble_eq_true rfl) (Nat.le_of_ble_eq_true rfl) dX12_key_58
      · skip
        have h_43 := s_eq (rfl : x.toInt = _) (show (82 : Int32).toInt = 82 from rfl) c_28
        refine lv_iconst (v := 4) hx hb dX12_key_20 (by decide) ?_
        refine lv_goto (tgt := 58) hx hb dX12_key_21 (by decide) ?_
        have hlv_44 : (4 : Int32).toInt = 4 := rfl
        exact sj_zret hx hb hr hlocks rfl hS () ⟨⟨by decide, by decide⟩, (by unfold hdK; repeat (first | rw [if_pos (by omega)] | rw [if_neg (by omega)]); all_goals omega)⟩ hH (sj_Knil hK) (Nat.le_of_ble_eq_true rfl) (Nat.le_of_ble_eq_true rfl) dX12_key_58
    · skip
      have h_45 := s_eq (rfl : x.toInt = _) (show (70 : Int32).toInt = 70 from rfl) c_26
      refine lv_iconst (v := 3) hx hb dX12_key_10 (by decide) ?_
      refine lv_goto (tgt := 58) hx hb dX12_key_11 (by decide) ?_
      have hlv_46 : (3 : Int32).toInt = 3 := rfl
      exact sj_zret hx hb hr hlocks rfl hS () ⟨⟨by decide, by decide⟩, (by unfold hdK; repeat (first | rw [if_pos (by omega)] | rw [if_neg (by omega)]); all_goals omega)⟩ hH (sj_Knil hK) (Nat.le_of_ble_eq_true rfl) (Nat.le_of_ble_eq_true rfl) dX12_key_58
set_option maxHeartbeats 2000000 in
set_option maxRecDepth 100000 in
theorem m_sign (l : Launch) (D : va_G) (g : Nat → Nat) (ka : Nat → ClassId) (ad : Nat → Nat) (i : Nat → Nat → Int32) (r : Nat → Nat → Nat) (L : Nat → Nat → Int64) (d : Nat → Nat → UInt64) (x : Int32) (y : Int32) (hO : OkI i) (hR : RS r) (sz : Nat) (hy0 : 0 ≤ y.toInt) (hy1 : y.toInt ≤ 1) : Met l yX12_sign wsX12_sign ({ frames := 0, cells := 0, slots := 0, locals := 0 }) (va_Pc [.int x, .int y] (sj_B D (hwc g ka i r L d) (hT ka) sz (gx ad (va_A (hwc g ka i r L d) sz)))) (sj_Qi (S := Unit) D (fun v u => ((0 : Int) ≤ v.toInt ∧ v.toInt ≤ 1) ∧ ((v.toInt = 1 ∧ sgK y.toInt x.toInt = 8) ∨ (v.toInt = 0 ∧ sgK y.toInt x.toInt = 9))) (fun _ => hwc g ka i r L d) (fun _ => []) (va_A (hwc g ka i r L d) sz)) 0 0 (va_A (hwc g ka i r L d) sz) := by
  refine x_met (Ex := gx ad) (cc := cX12_sign) (maxL := 2) (ret := (some .boolean)) (by decide) rfl (Nat.le_of_ble_eq_true rfl) ?_
  intro p e s m below meth c A ls hx hb hr hml hts hown hlocks hA hS hH hK hE hl
  have hown : s.vm.findClass RX12 = some m.cls := hown
  have hl : lv_has ls 2 [(0, .int x), (1, .int y)] := hl
  have hK : va_K D vwCl (hT ka) s := hK
  have hg_1 := s_rng x
  refine lv_iload_n hx hb dX12_sign_0 rfl (lv_at hl 0 rfl) ?_
  refine lv_bipush (v := 42) hx hb dX12_sign_1 (by decide) ?_
  refine lv_icmp_ne (tgt := 8) hx hb dX12_sign_3 (by decide) (fun c_2 => ?_) (fun c_2 => ?_)
  · skip
    have h_3 := s_ne (rfl : x.toInt = _) (show (42 : Int32).toInt = 42 from rfl) c_2
    refine lv_iload_n hx hb dX12_sign_8 rfl (lv_at hl 1 rfl) ?_
    refine lv_if_ne (tgt := 44) hx hb dX12_sign_9 (by decide) (fun c_4 => ?_) (fun c_4 => ?_)
    · skip
      have h_5 := s_ne (rfl : y.toInt = _) (show (0 : Int32).toInt = 0 from rfl) c_4
      refine lv_iload_n hx hb dX12_sign_44 rfl (lv_at hl 0 rfl) ?_
      refine lv_bipush (v := 68) hx hb dX12_sign_45 (by decide) ?_
      refine lv_icmp_eq (tgt := 68) hx hb dX12_sign_47 (by decide) (fun c_6 => ?_) (fun c_6 => ?_)
      · skip
        have h_7 := s_eq (rfl : x.toInt = _) (show (68 : Int32).toInt = 68 from rfl) c_6
        refine lv_iconst (v := 1) hx hb dX12_sign_68 (by decide) ?_
        refine lv_goto (tgt := 73) hx hb dX12_sign_69 (by decide) ?_
        have hlv_8 : (1 : Int32).toInt = 1 := rfl
        exact sj_zret hx hb hr hlocks (by decide +kernel) hS () ⟨⟨by decide, by decide⟩, (by unfold sgK; rcases (show y.toInt = 0 ∨ y.toInt = 1 by omega) with hy9 | hy9 <;> (repeat (first | rw [if_pos (by omega)] | rw [if_neg (by omega)])) <;> omega)⟩ hH (sj_Knil hK) (Nat.le_of_ble_eq_true rfl) (Nat.le_of_ble_eq_true rfl) dX12_sign_73
      · skip
        have h_9 := s_ne (rfl : x.toInt = _) (show (68 : Int32).toInt = 68 from rfl) c_6
        refine lv_iload_n hx hb dX12_sign_50 rfl (lv_at hl 0 rfl) ?_
        refine lv_bipush (v := 78) hx hb dX12_sign_51 (by decide) ?_
        refine lv_icmp_eq (tgt := 68) hx hb dX12_sign_53 (by decide) (fun c_10 => ?_) (fun c_10 => ?_)
        · skip
          have h_11 := s_eq (rfl : x.toInt = _) (show (78 : Int32).toInt = 78 from rfl) c_10
          refine lv_iconst (v := 1) hx hb dX12_sign_68 (by decide) ?_
          refine lv_goto (tgt := 73) hx hb dX12_sign_69 (by decide) ?_
          have hlv_12 : (1 : Int32).toInt = 1 := rfl
          exact sj_zret hx hb hr hlocks (by decide +kernel) hS () ⟨⟨by decide, by decide⟩, (by unfold sgK; rcases (show y.toInt = 0 ∨ y.toInt = 1 by omega) with hy9 | hy9 <;> (repeat (first | rw [if_pos (by omega)] | rw [if_neg (by omega)])) <;> omega)⟩ hH (sj_Knil hK) (Nat.le_of_ble_eq_true rfl) (Nat.le_of_ble_eq_true rfl) dX12_sign_73
        · skip
          have h_13 := s_ne (rfl : x.toInt = _) (show (78 : Int32).toInt = 78 from rfl) c_10
          refine lv_iload_n hx hb dX12_sign_56 rfl (lv_at hl 0 rfl) ?_
          refine lv_bipush (v := 90) hx hb dX12_sign_57 (by decide) ?_
          refine lv_icmp_eq (tgt := 68) hx hb dX12_sign_59 (by decide) (fun c_14 => ?_) (fun c_14 => ?_)
          · skip
            have h_15 := s_eq (rfl : x.toInt = _) (show (90 : Int32).toInt = 90 from rfl) c_14
            refine lv_iconst (v := 1) hx hb dX12_sign_68 (by decide) ?_
            refine lv_goto (tgt := 73) hx hb dX12_sign_69 (by decide) ?_
            have hlv_16 : (1 : Int32).toInt = 1 := rfl
            exact sj_zret hx hb hr hlocks (by decide +kernel) hS () ⟨⟨by decide, by decide⟩, (by unfold sgK; rcases (show y.toInt = 0 ∨ y.toInt = 1 by omega) with hy9 | hy9 <;> (repeat (first | rw [if_pos (by omega)] | rw [if_neg (by omega)])) <;> omega)⟩ hH (sj_Knil hK) (Nat.le_of_ble_eq_true rfl) (Nat.le_of_ble_eq_true rfl) dX12_sign_73
          · skip
            have h_17 := s_ne (rfl : x.toInt = _) (show (90 : Int32).toInt = 90 from rfl) c_14
            refine lv_iload_n hx hb dX12_sign_62 rfl (lv_at hl 0 rfl) ?_
            refine lv_bipush (v := 85) hx hb dX12_sign_63 (by decide) ?_
            refine lv_icmp_ne (tgt := 72) hx hb dX12_sign_65 (by decide) (fun c_18 => ?_) (fun c_18 => ?_)
            · skip
              have h_19 := s_ne (rfl : x.toInt = _) (show (85 : Int32).toInt = 85 from rfl) c_18
              refine lv_iconst (v := 0) hx hb dX12_sign_72 (by decide) ?_
              have hlv_20 : (0 : Int32).toInt = 0 := rfl
              exact sj_zret hx hb hr hlocks (by decide +kernel) hS () ⟨⟨by decide, by decide⟩, (by unfold sgK; rcases (show y.toInt = 0 ∨ y.toInt = 1 by omega) with hy9 | hy9 <;> (repeat (first | rw [if_pos (by omega)] | rw [if_neg (by omega)])) <;> omega)⟩ hH (sj_Knil hK) (Nat.le_of_ble_eq_true rfl) (Nat.le_of_ble_eq_true rfl) dX12_sign_73
            · skip
              have h_21 := s_eq (rfl : x.toInt = _) (show (85 : Int32).toInt = 85 from rfl) c_18
              refine lv_iconst (v := 1) hx hb dX12_sign_68 (by decide) ?_
              refine lv_goto (tgt := 73) hx hb dX12_sign_69 (by decide) ?_
              have hlv_22 : (1 : Int32).toInt = 1 := rfl
              exact sj_zret hx hb hr hlocks (by decide +kernel) hS () ⟨⟨by decide, by decide⟩, (by unfold sgK; rcases (show y.toInt = 0 ∨ y.toInt = 1 by omega) with hy9 | hy9 <;> (repeat (first | rw [if_pos (by omega)] | rw [if_neg (by omega)])) <;> omega)⟩ hH (sj_Knil hK) (Nat.le_of_ble_eq_true rfl) (Nat.le_of_ble_eq_true rfl) dX12_sign_73
    · skip
      have h_23 := s_eq (rfl : y.toInt = _) (show (0 : Int32).toInt = 0 from rfl) c_4
      refine lv_iload_n hx hb dX12_sign_12 rfl (lv_at hl 0 rfl) ?_
      refine lv_bipush (v := 71) hx hb dX12_sign_13 (by decide) ?_
      refine lv_icmp_eq (tgt := 36) hx hb dX12_sign_15 (by decide) (fun c_24 => ?_) (fun c_24 => ?_)
      · skip
        have h_25 := s_eq (rfl : x.toInt = _) (show (71 : Int32).toInt = 71 from rfl) c_24
        refine lv_iconst (v := 1) hx hb dX12_sign_36 (by decide) ?_
        refine lv_goto (tgt := 73) hx hb dX12_sign_37 (by decide) ?_
        have hlv_26 : (1 : Int32).toInt = 1 := rfl
        exact sj_zret hx hb hr hlocks (by decide +kernel) hS () ⟨⟨by decide, by decide⟩, (by unfold sgK; rcases (show y.toInt = 0 ∨ y.toInt = 1 by omega) with hy9 | hy9 <;> (repeat (first | rw [if_pos (by omega)] | rw [if_neg (by omega)])) <;> omega)⟩ hH (sj_Knil hK) (Nat.le_of_ble_eq_true rfl) (Nat.le_of_ble_eq_true rfl) dX12_sign_73
      · skip
        have h_27 := s_ne (rfl : x.toInt = _) (show (71 : Int32).toInt = 71 from rfl) c_24
        refine lv_iload_n hx hb dX12_sign_18 rfl (lv_at hl 0 rfl) ?_
        refine lv_bipush (v := 87) hx hb dX12_sign_19 (by decide) ?_
        refine lv_icmp_eq (tgt := 36) hx hb dX12_sign_21 (by decide) (fun c_28 => ?_) (fun c_28 => ?_)
        · skip
          have h_29 := s_eq (rfl : x.toInt = _) (show (87 : Int32).toInt = 87 from rfl) c_28
          refine lv_iconst (v := 1) hx hb dX12_sign_36 (by decide) ?_
          refine lv_goto (tgt := 73) hx hb dX12_sign_37 (by decide) ?_
          have hlv_30 : (1 : Int32).toInt = 1 := rfl
          exact sj_zret hx hb hr hlocks (by decide +kernel) hS () ⟨⟨by decide, by decide⟩, (by unfold sgK; rcases (show y.toInt = 0 ∨ y.toInt = 1 by omega) with hy9 | hy9 <;> (repeat (first | rw [if_pos (by omega)] | rw [if_neg (by omega)])) <;> omega)⟩ hH (sj_Knil hK) (Nat.le_of_ble_eq_true rfl) (Nat.le_of_ble_eq_true rfl) dX12_sign_73
        · skip
          have h_31 := s_ne (rfl : x.toInt = _) (show (87 : Int32).toInt = 87 from rfl) c_28
          refine lv_iload_n hx hb dX12_sign_24 rfl (lv_at hl 0 rfl) ?_
          refine lv_bipush (v := 84) hx hb dX12_sign_25 (by decide) ?_
          refine lv_icmp_eq (tgt := 36) hx hb dX12_sign_27 (by decide) (fun c_32 => ?_) (fun c_32 => ?_)
          · skip
            have h_33 := s_eq (rfl : x.toInt = _) (show (84 : Int32).toInt = 84 from rfl) c_32
            refine lv_iconst (v := 1) hx hb dX12_sign_36 (by decide) ?_
            refine lv_goto (tgt := 73) hx hb dX12_sign_37 (by decide) ?_
            have hlv_34 : (1 : Int32).toInt = 1 := rfl
            exact sj_zret hx hb hr hlocks (by decide +kernel) hS () ⟨⟨by decide, by decide⟩, (by unfold sgK; rcases (show y.toInt = 0 ∨ y.toInt = 1 by omega) with hy9 | hy9 <;> (repeat (first | rw [if_pos (by omega)] | rw [if_neg (by omega)])) <;> omega)⟩ hH (sj_Knil hK) (Nat.le_of_ble_eq_true rfl) (Nat.le_of_ble_eq_true rfl) dX12_sign_73
          · skip
            have h_35 := s_ne (rfl : x.toInt = _) (show (84 : Int32).toInt = 84 from rfl) c_32
            refine lv_iload_n hx hb dX12_sign_30 rfl (lv_at hl 0 rfl) ?_
            refine lv_bipush (v := 65) hx hb dX12_sign_31 (by decide) ?_
            refine lv_icmp_ne (tgt := 40) hx hb dX12_sign_33 (by decide) (fun c_36 => ?_) (fun c_36 => ?_)
            · skip
              have h_37 := s_ne (rfl : x.toInt = _) (show (65 : Int32).toInt = 65 from rfl) c_36
              refine lv_iconst (v := 0) hx hb dX12_sign_40 (by decide) ?_
              refine lv_goto (tgt := 73) hx hb dX12_sign_41 (by decide) ?_
              have hlv_38 : (0 : Int32).toInt = 0 := rfl
              exact sj_zret hx hb hr hlocks (by decide +kernel) hS () ⟨⟨by decide, by decide⟩, (by unfold sgK; rcases (show y.toInt = 0 ∨ y.toInt = 1 by omega) with hy9 | hy9 <;> (repeat (first | rw [if_pos (by omega)] | rw [if_neg (by omega)])) <;> omega)⟩ hH (sj_Knil hK) (Nat.le_of_ble_eq_true rfl) (Nat.le_of_ble_eq_true rfl) dX12_sign_73
            · skip
              have h_39 := s_eq (rfl : x.toInt = _) (show (65 : Int32).toInt = 65 from rfl) c_36
              refine lv_iconst (v := 1) hx hb dX12_sign_36 (by decide) ?_
              refine lv_goto (tgt := 73) hx hb dX12_sign_37 (by decide) ?_
              have hlv_40 : (1 : Int32).toInt = 1 := rfl
              exact sj_zret hx hb hr hlocks (by decide +kernel) hS () ⟨⟨by decide, by decide⟩, (by unfold sgK; rcases (show y.toInt = 0 ∨ y.toInt = 1 by omega) with hy9 | hy9 <;> (repeat (first | rw [if_pos (by omega)] | rw [if_neg (by omega)])) <;> omega)⟩ hH (sj_Knil hK) (Nat.le_of_ble_eq_true rfl) (Nat.le_of_ble_eq_true rfl) dX12_sign_73
  · skip
    have h_41 := s_eq (rfl : x.toInt = _) (show (42 : Int32).toInt = 42 from rfl) c_2
    refine lv_iconst (v := 1) hx hb dX12_sign_6 (by decide) ?_
    have hlv_42 : (1 : Int32).toInt = 1 := rfl
    exact sj_zret hx hb hr hlocks (by decide +kernel) hS () ⟨⟨by decide, by decide⟩, (by unfold sgK; rcases (show y.toInt = 0 ∨ y.toInt = 1 by omega) with hy9 | hy9 <;> (repeat (first | rw [if_pos (by omega)] | rw [if_neg (by omega)])) <;> omega)⟩ hH (sj_Knil hK) (Nat.le_of_ble_eq_true rfl) (Nat.le_of_ble_eq_true rfl) dX12_sign_7
set_option maxHeartbeats 2000000 in
set_option maxRecDepth 100000 in
theorem m_kind (l : Launch) (D : va_G) (g : Nat → Nat) (ka : Nat → ClassId) (ad : Nat → Nat) (i : Nat → Nat → Int32) (r : Nat → Nat → Nat) (L : Nat → Nat → Int64) (d : Nat → Nat → UInt64)  (hO : OkI i) (hR : RS r) (sz : Nat)  : Met l yX12_kind wsX12_kind ({ frames := 1, cells := 0, slots := 0, locals := 21 }) (va_Pc [.ref (g 36)] (sj_B D (hwc g ka i r L d) (hT ka) sz (gx ad (va_A (hwc g ka i r L d) sz)))) (sj_Qi (S := Unit) D (fun v u => ((0 : Int) ≤ v.toInt ∧ v.toInt ≤ 9) ∧ (v.toInt = lkd (i 36 7).toInt (lnL (i 380) 0 (i 36 4).toInt))) (fun _ => hwc g ka i r L d) (fun _ => []) (va_A (hwc g ka i r L d) sz)) 0 0 (va_A (hwc g ka i r L d) sz) := by
  refine x_met (Ex := gx ad) (cc := cX12_kind) (maxL := 1) (ret := (some .int)) (by decide) rfl (Nat.le_of_ble_eq_true rfl) ?_
  intro p e s m below meth c A ls hx hb hr hml hts hown hlocks hA hS hH hK hE hl
  have hown : s.vm.findClass RX12 = some m.cls := hown
  have in12 : ∀ w ∈ wsX120, w ∈ wsX12_kind := (fun _ h => (List.mem_cons_of_mem _ (List.mem_append_right _ h)))
  have wd0 := hts (.fieldLink RX12 16 "StoryDeskModel" "width" "I") (List.mem_cons_of_mem _ (List.mem_append_left _ lm0))
  have wd1 := hts (.fieldLink RX12 19 "StoryDeskModel" "line" "[C") (List.mem_cons_of_mem _ (List.mem_append_left _ lm1))
  have wd2 := hts (.fieldLink RX12 33 "StoryDeskModel" "dialect" "I") (List.mem_cons_of_mem _ (List.mem_append_left _ lm2))
  have hl : lv_has ls 1 [(0, .ref (g 36))] := hl
  have hK : va_K D vwCl (hT ka) s := hK
  have hw4 : (0 : Int) ≤ (i 36 4).toInt ∧ (i 36 4).toInt ≤ 480 := hO 36 4
  have hd7 : (0 : Int) ≤ (i 36 7).toInt ∧ (i 36 7).toInt ≤ 1 := hO 36 7
  refine lv_aload_n hx hb dX12_kind_0 rfl (lv_at hl 0 rfl) ?_
  have bx_1 : (0 : Int) ≤ (i 36 4).toInt ∧ (i 36 4).toInt ≤ 480 := hO 36 4
  refine h_geti (ci := 12) (C := RX12) (F := TX12) (N := 86) hx hb hts in12 hown hK hH (by decide) (rfl : kd 36 = 12) (by decide) rfl 4 (by decide) wd0 (fun _ h9 => h9) (by decide) rfl dX12_kind_1 ?_
  refine lv_if_eq (tgt := 18) hx hb dX12_kind_4 (by decide) (fun c_2 => ?_) (fun c_2 => ?_)
  · skip
    have h_3 := s_eq (rfl : (i 36 4).toInt = _) (show (0 : Int32).toInt = 0 from rfl) c_2
    refine lv_iconst (v := 0) hx hb dX12_kind_18 (by decide) ?_
    have hlv_4 : (0 : Int32).toInt = 0 := rfl
    have hlv_5 : (0 : Int32).toInt = 0 := rfl
    exact sj_zret hx hb hr hlocks rfl hS () ⟨⟨by decide, by decide⟩, (by
          by_cases hw9 : 0 < (i 36 4).toInt
          · rw [lkd_ln (by omega) hw9]; have hcb := chB_or (i 380) 0 (i 36 4).toInt; rw [show ((0 : Int) + 1).toNat = 1 from rfl] at hcb; rw [show (0 : Int).toNat = 0 from rfl]; generalize chB (i 380) 0 (i 36 4).toInt = cb9 at hcb ⊢; unfold kdF; repeat (first | rw [if_pos (by omega)] | rw [if_neg (by omega)]); all_goals omega
          · rw [lkd_0 (by omega)]; omega)⟩ hH (sj_Knil hK) (Nat.le_of_ble_eq_true rfl) (Nat.le_of_ble_eq_true rfl) dX12_kind_19
  · skip
    have h_6 := s_ne (rfl : (i 36 4).toInt = _) (show (0 : Int32).toInt = 0 from rfl) c_2
    refine lv_aload_n hx hb dX12_kind_7 rfl (lv_at hl 0 rfl) ?_
    refine h_getr (ci := 12) (C := RX12) (F := TX12) (N := 86) hx hb hts in12 hown hK hH (by decide) (rfl : kd 36 = 12) (by decide) rfl 3 (by decide) wd1 (fun _ h9 => h9) (by decide) rfl (t := 380) (hR 36 3 rfl) (by decide) dX12_kind_8 ?_
    refine lv_iconst (v := 0) hx hb dX12_kind_11 (by decide) ?_
    have bx_7 : (0 : Int) ≤ (i 380 0).toInt ∧ (i 380 0).toInt ≤ 65535 := hO 380 0
    refine h_cald hx hb hK hH (by decide) (rfl : kd 380 = 14) (s_vin (N := 480) (show (0 : Int32).toInt = 0 from rfl) (rfl : ln 380 = 480) (by omega) (by omega)) dX12_kind_12 ?_
    refine sj_i (y := (i 380 0)) rfl ?_
    refine lv_bipush (v := 35) hx hb dX12_kind_13 (by decide) ?_
    refine lv_icmp_ne (tgt := 20) hx hb dX12_kind_15 (by decide) (fun c_8 => ?_) (fun c_8 => ?_)
    · skip
      have h_9 := s_ne (rfl : (i 380 0).toInt = _) (show (35 : Int32).toInt = 35 from rfl) c_8
      refine lv_aload_n hx hb dX12_kind_20 rfl (lv_at hl 0 rfl) ?_
      refine h_getr (ci := 12) (C := RX12) (F := TX12) (N := 86) hx hb hts in12 hown hK hH (by decide) (rfl : kd 36 = 12) (by decide) rfl 3 (by decide) wd1 (fun _ h9 => h9) (by decide) rfl (t := 380) (hR 36 3 rfl) (by decide) dX12_kind_21 ?_
      refine lv_iconst (v := 0) hx hb dX12_kind_24 (by decide) ?_
      refine h_cald hx hb hK hH (by decide) (rfl : kd 380 = 14) (s_vin (N := 480) (show (0 : Int32).toInt = 0 from rfl) (rfl : ln 380 = 480) (by omega) (by omega)) dX12_kind_25 ?_
      refine sj_i (y := (i 380 0)) rfl ?_
      refine lv_bipush (v := 64) hx hb dX12_kind_26 (by decide) ?_
      refine lv_icmp_ne (tgt := 33) hx hb dX12_kind_28 (by decide) (fun c_10 => ?_) (fun c_10 => ?_)
      · skip
        have h_11 := s_ne (rfl : (i 380 0).toInt = _) (show (64 : Int32).toInt = 64 from rfl) c_10
        refine lv_aload_n hx hb dX12_kind_33 rfl (lv_at hl 0 rfl) ?_
        refine h_getr (ci := 12) (C := RX12) (F := TX12) (N := 86) hx hb hts in12 hown hK hH (by decide) (rfl : kd 36 = 12) (by decide) rfl 3 (by decide) wd1 (fun _ h9 => h9) (by decide) rfl (t := 380) (hR 36 3 rfl) (by decide) dX12_kind_34 ?_
        refine lv_iconst (v := 0) hx hb dX12_kind_37 (by decide) ?_
        refine h_cald hx hb hK hH (by decide) (rfl : kd 380 = 14) (s_vin (N := 480) (show (0 : Int32).toInt = 0 from rfl) (rfl : ln 380 = 480) (by omega) (by omega)) dX12_kind_38 ?_
        refine sj_i (y := (i 380 0)) rfl ?_
        refine lv_bipush (v := 124) hx hb dX12_kind_39 (by decide) ?_
        refine lv_icmp_ne (tgt := 46) hx hb dX12_kind_41 (by decide) (fun c_12 => ?_) (fun c_12 => ?_)
        · skip
          have h_13 := s_ne (rfl : (i 380 0).toInt = _) (show (124 : Int32).toInt = 124 from rfl) c_12
          refine lv_aload_n hx hb dX12_kind_46 rfl (lv_at hl 0 rfl) ?_
          refine lv_iconst (v := 1) hx hb dX12_kind_47 (by decide) ?_
          have hl_14 : (1 : Int32).toInt = 1 := rfl
          refine x_calli (va_runV (As := [.int 1]) (rest := []) ⟨hx, hb, hml, hown, hts⟩ (m_at l D g ka ad i r L d 1 hO hR s.heap.size (by first | omega | decide)) (cwV 1 hts gX12_kind_X12_at rfl rfl rfl (by decide +kernel) ⟨(Nat.le_of_ble_eq_true rfl), (Nat.le_of_ble_eq_true rfl)⟩) (x_preV (q := (RX12, TX12, 86)) hH hK (q_obj (by decide) (rfl : kd 36 = 12) (by decide)) rfl gxb (gxw hE hS (x_F hH hS hA))) rfl rfl hl.1 rfl (lv_room (Nat.le_of_ble_eq_true rfl)) dX12_kind_48 ⟨(Nat.le_of_ble_eq_true rfl), (Nat.le_of_ble_eq_true rfl)⟩) hH hS hA rfl rfl (fun r_15 _ H locs hw_16 hH hS => ?_)
          obtain ⟨hr_18, he_19⟩ := hw_16
          have hr_18 : (0 : Int) ≤ r_15.toInt ∧ r_15.toInt ≤ 65535 := hr_18
          rw [show ((1 : Int32).toInt).toNat = 1 from rfl, show (1 : Int32).toInt = 1 from rfl] at he_19
          refine lv_bipush (v := 58) hx hb dX12_kind_51 (by decide) ?_
          refine lv_icmp_ne (tgt := 70) hx hb dX12_kind_53 (by decide) (fun c_20 => ?_) (fun c_20 => ?_)
          · skip
            have h_21 := s_ne (rfl : r_15.toInt = _) (show (58 : Int32).toInt = 58 from rfl) c_20
            refine lv_aload_n hx hb dX12_kind_70 rfl (lv_at hl 0 rfl) ?_
            refine lv_iconst (v := 1) hx hb dX12_kind_71 (by decide) ?_
            have hl_22 : (1 : Int32).toInt = 1 := rfl
            refine x_calli (va_runV (As := [.int 1]) (rest := []) ⟨hx, hb, hml, hown, hts⟩ (m_at l D g ka ad i r L d 1 hO hR H.size (by first | omega | decide)) (cwV 1 hts gX12_kind_X12_at rfl rfl rfl (by decide +kernel) ⟨(Nat.le_of_ble_eq_true rfl), (Nat.le_of_ble_eq_true rfl)⟩) (x_preV (q := (RX12, TX12, 86)) hH hK (q_obj (by decide) (rfl : kd 36 = 12) (by decide)) rfl gxb (gxw hE hS (x_F hH hS hA))) rfl rfl hl.1 rfl (lv_room (Nat.le_of_ble_eq_true rfl)) dX12_kind_72 ⟨(Nat.le_of_ble_eq_true rfl), (Nat.le_of_ble_eq_true rfl)⟩) hH hS hA rfl rfl (fun r_23 _ H locs hw_24 hH hS => ?_)
            obtain ⟨hr_26, he_27⟩ := hw_24
            have hr_26 : (0 : Int) ≤ r_23.toInt ∧ r_23.toInt ≤ 65535 := hr_26
            rw [show ((1 : Int32).toInt).toNat = 1 from rfl, show (1 : Int32).toInt = 1 from rfl] at he_27
            refine lv_bipush (v := 32) hx hb dX12_kind_75 (by decide) ?_
            refine lv_icmp_ne (tgt := 101) hx hb dX12_kind_77 (by decide) (fun c_28 => ?_) (fun c_28 => ?_)
            · skip
              have h_29 := s_ne (rfl : r_23.toInt = _) (show (32 : Int32).toInt = 32 from rfl) c_28
              refine lv_bipush (v := 9) hx hb dX12_kind_101 (by decide) ?_
              have hlv_30 : (9 : Int32).toInt = 9 := rfl
              have hlv_31 : (9 : Int32).toInt = 9 := rfl
              exact sj_zret hx hb hr hlocks rfl hS () ⟨⟨by decide, by decide⟩, (by
                    by_cases hw9 : 0 < (i 36 4).toInt
                    · rw [lkd_ln (by omega) hw9]; have hcb := chB_or (i 380) 0 (i 36 4).toInt; rw [show ((0 : Int) + 1).toNat = 1 from rfl] at hcb; rw [show (0 : Int).toNat = 0 from rfl]; generalize chB (i 380) 0 (i 36 4).toInt = cb9 at hcb ⊢; unfold kdF; repeat (first | rw [if_pos (by omega)] | rw [if_neg (by omega)]); all_goals omega
                    · rw [lkd_0 (by omega)]; omega)⟩ hH (sj_Knil hK) (Nat.le_of_ble_eq_true rfl) (Nat.le_of_ble_eq_true rfl) dX12_kind_103
            · skip
              have h_32 := s_eq (rfl : r_23.toInt = _) (show (32 : Int32).toInt = 32 from rfl) c_28
              refine lv_aload_n hx hb dX12_kind_80 rfl (lv_at hl 0 rfl) ?_
              refine h_getr (ci := 12) (C := RX12) (F := TX12) (N := 86) hx hb hts in12 hown hK hH (by decide) (rfl : kd 36 = 12) (by decide) rfl 3 (by decide) wd1 (fun _ h9 => h9) (by decide) rfl (t := 380) (hR 36 3 rfl) (by decide) dX12_kind_81 ?_
              refine lv_iconst (v := 0) hx hb dX12_kind_84 (by decide) ?_
              refine h_cald hx hb hK hH (by decide) (rfl : kd 380 = 14) (s_vin (N := 480) (show (0 : Int32).toInt = 0 from rfl) (rfl : ln 380 = 480) (by omega) (by omega)) dX12_kind_85 ?_
              refine sj_i (y := (i 380 0)) rfl ?_
              refine lv_aload_n hx hb dX12_kind_86 rfl (lv_at hl 0 rfl) ?_
              have bx_33 : (0 : Int) ≤ (i 36 7).toInt ∧ (i 36 7).toInt ≤ 1 := hO 36 7
              refine h_geti (ci := 12) (C := RX12) (F := TX12) (N := 86) hx hb hts in12 hown hK hH (by decide) (rfl : kd 36 = 12) (by decide) rfl 7 (by decide) wd2 (fun _ h9 => h9) (by decide) rfl dX12_kind_87 ?_
              refine x_calli (va_runS (As := [.int (i 380 0), .int (i 36 7)]) (rest := []) ⟨hx, hb, hml, hown, hts⟩ (m_sign l D g ka ad i r L d (i 380 0) (i 36 7) hO hR H.size (by first | omega | decide) (by first | omega | decide)) (cwS 2 hts gX12_kind_X12_sign rfl rfl rfl (by decide +kernel) ⟨(Nat.le_of_ble_eq_true rfl), (Nat.le_of_ble_eq_true rfl)⟩) (x_preS hH hK gxb (gxw hE hS (x_F hH hS hA))) rfl rfl hl.1 rfl (lv_room (Nat.le_of_ble_eq_true rfl)) dX12_kind_90 ⟨(Nat.le_of_ble_eq_true rfl), (Nat.le_of_ble_eq_true rfl)⟩) hH hS hA rfl rfl (fun r_34 _ H locs hw_35 hH hS => ?_)
              obtain ⟨hr_37, he_38⟩ := hw_35
              have hr_37 : (0 : Int) ≤ r_34.toInt ∧ r_34.toInt ≤ 1 := hr_37
              refine lv_if_eq (tgt := 101) hx hb dX12_kind_93 (by decide) (fun c_39 => ?_) (fun c_39 => ?_)
              · skip
                have h_40 := s_eq (rfl : r_34.toInt = _) (show (0 : Int32).toInt = 0 from rfl) c_39
                refine lv_bipush (v := 9) hx hb dX12_kind_101 (by decide) ?_
                have hlv_41 : (9 : Int32).toInt = 9 := rfl
                have hlv_42 : (9 : Int32).toInt = 9 := rfl
                exact sj_zret hx hb hr hlocks rfl hS () ⟨⟨by decide, by decide⟩, (by
                      by_cases hw9 : 0 < (i 36 4).toInt
                      · rw [lkd_ln (by omega) hw9]; have hcb := chB_or (i 380) 0 (i 36 4).toInt; rw [show ((0 : Int) + 1).toNat = 1 from rfl] at hcb; rw [show (0 : Int).toNat = 0 from rfl]; generalize chB (i 380) 0 (i 36 4).toInt = cb9 at hcb ⊢; unfold kdF; repeat (first | rw [if_pos (by omega)] | rw [if_neg (by omega)]); all_goals omega
                      · rw [lkd_0 (by omega)]; omega)⟩ hH (sj_Knil hK) (Nat.le_of_ble_eq_true rfl) (Nat.le_of_ble_eq_true rfl) dX12_kind_103
              · skip
                have h_43 := s_ne (rfl : r_34.toInt = _) (show (0 : Int32).toInt = 0 from rfl) c_39
                refine lv_bipush (v := 8) hx hb dX12_kind_96 (by decide) ?_
                refine lv_goto (tgt := 103) hx hb dX12_kind_98 (by decide) ?_
                have hlv_44 : (8 : Int32).toInt = 8 := rfl
                have hlv_45 : (8 : Int32).toInt = 8 := rfl
                exact sj_zret hx hb hr hlocks rfl hS () ⟨⟨by decide, by decide⟩, (by
                      by_cases hw9 : 0 < (i 36 4).toInt
                      · rw [lkd_ln (by omega) hw9]; have hcb := chB_or (i 380) 0 (i 36 4).toInt; rw [show ((0 : Int) + 1).toNat = 1 from rfl] at hcb; rw [show (0 : Int).toNat = 0 from rfl]; generalize chB (i 380) 0 (i 36 4).toInt = cb9 at hcb ⊢; unfold kdF; repeat (first | rw [if_pos (by omega)] | rw [if_neg (by omega)]); all_goals omega
                      · rw [lkd_0 (by omega)]; omega)⟩ hH (sj_Knil hK) (Nat.le_of_ble_eq_true rfl) (Nat.le_of_ble_eq_true rfl) dX12_kind_103
          · skip
            have h_46 := s_eq (rfl : r_15.toInt = _) (show (58 : Int32).toInt = 58 from rfl) c_20
            refine lv_aload_n hx hb dX12_kind_56 rfl (lv_at hl 0 rfl) ?_
            refine h_getr (ci := 12) (C := RX12) (F := TX12) (N := 86) hx hb hts in12 hown hK hH (by decide) (rfl : kd 36 = 12) (by decide) rfl 3 (by decide) wd1 (fun _ h9 => h9) (by decide) rfl (t := 380) (hR 36 3 rfl) (by decide) dX12_kind_57 ?_
            refine lv_iconst (v := 0) hx hb dX12_kind_60 (by decide) ?_
            refine h_cald hx hb hK hH (by decide) (rfl : kd 380 = 14) (s_vin (N := 480) (show (0 : Int32).toInt = 0 from rfl) (rfl : ln 380 = 480) (by omega) (by omega)) dX12_kind_61 ?_
            refine sj_i (y := (i 380 0)) rfl ?_
            refine lv_aload_n hx hb dX12_kind_62 rfl (lv_at hl 0 rfl) ?_
            have bx_47 : (0 : Int) ≤ (i 36 7).toInt ∧ (i 36 7).toInt ≤ 1 := hO 36 7
            refine h_geti (ci := 12) (C := RX12) (F := TX12) (N := 86) hx hb hts in12 hown hK hH (by decide) (rfl : kd 36 = 12) (by decide) rfl 7 (by decide) wd2 (fun _ h9 => h9) (by decide) rfl dX12_kind_63 ?_
            refine x_calli (va_runS (As := [.int (i 380 0), .int (i 36 7)]) (rest := []) ⟨hx, hb, hml, hown, hts⟩ (m_key l D g ka ad i r L d (i 380 0) (i 36 7) hO hR H.size (by first | omega | decide) (by first | omega | decide)) (cwS 2 hts gX12_kind_X12_key rfl rfl rfl (by decide +kernel) ⟨(Nat.le_of_ble_eq_true rfl), (Nat.le_of_ble_eq_true rfl)⟩) (x_preS hH hK gxb (gxw hE hS (x_F hH hS hA))) rfl rfl hl.1 rfl (lv_room (Nat.le_of_ble_eq_true rfl)) dX12_kind_66 ⟨(Nat.le_of_ble_eq_true rfl), (Nat.le_of_ble_eq_true rfl)⟩) hH hS hA rfl rfl (fun r_48 _ H locs hw_49 hH hS => ?_)
            obtain ⟨hr_51, he_52⟩ := hw_49
            have hr_51 : (3 : Int) ≤ r_48.toInt ∧ r_48.toInt ≤ 9 := hr_51
            exact sj_zret hx hb hr hlocks rfl hS () ⟨⟨by omega, by omega⟩, (by
                  by_cases hw9 : 0 < (i 36 4).toInt
                  · rw [lkd_ln (by omega) hw9]; have hcb := chB_or (i 380) 0 (i 36 4).toInt; rw [show ((0 : Int) + 1).toNat = 1 from rfl] at hcb; rw [show (0 : Int).toNat = 0 from rfl]; generalize chB (i 380) 0 (i 36 4).toInt = cb9 at hcb ⊢; unfold kdF; repeat (first | rw [if_pos (by omega)] | rw [if_neg (by omega)]); all_goals omega
                  · rw [lkd_0 (by omega)]; omega)⟩ hH (sj_Knil hK) (Nat.le_of_ble_eq_true rfl) (Nat.le_of_ble_eq_true rfl) dX12_kind_69
        · skip
          have h_53 := s_eq (rfl : (i 380 0).toInt = _) (show (124 : Int32).toInt = 124 from rfl) c_12
          refine lv_iconst (v := 2) hx hb dX12_kind_44 (by decide) ?_
          have hlv_54 : (2 : Int32).toInt = 2 := rfl
          have hlv_55 : (2 : Int32).toInt = 2 := rfl
          exact sj_zret hx hb hr hlocks rfl hS () ⟨⟨by decide, by decide⟩, (by
                by_cases hw9 : 0 < (i 36 4).toInt
                · rw [lkd_ln (by omega) hw9]; have hcb := chB_or (i 380) 0 (i 36 4).toInt; rw [show ((0 : Int) + 1).toNat = 1 from rfl] at hcb; rw [show (0 : Int).toNat = 0 from rfl]; generalize chB (i 380) 0 (i 36 4).toInt = cb9 at hcb ⊢; unfold kdF; repeat (first | rw [if_pos (by omega)] | rw [if_neg (by omega)]); all_goals omega
                · rw [lkd_0 (by omega)]; omega)⟩ hH (sj_Knil hK) (Nat.le_of_ble_eq_true rfl) (Nat.le_of_ble_eq_true rfl) dX12_kind_45
      · skip
        have h_56 := s_eq (rfl : (i 380 0).toInt = _) (show (64 : Int32).toInt = 64 from rfl) c_10
        refine lv_iconst (v := 1) hx hb dX12_kind_31 (by decide) ?_
        have hlv_57 : (1 : Int32).toInt = 1 := rfl
        have hlv_58 : (1 : Int32).toInt = 1 := rfl
        exact sj_zret hx hb hr hlocks rfl hS () ⟨⟨by decide, by decide⟩, (by
              by_cases hw9 : 0 < (i 36 4).toInt
              · rw [lkd_ln (by omega) hw9]; have hcb := chB_or (i 380) 0 (i 36 4).toInt; rw [show ((0 : Int) + 1).toNat = 1 from rfl] at hcb; rw [show (0 : Int).toNat = 0 from rfl]; generalize chB (i 380) 0 (i 36 4).toInt = cb9 at hcb ⊢; unfold kdF; repeat (first | rw [if_pos (by omega)] | rw [if_neg (by omega)]); all_goals omega
              · rw [lkd_0 (by omega)]; omega)⟩ hH (sj_Knil hK) (Nat.le_of_ble_eq_true rfl) (Nat.le_of_ble_eq_true rfl) dX12_kind_32
    · skip
      have h_59 := s_eq (rfl : (i 380 0).toInt = _) (show (35 : Int32).toInt = 35 from rfl) c_8
      refine lv_iconst (v := 0) hx hb dX12_kind_18 (by decide) ?_
      have hlv_60 : (0 : Int32).toInt = 0 := rfl
      have hlv_61 : (0 : Int32).toInt = 0 := rfl
      exact sj_zret hx hb hr hlocks rfl hS () ⟨⟨by decide, by decide⟩, (by
            by_cases hw9 : 0 < (i 36 4).toInt
            · rw [lkd_ln (by omega) hw9]; have hcb := chB_or (i 380) 0 (i 36 4).toInt; rw [show ((0 : Int) + 1).toNat = 1 from rfl] at hcb; rw [show (0 : Int).toNat = 0 from rfl]; generalize chB (i 380) 0 (i 36 4).toInt = cb9 at hcb ⊢; unfold kdF; repeat (first | rw [if_pos (by omega)] | rw [if_neg (by omega)]); all_goals omega
            · rw [lkd_0 (by omega)]; omega)⟩ hH (sj_Knil hK) (Nat.le_of_ble_eq_true rfl) (Nat.le_of_ble_eq_true rfl) dX12_kind_19
set_option maxHeartbeats 2000000 in
set_option maxRecDepth 100000 in
theorem m_allowed (l : Launch) (D : va_G) (g : Nat → Nat) (ka : Nat → ClassId) (ad : Nat → Nat) (i : Nat → Nat → Int32) (r : Nat → Nat → Nat) (L : Nat → Nat → Int64) (d : Nat → Nat → UInt64) (x : Int32) (hO : OkI i) (hR : RS r) (sz : Nat) (hx0 : 0 ≤ x.toInt) (hx1 : x.toInt ≤ 8) : Met l yX12_allowed wsX12_allowed ({ frames := 0, cells := 0, slots := 0, locals := 0 }) (va_Pc [.int x] (sj_B D (hwc g ka i r L d) (hT ka) sz (gx ad (va_A (hwc g ka i r L d) sz)))) (sj_Qi (S := Unit) D (fun v u => ((x.toInt = 0 ∧ v.toInt = 3) ∨ (x.toInt = 1 ∧ v.toInt = 5649) ∨ (x.toInt = 2 ∧ v.toInt = 8649) ∨ (x.toInt = 3 ∧ v.toInt = 8264) ∨ (x.toInt = 4 ∧ v.toInt = 86479) ∨ (x.toInt = 5 ∧ v.toInt = 82647) ∨ (x.toInt = 6 ∧ v.toInt = 26479) ∨ (x.toInt = 7 ∧ v.toInt = 2647) ∨ (x.toInt = 8 ∧ v.toInt = 5649))) (fun _ => hwc g ka i r L d) (fun _ => []) (va_A (hwc g ka i r L d) sz)) 0 0 (va_A (hwc g ka i r L d) sz) := by
  refine x_met (Ex := gx ad) (cc := cX12_allowed) (maxL := 1) (ret := (some .int)) (by decide) rfl (Nat.le_of_ble_eq_true rfl) ?_
  intro p e s m below meth c A ls hx hb hr hml hts hown hlocks hA hS hH hK hE hl
  have hown : s.vm.findClass RX12 = some m.cls := hown
  have wd0 := hts (.constant RX12 44 (86479)) (List.mem_cons_of_mem _ lm0)
  have wd1 := hts (.constant RX12 45 (82647)) (List.mem_cons_of_mem _ lm1)
  have hl : lv_has ls 1 [(0, .int x)] := hl
  have hK : va_K D vwCl (hT ka) s := hK
  refine lv_iload_n hx hb dX12_allowed_0 rfl (lv_at hl 0 rfl) ?_
  by_cases h_1 : (x).toInt < 0 ∨ 8 < (x).toInt
  · skip
    exfalso; omega
  · skip
    rcases (show (x).toInt = 0 ∨ (x).toInt = 1 ∨ (x).toInt = 2 ∨ (x).toInt = 3 ∨ (x).toInt = 4 ∨ (x).toInt = 5 ∨ (x).toInt = 6 ∨ (x).toInt = 7 ∨ (x).toInt = 8 by omega) with hh_1 | hh_1 | hh_1 | hh_1 | hh_1 | hh_1 | hh_1 | hh_1 | hh_1
    · skip
      refine lv_tableIn (tgt := 52) hx hb dX12_allowed_1 (by omega) (by omega) (by rw [hh_1]; rfl) (by decide) ?_
      refine lv_iconst (v := 3) hx hb dX12_allowed_52 (by decide) ?_
      have hlv_2 : (3 : Int32).toInt = 3 := rfl
      exact sj_zret hx hb hr hlocks rfl hS () (by first | omega | (refine ⟨?_, ?_, ?_, ?_, ?_, ?_, ?_, ?_, ?_, ?_⟩ <;> first | assumption | omega)) hH (sj_Knil hK) (Nat.le_of_ble_eq_true rfl) (Nat.le_of_ble_eq_true rfl) dX12_allowed_53
    · skip
      refine lv_tableIn (tgt := 54) hx hb dX12_allowed_1 (by omega) (by omega) (by rw [hh_1]; rfl) (by decide) ?_
      refine lv_sipush (v := 5649) hx hb dX12_allowed_54 (by decide) ?_
      have hlv_3 : (5649 : Int32).toInt = 5649 := rfl
      exact sj_zret hx hb hr hlocks rfl hS () (by first | omega | (refine ⟨?_, ?_, ?_, ?_, ?_, ?_, ?_, ?_, ?_, ?_⟩ <;> first | assumption | omega)) hH (sj_Knil hK) (Nat.le_of_ble_eq_true rfl) (Nat.le_of_ble_eq_true rfl) dX12_allowed_57
    · skip
      refine lv_tableIn (tgt := 58) hx hb dX12_allowed_1 (by omega) (by omega) (by rw [hh_1]; rfl) (by decide) ?_
      refine lv_sipush (v := 8649) hx hb dX12_allowed_58 (by decide) ?_
      have hlv_4 : (8649 : Int32).toInt = 8649 := rfl
      exact sj_zret hx hb hr hlocks rfl hS () (by first | omega | (refine ⟨?_, ?_, ?_, ?_, ?_, ?_, ?_, ?_, ?_, ?_⟩ <;> first | assumption | omega)) hH (sj_Knil hK) (Nat.le_of_ble_eq_true rfl) (Nat.le_of_ble_eq_true rfl) dX12_allowed_61
    · skip
      refine lv_tableIn (tgt := 62) hx hb dX12_allowed_1 (by omega) (by omega) (by rw [hh_1]; rfl) (by decide) ?_
      refine lv_sipush (v := 8264) hx hb dX12_allowed_62 (by decide) ?_
      have hlv_5 : (8264 : Int32).toInt = 8264 := rfl
      exact sj_zret hx hb hr hlocks rfl hS () (by first | omega | (refine ⟨?_, ?_, ?_, ?_, ?_, ?_, ?_, ?_, ?_, ?_⟩ <;> first | assumption | omega)) hH (sj_Knil hK) (Nat.le_of_ble_eq_true rfl) (Nat.le_of_ble_eq_true rfl) dX12_allowed_65
    · skip
      refine lv_tableIn (tgt := 66) hx hb dX12_allowed_1 (by omega) (by omega) (by rw [hh_1]; rfl) (by decide) ?_
      refine lv_ldc hx hb hown wd0 dX12_allowed_66 ?_
      have hlv_6 : (86479 : Int32).toInt = 86479 := rfl
      exact sj_zret hx hb hr hlocks rfl hS () (by first | omega | (refine ⟨?_, ?_, ?_, ?_, ?_, ?_, ?_, ?_, ?_, ?_⟩ <;> first | assumption | omega)) hH (sj_Knil hK) (Nat.le_of_ble_eq_true rfl) (Nat.le_of_ble_eq_true rfl) dX12_allowed_68
    · skip
      refine lv_tableIn (tgt := 69) hx hb dX12_allowed_1 (by omega) (by omega) (by rw [hh_1]; rfl) (by decide) ?_
      refine lv_ldc hx hb hown wd1 dX12_allowed_69 ?_
      have hlv_7 : (82647 : Int32).toInt = 82647 := rfl
      exact sj_zret hx hb hr hlocks rfl hS () (by first | omega | (refine ⟨?_, ?_, ?_, ?_, ?_, ?_, ?_, ?_, ?_, ?_⟩ <;> first | assumption | omega)) hH (sj_Knil hK) (Nat.le_of_ble_eq_true rfl) (Nat.le_of_ble_eq_true rfl) dX12_allowed_71
    · skip
      refine lv_tableIn (tgt := 72) hx hb dX12_allowed_1 (by omega) (by omega) (by rw [hh_1]; rfl) (by decide) ?_
      refine lv_sipush (v := 26479) hx hb dX12_allowed_72 (by decide) ?_
      have hlv_8 : (26479 : Int32).toInt = 26479 := rfl
      exact sj_zret hx hb hr hlocks rfl hS () (by first | omega | (refine ⟨?_, ?_, ?_, ?_, ?_, ?_, ?_, ?_, ?_, ?_⟩ <;> first | assumption | omega)) hH (sj_Knil hK) (Nat.le_of_ble_eq_true rfl) (Nat.le_of_ble_eq_true rfl) dX12_allowed_75
    · skip
      refine lv_tableIn (tgt := 76) hx hb dX12_allowed_1 (by omega) (by omega) (by rw [hh_1]; rfl) (by decide) ?_
      refine lv_sipush (v := 2647) hx hb dX12_allowed_76 (by decide) ?_
      have hlv_9 : (2647 : Int32).toInt = 2647 := rfl
      exact sj_zret hx hb hr hlocks rfl hS () (by first | omega | (refine ⟨?_, ?_, ?_, ?_, ?_, ?_, ?_, ?_, ?_, ?_⟩ <;> first | assumption | omega)) hH (sj_Knil hK) (Nat.le_of_ble_eq_true rfl) (Nat.le_of_ble_eq_true rfl) dX12_allowed_79
    · skip
      refine lv_tableIn (tgt := 54) hx hb dX12_allowed_1 (by omega) (by omega) (by rw [hh_1]; rfl) (by decide) ?_
      refine lv_sipush (v := 5649) hx hb dX12_allowed_54 (by decide) ?_
      have hlv_10 : (5649 : Int32).toInt = 5649 := rfl
      exact sj_zret hx hb hr hlocks rfl hS () (by first | omega | (refine ⟨?_, ?_, ?_, ?_, ?_, ?_, ?_, ?_, ?_, ?_⟩ <;> first | assumption | omega)) hH (sj_Knil hK) (Nat.le_of_ble_eq_true rfl) (Nat.le_of_ble_eq_true rfl) dX12_allowed_57
set_option maxHeartbeats 2000000 in
set_option maxRecDepth 100000 in
theorem m_note (l : Launch) (D : va_G) (g : Nat → Nat) (ka : Nat → ClassId) (ad : Nat → Nat) (i : Nat → Nat → Int32) (r : Nat → Nat → Nat) (L : Nat → Nat → Int64) (d : Nat → Nat → UInt64) (x : Int32) (y : Int32) (hO : OkI i) (hR : RS r) (sz : Nat)  : Met l yX12_note wsX12_note ({ frames := 0, cells := 0, slots := 0, locals := 0 }) (va_Pc [.ref (g 36), .int x, .int y] (sj_B D (hwc g ka i r L d) (hT ka) sz (gx ad (va_A (hwc g ka i r L d) sz)))) (sj_Qv (S := (Nat → Nat → Int32)) D (fun u => OkI u ∧ (∀ a b, ¬ ((a = 36 ∧ (b = 6)) ∨ a = 381) → u a b = i a b) ∧ (erM i u x.toInt y.toInt)) (fun u => hwc g ka u r L d) (fun _ => []) (va_A (hwc g ka i r L d) sz)) 0 0 (va_A (hwc g ka i r L d) sz) := by
  refine x_met (Ex := gx ad) (cc := cX12_note) (maxL := 3) (ret := none) (by decide) rfl (Nat.le_of_ble_eq_true rfl) ?_
  intro p e s m below meth c A ls hx hb hr hml hts hown hlocks hA hS hH hK hE hl
  have hown : s.vm.findClass RX12 = some m.cls := hown
  have in12 : ∀ w ∈ wsX120, w ∈ wsX12_note := (fun _ h => (List.mem_cons_of_mem _ (List.mem_append_right _ h)))
  have wd0 := hts (.fieldLink RX12 57 "StoryDeskModel" "wrongs" "I") (List.mem_cons_of_mem _ (List.mem_append_left _ lm0))
  have wd1 := hts (.fieldLink RX12 60 "StoryDeskModel" "errors" "[I") (List.mem_cons_of_mem _ (List.mem_append_left _ lm1))
  have hl : lv_has ls 3 [(0, .ref (g 36)), (1, .int x), (2, .int y)] := hl
  have hK : va_K D vwCl (hT ka) s := hK
  have hg_1 := s_rng x
  have hg_2 := s_rng y
  have hb6 : (0 : Int) ≤ (i 36 6).toInt ∧ (i 36 6).toInt ≤ 20 := hO 36 6
  refine lv_aload_n hx hb dX12_note_0 rfl (lv_at hl 0 rfl) ?_
  have bx_3 : (0 : Int) ≤ (i 36 6).toInt ∧ (i 36 6).toInt ≤ 20 := hO 36 6
  refine h_geti (ci := 12) (C := RX12) (F := TX12) (N := 86) hx hb hts in12 hown hK hH (by decide) (rfl : kd 36 = 12) (by decide) rfl 6 (by decide) wd0 (fun _ h9 => h9) (by decide) rfl dX12_note_1 ?_
  refine lv_bipush (v := 20) hx hb dX12_note_4 (by decide) ?_
  refine lv_icmp_ne (tgt := 10) hx hb dX12_note_6 (by decide) (fun c_4 => ?_) (fun c_4 => ?_)
  · skip
    have h_5 := s_ne (rfl : (i 36 6).toInt = _) (show (20 : Int32).toInt = 20 from rfl) c_4
    refine lv_aload_n hx hb dX12_note_10 rfl (lv_at hl 0 rfl) ?_
    refine h_getr (ci := 12) (C := RX12) (F := TX12) (N := 86) hx hb hts in12 hown hK hH (by decide) (rfl : kd 36 = 12) (by decide) rfl 5 (by decide) wd1 (fun _ h9 => h9) (by decide) rfl (t := 381) (hR 36 5 rfl) (by decide) dX12_note_11 ?_
    refine lv_iconst (v := 2) hx hb dX12_note_14 (by decide) ?_
    refine lv_aload_n hx hb dX12_note_15 rfl (lv_at hl 0 rfl) ?_
    refine h_geti (ci := 12) (C := RX12) (F := TX12) (N := 86) hx hb hts in12 hown hK hH (by decide) (rfl : kd 36 = 12) (by decide) rfl 6 (by decide) wd0 (fun _ h9 => h9) (by decide) rfl dX12_note_16 ?_
    refine lv_imul hx hb dX12_note_19 ?_
    obtain ⟨z_6, ez_6, hz_6⟩ := s_mul (show (2 : Int32).toInt = 2 from rfl) (rfl : (i 36 6).toInt = _) (by omega) (by omega)
    refine sj_i ez_6 ?_
    refine lv_iload_n hx hb dX12_note_20 rfl (lv_at hl 1 rfl) ?_
    have hO_7 := okp hO (n := 381) (k := (2 * (i 36 6).toInt).toNat) (v := x) (show (-2147483648 : Int) ≤ (x : Int32).toInt ∧ (x : Int32).toInt ≤ 2147483647 from s_rng x)
    refine h_iast hx hb hK hH hS (by decide) (rfl : kd 381 = 13) (s_vin (N := 40) (rfl : z_6.toInt = _) (rfl : ln 381 = 40) (by omega) (by omega)) dX12_note_21 (fun H locs hH hS => ?_)
    rw [s_cl (show z_6.toInt = 2 * (i 36 6).toInt by omega)] at hH
    refine lv_aload_n hx hb dX12_note_22 rfl (lv_at hl 0 rfl) ?_
    refine h_getr (ci := 12) (C := RX12) (F := TX12) (N := 86) hx hb hts in12 hown hK hH (by decide) (rfl : kd 36 = 12) (by decide) rfl 5 (by decide) wd1 (fun _ h9 => h9) (by decide) rfl (t := 381) (hR 36 5 rfl) (by decide) dX12_note_23 ?_
    refine lv_iconst (v := 2) hx hb dX12_note_26 (by decide) ?_
    refine lv_aload_n hx hb dX12_note_27 rfl (lv_at hl 0 rfl) ?_
    refine h_geti (ci := 12) (C := RX12) (F := TX12) (N := 86) hx hb hts in12 hown hK hH (by decide) (rfl : kd 36 = 12) (by decide) rfl 6 (by decide) wd0 (fun _ h9 => h9) (by decide) rfl dX12_note_28 ?_
    refine sj_i (y := (i 36 6)) (congrFun (up2_n _ _ (by decide)) _) ?_
    refine lv_imul hx hb dX12_note_31 ?_
    obtain ⟨z_8, ez_8, hz_8⟩ := s_mul (show (2 : Int32).toInt = 2 from rfl) (rfl : (i 36 6).toInt = _) (by omega) (by omega)
    refine sj_i ez_8 ?_
    refine lv_iconst (v := 1) hx hb dX12_note_32 (by decide) ?_
    refine lv_iadd hx hb dX12_note_33 ?_
    obtain ⟨z_9, ez_9, hz_9⟩ := s_add (rfl : z_8.toInt = _) (show (1 : Int32).toInt = 1 from rfl) (by omega) (by omega)
    refine sj_i ez_9 ?_
    refine lv_iload_n hx hb dX12_note_34 rfl (lv_at hl 2 rfl) ?_
    have hO_10 := okp hO_7 (n := 381) (k := (2 * (i 36 6).toInt + 1).toNat) (v := y) (show (-2147483648 : Int) ≤ (y : Int32).toInt ∧ (y : Int32).toInt ≤ 2147483647 from s_rng y)
    refine h_iast hx hb hK hH hS (by decide) (rfl : kd 381 = 13) (s_vin (N := 40) (rfl : z_9.toInt = _) (rfl : ln 381 = 40) (by omega) (by omega)) dX12_note_35 (fun H locs hH hS => ?_)
    rw [s_cl (show z_9.toInt = 2 * (i 36 6).toInt + 1 by omega)] at hH
    refine lv_aload_n hx hb dX12_note_36 rfl (lv_at hl 0 rfl) ?_
    refine lv_dup hx hb dX12_note_37 rfl ?_
    refine h_geti (ci := 12) (C := RX12) (F := TX12) (N := 86) hx hb hts in12 hown hK hH (by decide) (rfl : kd 36 = 12) (by decide) rfl 6 (by decide) wd0 (fun _ h9 => h9) (by decide) rfl dX12_note_38 ?_
    refine sj_i (y := (i 36 6)) ((congrFun (up2_n _ _ (by decide)) _).trans (congrFun (up2_n _ _ (by decide)) _)) ?_
    refine lv_iconst (v := 1) hx hb dX12_note_41 (by decide) ?_
    refine lv_iadd hx hb dX12_note_42 ?_
    obtain ⟨z_11, ez_11, hz_11⟩ := s_add (rfl : (i 36 6).toInt = _) (show (1 : Int32).toInt = 1 from rfl) (by omega) (by omega)
    refine sj_i ez_11 ?_
    have hO_12 := okp hO_10 (n := 36) (k := 6) (v := z_11) (show (0 : Int) ≤ (z_11 : Int32).toInt ∧ (z_11 : Int32).toInt ≤ 20 from ⟨by omega, by omega⟩)
    refine h_puti (ty := .int) (ci := 12) (C := RX12) (F := TX12) (N := 86) hx hb hts in12 tyX12 tyX12_ok nmX12 hown hK hH hS (by decide) (rfl : kd 36 = 12) (by decide) rfl 6 (by decide) wd0 (fun _ h9 => h9) rfl (by decide +kernel) rfl rfl (by decide) rfl dX12_note_43 (fun H locs hH hS => ?_)
    have hp_13 : ((up2 (up2 (up2 i 381 (2 * (i 36 6).toInt).toNat x) 381 (2 * (i 36 6).toInt + 1).toNat y) 36 6 z_11) 36 6).toInt = (z_11 : Int32).toInt := congrArg Int32.toInt ((up2_at _ _ _ _))
    have hV_14 : erM i (up2 (up2 (up2 i 381 (2 * (i 36 6).toInt).toNat x) 381 (2 * (i 36 6).toInt + 1).toNat y) 36 6 z_11) x.toInt y.toInt := (Or.inr ⟨by omega, by omega, (by rw [show 2 * (i 36 6).toInt.toNat = (2 * (i 36 6).toInt).toNat by omega]; exact congrArg Int32.toInt (((congrFun (up2_n _ _ (by decide)) _).trans ((up2_k _ _ (by omega)).trans (up2_at _ _ _ _))))), (by rw [show 2 * (i 36 6).toInt.toNat + 1 = (2 * (i 36 6).toInt + 1).toNat by omega]; exact congrArg Int32.toInt (((congrFun (up2_n _ _ (by decide)) _).trans (up2_at _ _ _ _)))), (fun k h1 h2 => ((up2_o _ _ (by omega)).trans ((up2_o _ _ (by omega)).trans (up2_o _ _ (by omega))))), (fun b hb => by
          have hb9 : b ≠ 6 := fun e9 => hb (by rw [e9]; decide)
          exact ((up2_o _ _ (by omega)).trans ((up2_o _ _ (by omega)).trans (up2_o _ _ (by omega))))), (fun a h1 h2 => by
          have h9 : a ≠ 381 := fun e9 => h2 (by rw [e9]; decide)
          exact funext fun b => ((up2_o _ _ (by omega)).trans ((up2_o _ _ (by omega)).trans (up2_o _ _ (by omega)))))⟩)
    exact sj_vret hx hb hr hlocks hS (up2 (up2 (up2 i 381 (2 * (i 36 6).toInt).toNat x) 381 (2 * (i 36 6).toInt + 1).toNat y) 36 6 z_11) ⟨hO_12, (fun a b ha => ((up2_o _ _ (by omega)).trans ((up2_o _ _ (by omega)).trans (up2_o _ _ (by omega))))), hV_14⟩ hH (sj_Knil hK) (Nat.le_of_ble_eq_true rfl) (Nat.le_of_ble_eq_true rfl) dX12_note_46
  · skip
    have h_15 := s_eq (rfl : (i 36 6).toInt = _) (show (20 : Int32).toInt = 20 from rfl) c_4
    have hV_16 : erM i i x.toInt y.toInt := (Or.inl ⟨by omega, rfl⟩)
    exact sj_vret hx hb hr hlocks hS i ⟨hO, (fun a b ha => rfl), hV_16⟩ hH (sj_Knil hK) (Nat.le_of_ble_eq_true rfl) (Nat.le_of_ble_eq_true rfl) dX12_note_9
