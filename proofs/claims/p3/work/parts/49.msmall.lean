theorem dX12_throwsNow_0 : decode cX12_throwsNow 0 = .ok (.aload_n 0, 1) := by decide +kernel
theorem dX12_throwsNow_1 : decode cX12_throwsNow 1 = .ok (.iload_n 1, 1) := by decide +kernel
theorem dX12_throwsNow_2 : decode cX12_throwsNow 2 = .ok (.putfield 1, 3) := by decide +kernel
theorem dX12_throwsNow_5 : decode cX12_throwsNow 5 = .ok (.iload_n 1, 1) := by decide +kernel
theorem dX12_throwsNow_6 : decode cX12_throwsNow 6 = .ok (.ifCond .le 7, 3) := by decide +kernel
theorem dX12_throwsNow_13 : decode cX12_throwsNow 13 = .ok (.iconst 0, 1) := by decide +kernel
theorem dX12_throwsNow_14 : decode cX12_throwsNow 14 = .ok (.ireturn, 1) := by decide +kernel
theorem dX12_throwsNow_9 : decode cX12_throwsNow 9 = .ok (.iconst 1, 1) := by decide +kernel
theorem dX12_throwsNow_10 : decode cX12_throwsNow 10 = .ok (.goto 4, 3) := by decide +kernel
theorem dX12_busy_0 : decode cX12_busy 0 = .ok (.aload_n 0, 1) := by decide +kernel
theorem dX12_busy_1 : decode cX12_busy 1 = .ok (.aload_n 0, 1) := by decide +kernel
theorem dX12_busy_2 : decode cX12_busy 2 = .ok (.getfield 168, 3) := by decide +kernel
theorem dX12_busy_5 : decode cX12_busy 5 = .ok (.ifCond .eq 7, 3) := by decide +kernel
theorem dX12_busy_12 : decode cX12_busy 12 = .ok (.iconst 0, 1) := by decide +kernel
theorem dX12_busy_13 : decode cX12_busy 13 = .ok (.invokevirtual 171, 3) := by decide +kernel
theorem dX12_busy_16 : decode cX12_busy 16 = .ok (.ireturn, 1) := by decide +kernel
theorem dX12_busy_8 : decode cX12_busy 8 = .ok (.iconst 1, 1) := by decide +kernel
theorem dX12_busy_9 : decode cX12_busy 9 = .ok (.goto 4, 3) := by decide +kernel
theorem dX12_command_0 : decode cX12_command 0 = .ok (.aload_n 0, 1) := by decide +kernel
theorem dX12_command_1 : decode cX12_command 1 = .ok (.iconst 0, 1) := by decide +kernel
theorem dX12_command_2 : decode cX12_command 2 = .ok (.putfield 1, 3) := by decide +kernel
theorem dX12_command_5 : decode cX12_command 5 = .ok (.aload_n 0, 1) := by decide +kernel
theorem dX12_command_6 : decode cX12_command 6 = .ok (.getfield 168, 3) := by decide +kernel
theorem dX12_command_9 : decode cX12_command 9 = .ok (.ifCond .ne 33, 3) := by decide +kernel
theorem dX12_command_42 : decode cX12_command 42 = .ok (.iconst 0, 1) := by decide +kernel
theorem dX12_command_43 : decode cX12_command 43 = .ok (.ireturn, 1) := by decide +kernel
theorem dX12_command_12 : decode cX12_command 12 = .ok (.iload_n 1, 1) := by decide +kernel
theorem dX12_command_13 : decode cX12_command 13 = .ok (.ifCond .lt 29, 3) := by decide +kernel
theorem dX12_command_16 : decode cX12_command 16 = .ok (.iload_n 1, 1) := by decide +kernel
theorem dX12_command_17 : decode cX12_command 17 = .ok (.bipush 7, 2) := by decide +kernel
theorem dX12_command_19 : decode cX12_command 19 = .ok (.if_icmp .gt 23, 3) := by decide +kernel
theorem dX12_command_22 : decode cX12_command 22 = .ok (.iload_n 2, 1) := by decide +kernel
theorem dX12_command_23 : decode cX12_command 23 = .ok (.ifCond .lt 19, 3) := by decide +kernel
theorem dX12_command_26 : decode cX12_command 26 = .ok (.iload_n 2, 1) := by decide +kernel
theorem dX12_command_27 : decode cX12_command 27 = .ok (.bipush 8, 2) := by decide +kernel
theorem dX12_command_29 : decode cX12_command 29 = .ok (.if_icmp .gt 13, 3) := by decide +kernel
theorem dX12_command_32 : decode cX12_command 32 = .ok (.aload_n 0, 1) := by decide +kernel
theorem dX12_command_33 : decode cX12_command 33 = .ok (.getfield 424, 3) := by decide +kernel
theorem dX12_command_36 : decode cX12_command 36 = .ok (.iload_n 1, 1) := by decide +kernel
theorem dX12_command_37 : decode cX12_command 37 = .ok (.iaload, 1) := by decide +kernel
theorem dX12_command_38 : decode cX12_command 38 = .ok (.iconst 4, 1) := by decide +kernel
theorem dX12_command_39 : decode cX12_command 39 = .ok (.if_icmp .ne 5, 3) := by decide +kernel
theorem dX12_command_44 : decode cX12_command 44 = .ok (.iconst 4, 1) := by decide +kernel
theorem dX12_command_45 : decode cX12_command 45 = .ok (.iload_n 1, 1) := by decide +kernel
theorem dX12_command_46 : decode cX12_command 46 = .ok (.imul, 1) := by decide +kernel
theorem dX12_command_47 : decode cX12_command 47 = .ok (.aload_n 0, 1) := by decide +kernel
theorem dX12_command_48 : decode cX12_command 48 = .ok (.getfield 424, 3) := by decide +kernel
theorem dX12_command_51 : decode cX12_command 51 = .ok (.iload_n 1, 1) := by decide +kernel
theorem dX12_command_52 : decode cX12_command 52 = .ok (.iaload, 1) := by decide +kernel
theorem dX12_command_53 : decode cX12_command 53 = .ok (.iadd, 1) := by decide +kernel
theorem dX12_command_54 : decode cX12_command 54 = .ok (.istore 4, 2) := by decide +kernel
theorem dX12_command_56 : decode cX12_command 56 = .ok (.aload_n 0, 1) := by decide +kernel
theorem dX12_command_57 : decode cX12_command 57 = .ok (.getfield 427, 3) := by decide +kernel
theorem dX12_command_60 : decode cX12_command 60 = .ok (.iload 4, 2) := by decide +kernel
theorem dX12_command_62 : decode cX12_command 62 = .ok (.iload_n 2, 1) := by decide +kernel
theorem dX12_command_63 : decode cX12_command 63 = .ok (.iastore, 1) := by decide +kernel
theorem dX12_command_64 : decode cX12_command 64 = .ok (.aload_n 0, 1) := by decide +kernel
theorem dX12_command_65 : decode cX12_command 65 = .ok (.getfield 430, 3) := by decide +kernel
theorem dX12_command_68 : decode cX12_command 68 = .ok (.iload 4, 2) := by decide +kernel
theorem dX12_command_70 : decode cX12_command 70 = .ok (.iload_n 3, 1) := by decide +kernel
theorem dX12_command_71 : decode cX12_command 71 = .ok (.iastore, 1) := by decide +kernel
theorem dX12_command_72 : decode cX12_command 72 = .ok (.aload_n 0, 1) := by decide +kernel
theorem dX12_command_73 : decode cX12_command 73 = .ok (.getfield 424, 3) := by decide +kernel
theorem dX12_command_76 : decode cX12_command 76 = .ok (.iload_n 1, 1) := by decide +kernel
theorem dX12_command_77 : decode cX12_command 77 = .ok (.dup2, 1) := by decide +kernel
theorem dX12_command_78 : decode cX12_command 78 = .ok (.iaload, 1) := by decide +kernel
theorem dX12_command_79 : decode cX12_command 79 = .ok (.iconst 1, 1) := by decide +kernel
theorem dX12_command_80 : decode cX12_command 80 = .ok (.iadd, 1) := by decide +kernel
theorem dX12_command_81 : decode cX12_command 81 = .ok (.iastore, 1) := by decide +kernel
theorem dX12_command_82 : decode cX12_command 82 = .ok (.iconst 1, 1) := by decide +kernel
theorem dX12_command_83 : decode cX12_command 83 = .ok (.ireturn, 1) := by decide +kernel
theorem dX12_event_0 : decode cX12_event 0 = .ok (.aload_n 0, 1) := by decide +kernel
theorem dX12_event_1 : decode cX12_event 1 = .ok (.iconst 0, 1) := by decide +kernel
theorem dX12_event_2 : decode cX12_event 2 = .ok (.putfield 1, 3) := by decide +kernel
theorem dX12_event_5 : decode cX12_event 5 = .ok (.iload_n 1, 1) := by decide +kernel
theorem dX12_event_6 : decode cX12_event 6 = .ok (.ifCond .lt 26, 3) := by decide +kernel
theorem dX12_event_32 : decode cX12_event 32 = .ok (.iconst (-1), 1) := by decide +kernel
theorem dX12_event_33 : decode cX12_event 33 = .ok (.goto 23, 3) := by decide +kernel
theorem dX12_event_56 : decode cX12_event 56 = .ok (.ireturn, 1) := by decide +kernel
theorem dX12_event_9 : decode cX12_event 9 = .ok (.iload_n 1, 1) := by decide +kernel
theorem dX12_event_10 : decode cX12_event 10 = .ok (.bipush 63, 2) := by decide +kernel
theorem dX12_event_12 : decode cX12_event 12 = .ok (.if_icmp .gt 20, 3) := by decide +kernel
theorem dX12_event_15 : decode cX12_event 15 = .ok (.iload_n 1, 1) := by decide +kernel
theorem dX12_event_16 : decode cX12_event 16 = .ok (.aload_n 0, 1) := by decide +kernel
theorem dX12_event_17 : decode cX12_event 17 = .ok (.getfield 501, 3) := by decide +kernel
theorem dX12_event_20 : decode cX12_event 20 = .ok (.if_icmp .ge 12, 3) := by decide +kernel
theorem dX12_event_23 : decode cX12_event 23 = .ok (.iload_n 2, 1) := by decide +kernel
theorem dX12_event_24 : decode cX12_event 24 = .ok (.ifCond .lt 8, 3) := by decide +kernel
theorem dX12_event_27 : decode cX12_event 27 = .ok (.iload_n 2, 1) := by decide +kernel
theorem dX12_event_28 : decode cX12_event 28 = .ok (.iconst 3, 1) := by decide +kernel
theorem dX12_event_29 : decode cX12_event 29 = .ok (.if_icmp .le 7, 3) := by decide +kernel
theorem dX12_event_36 : decode cX12_event 36 = .ok (.aload_n 0, 1) := by decide +kernel
theorem dX12_event_37 : decode cX12_event 37 = .ok (.getfield 489, 3) := by decide +kernel
theorem dX12_event_40 : decode cX12_event 40 = .ok (.iconst 4, 1) := by decide +kernel
theorem dX12_event_41 : decode cX12_event 41 = .ok (.aload_n 0, 1) := by decide +kernel
theorem dX12_event_42 : decode cX12_event 42 = .ok (.getfield 501, 3) := by decide +kernel
theorem dX12_event_45 : decode cX12_event 45 = .ok (.iconst 1, 1) := by decide +kernel
theorem dX12_event_46 : decode cX12_event 46 = .ok (.isub, 1) := by decide +kernel
theorem dX12_event_47 : decode cX12_event 47 = .ok (.iload_n 1, 1) := by decide +kernel
theorem dX12_event_48 : decode cX12_event 48 = .ok (.isub, 1) := by decide +kernel
theorem dX12_event_49 : decode cX12_event 49 = .ok (.bipush 64, 2) := by decide +kernel
theorem dX12_event_51 : decode cX12_event 51 = .ok (.irem, 1) := by decide +kernel
theorem dX12_event_52 : decode cX12_event 52 = .ok (.imul, 1) := by decide +kernel
theorem dX12_event_53 : decode cX12_event 53 = .ok (.iload_n 2, 1) := by decide +kernel
theorem dX12_event_54 : decode cX12_event 54 = .ok (.iadd, 1) := by decide +kernel
theorem dX12_event_55 : decode cX12_event 55 = .ok (.iaload, 1) := by decide +kernel
theorem dX12_look_0 : decode cX12_look 0 = .ok (.aload_n 0, 1) := by decide +kernel
theorem dX12_look_1 : decode cX12_look 1 = .ok (.iconst 0, 1) := by decide +kernel
theorem dX12_look_2 : decode cX12_look 2 = .ok (.putfield 1, 3) := by decide +kernel
theorem dX12_look_5 : decode cX12_look 5 = .ok (.iload_n 1, 1) := by decide +kernel
theorem dX12_look_6 : decode cX12_look 6 = .ok (.iconst 4, 1) := by decide +kernel
theorem dX12_look_7 : decode cX12_look 7 = .ok (.if_icmp .ge 60, 3) := by decide +kernel
theorem dX12_look_67 : decode cX12_look 67 = .ok (.iload_n 1, 1) := by decide +kernel
theorem dX12_look_68 : decode cX12_look 68 = .ok (.iconst 4, 1) := by decide +kernel
theorem dX12_look_69 : decode cX12_look 69 = .ok (.if_icmp .ne 10, 3) := by decide +kernel
theorem dX12_look_79 : decode cX12_look 79 = .ok (.iload_n 1, 1) := by decide +kernel
theorem dX12_look_80 : decode cX12_look 80 = .ok (.iconst 5, 1) := by decide +kernel
theorem dX12_look_81 : decode cX12_look 81 = .ok (.if_icmp .ne 10, 3) := by decide +kernel
theorem dX12_look_91 : decode cX12_look 91 = .ok (.iload_n 1, 1) := by decide +kernel
theorem dX12_look_92 : decode cX12_look 92 = .ok (.bipush 6, 2) := by decide +kernel
theorem dX12_look_94 : decode cX12_look 94 = .ok (.if_icmp .ne 10, 3) := by decide +kernel
theorem dX12_look_104 : decode cX12_look 104 = .ok (.iload_n 1, 1) := by decide +kernel
theorem dX12_look_105 : decode cX12_look 105 = .ok (.bipush 7, 2) := by decide +kernel
theorem dX12_look_107 : decode cX12_look 107 = .ok (.if_icmp .ne 10, 3) := by decide +kernel
theorem dX12_look_117 : decode cX12_look 117 = .ok (.iconst (-1), 1) := by decide +kernel
theorem dX12_look_118 : decode cX12_look 118 = .ok (.ireturn, 1) := by decide +kernel
theorem dX12_look_110 : decode cX12_look 110 = .ok (.aload_n 0, 1) := by decide +kernel
theorem dX12_look_111 : decode cX12_look 111 = .ok (.getfield 57, 3) := by decide +kernel
theorem dX12_look_114 : decode cX12_look 114 = .ok (.goto 4, 3) := by decide +kernel
theorem dX12_look_97 : decode cX12_look 97 = .ok (.aload_n 0, 1) := by decide +kernel
theorem dX12_look_98 : decode cX12_look 98 = .ok (.getfield 501, 3) := by decide +kernel
theorem dX12_look_101 : decode cX12_look 101 = .ok (.goto 17, 3) := by decide +kernel
theorem dX12_look_84 : decode cX12_look 84 = .ok (.aload_n 0, 1) := by decide +kernel
theorem dX12_look_85 : decode cX12_look 85 = .ok (.getfield 33, 3) := by decide +kernel
theorem dX12_look_88 : decode cX12_look 88 = .ok (.goto 30, 3) := by decide +kernel
theorem dX12_look_72 : decode cX12_look 72 = .ok (.aload_n 0, 1) := by decide +kernel
theorem dX12_look_73 : decode cX12_look 73 = .ok (.getfield 404, 3) := by decide +kernel
theorem dX12_look_76 : decode cX12_look 76 = .ok (.goto 42, 3) := by decide +kernel
theorem dX12_look_10 : decode cX12_look 10 = .ok (.iload_n 1, 1) := by decide +kernel
theorem dX12_look_11 : decode cX12_look 11 = .ok (.ifCond .ne 18, 3) := by decide +kernel
theorem dX12_look_29 : decode cX12_look 29 = .ok (.iload_n 1, 1) := by decide +kernel
theorem dX12_look_30 : decode cX12_look 30 = .ok (.iconst 1, 1) := by decide +kernel
theorem dX12_look_31 : decode cX12_look 31 = .ok (.if_icmp .ne 10, 3) := by decide +kernel
theorem dX12_look_41 : decode cX12_look 41 = .ok (.iload_n 1, 1) := by decide +kernel
theorem dX12_look_42 : decode cX12_look 42 = .ok (.iconst 2, 1) := by decide +kernel
theorem dX12_look_43 : decode cX12_look 43 = .ok (.if_icmp .ne 10, 3) := by decide +kernel
theorem dX12_look_53 : decode cX12_look 53 = .ok (.iload_n 1, 1) := by decide +kernel
theorem dX12_look_54 : decode cX12_look 54 = .ok (.iconst 3, 1) := by decide +kernel
theorem dX12_look_55 : decode cX12_look 55 = .ok (.if_icmp .ne 10, 3) := by decide +kernel
theorem dX12_look_65 : decode cX12_look 65 = .ok (.iconst (-1), 1) := by decide +kernel
theorem dX12_look_66 : decode cX12_look 66 = .ok (.ireturn, 1) := by decide +kernel
theorem dX12_look_58 : decode cX12_look 58 = .ok (.aload_n 0, 1) := by decide +kernel
theorem dX12_look_59 : decode cX12_look 59 = .ok (.getfield 308, 3) := by decide +kernel
theorem dX12_look_62 : decode cX12_look 62 = .ok (.goto 4, 3) := by decide +kernel
theorem dX12_look_46 : decode cX12_look 46 = .ok (.aload_n 0, 1) := by decide +kernel
theorem dX12_look_47 : decode cX12_look 47 = .ok (.getfield 165, 3) := by decide +kernel
theorem dX12_look_50 : decode cX12_look 50 = .ok (.goto 16, 3) := by decide +kernel
theorem dX12_look_34 : decode cX12_look 34 = .ok (.aload_n 0, 1) := by decide +kernel
theorem dX12_look_35 : decode cX12_look 35 = .ok (.getfield 7, 3) := by decide +kernel
theorem dX12_look_38 : decode cX12_look 38 = .ok (.goto 28, 3) := by decide +kernel
theorem dX12_look_14 : decode cX12_look 14 = .ok (.aload_n 0, 1) := by decide +kernel
theorem dX12_look_15 : decode cX12_look 15 = .ok (.getfield 168, 3) := by decide +kernel
theorem dX12_look_18 : decode cX12_look 18 = .ok (.ifCond .eq 7, 3) := by decide +kernel
theorem dX12_look_25 : decode cX12_look 25 = .ok (.iconst 0, 1) := by decide +kernel
theorem dX12_look_26 : decode cX12_look 26 = .ok (.goto 40, 3) := by decide +kernel
theorem dX12_look_21 : decode cX12_look 21 = .ok (.iconst 1, 1) := by decide +kernel
theorem dX12_look_22 : decode cX12_look 22 = .ok (.goto 44, 3) := by decide +kernel
theorem dX12_world_0 : decode cX12_world 0 = .ok (.aload_n 0, 1) := by decide +kernel
theorem dX12_world_1 : decode cX12_world 1 = .ok (.iconst 0, 1) := by decide +kernel
theorem dX12_world_2 : decode cX12_world 2 = .ok (.putfield 1, 3) := by decide +kernel
theorem dX12_world_5 : decode cX12_world 5 = .ok (.iload_n 1, 1) := by decide +kernel
theorem dX12_world_6 : decode cX12_world 6 = .ok (.ifCond .lt 30, 3) := by decide +kernel
theorem dX12_world_36 : decode cX12_world 36 = .ok (.dconst 0, 1) := by decide +kernel
theorem dX12_world_37 : decode cX12_world 37 = .ok (.goto 9, 3) := by decide +kernel
theorem dX12_world_46 : decode cX12_world 46 = .ok (.dreturn, 1) := by decide +kernel
theorem dX12_world_9 : decode cX12_world 9 = .ok (.iload_n 1, 1) := by decide +kernel
theorem dX12_world_10 : decode cX12_world 10 = .ok (.iconst 2, 1) := by decide +kernel
theorem dX12_world_11 : decode cX12_world 11 = .ok (.if_icmp .gt 25, 3) := by decide +kernel
theorem dX12_world_14 : decode cX12_world 14 = .ok (.aload_n 0, 1) := by decide +kernel
theorem dX12_world_15 : decode cX12_world 15 = .ok (.getfield 492, 3) := by decide +kernel
theorem dX12_world_18 : decode cX12_world 18 = .ok (.iload_n 1, 1) := by decide +kernel
theorem dX12_world_19 : decode cX12_world 19 = .ok (.ifCond .lt 8, 3) := by decide +kernel
theorem dX12_world_22 : decode cX12_world 22 = .ok (.iload_n 1, 1) := by decide +kernel
theorem dX12_world_23 : decode cX12_world 23 = .ok (.iconst 2, 1) := by decide +kernel
theorem dX12_world_24 : decode cX12_world 24 = .ok (.if_icmp .le 7, 3) := by decide +kernel
theorem dX12_world_31 : decode cX12_world 31 = .ok (.iload_n 1, 1) := by decide +kernel
theorem dX12_world_32 : decode cX12_world 32 = .ok (.iaload, 1) := by decide +kernel
theorem dX12_world_33 : decode cX12_world 33 = .ok (.ifCond .ge 7, 3) := by decide +kernel
theorem dX12_world_40 : decode cX12_world 40 = .ok (.aload_n 0, 1) := by decide +kernel
theorem dX12_world_41 : decode cX12_world 41 = .ok (.getfield 442, 3) := by decide +kernel
theorem dX12_world_44 : decode cX12_world 44 = .ok (.iload_n 1, 1) := by decide +kernel
theorem dX12_world_45 : decode cX12_world 45 = .ok (.daload, 1) := by decide +kernel
theorem dX12_tell_0 : decode cX12_tell 0 = .ok (.iconst 4, 1) := by decide +kernel
theorem dX12_tell_1 : decode cX12_tell 1 = .ok (.aload_n 0, 1) := by decide +kernel
theorem dX12_tell_2 : decode cX12_tell 2 = .ok (.getfield 501, 3) := by decide +kernel
theorem dX12_tell_5 : decode cX12_tell 5 = .ok (.bipush 64, 2) := by decide +kernel
theorem dX12_tell_7 : decode cX12_tell 7 = .ok (.irem, 1) := by decide +kernel
theorem dX12_tell_8 : decode cX12_tell 8 = .ok (.imul, 1) := by decide +kernel
theorem dX12_tell_9 : decode cX12_tell 9 = .ok (.istore 5, 2) := by decide +kernel
theorem dX12_tell_11 : decode cX12_tell 11 = .ok (.aload_n 0, 1) := by decide +kernel
theorem dX12_tell_12 : decode cX12_tell 12 = .ok (.getfield 489, 3) := by decide +kernel
theorem dX12_tell_15 : decode cX12_tell 15 = .ok (.iload 5, 2) := by decide +kernel
theorem dX12_tell_17 : decode cX12_tell 17 = .ok (.iload_n 1, 1) := by decide +kernel
theorem dX12_tell_18 : decode cX12_tell 18 = .ok (.iastore, 1) := by decide +kernel
theorem dX12_tell_19 : decode cX12_tell 19 = .ok (.aload_n 0, 1) := by decide +kernel
theorem dX12_tell_20 : decode cX12_tell 20 = .ok (.getfield 489, 3) := by decide +kernel
theorem dX12_tell_23 : decode cX12_tell 23 = .ok (.iload 5, 2) := by decide +kernel
theorem dX12_tell_25 : decode cX12_tell 25 = .ok (.iconst 1, 1) := by decide +kernel
theorem dX12_tell_26 : decode cX12_tell 26 = .ok (.iadd, 1) := by decide +kernel
theorem dX12_tell_27 : decode cX12_tell 27 = .ok (.iload_n 2, 1) := by decide +kernel
theorem dX12_tell_28 : decode cX12_tell 28 = .ok (.iastore, 1) := by decide +kernel
theorem dX12_tell_29 : decode cX12_tell 29 = .ok (.aload_n 0, 1) := by decide +kernel
theorem dX12_tell_30 : decode cX12_tell 30 = .ok (.getfield 489, 3) := by decide +kernel
theorem dX12_tell_33 : decode cX12_tell 33 = .ok (.iload 5, 2) := by decide +kernel
theorem dX12_tell_35 : decode cX12_tell 35 = .ok (.iconst 2, 1) := by decide +kernel
theorem dX12_tell_36 : decode cX12_tell 36 = .ok (.iadd, 1) := by decide +kernel
theorem dX12_tell_37 : decode cX12_tell 37 = .ok (.iload_n 3, 1) := by decide +kernel
theorem dX12_tell_38 : decode cX12_tell 38 = .ok (.iastore, 1) := by decide +kernel
theorem dX12_tell_39 : decode cX12_tell 39 = .ok (.aload_n 0, 1) := by decide +kernel
theorem dX12_tell_40 : decode cX12_tell 40 = .ok (.getfield 489, 3) := by decide +kernel
theorem dX12_tell_43 : decode cX12_tell 43 = .ok (.iload 5, 2) := by decide +kernel
theorem dX12_tell_45 : decode cX12_tell 45 = .ok (.iconst 3, 1) := by decide +kernel
theorem dX12_tell_46 : decode cX12_tell 46 = .ok (.iadd, 1) := by decide +kernel
theorem dX12_tell_47 : decode cX12_tell 47 = .ok (.iload 4, 2) := by decide +kernel
theorem dX12_tell_49 : decode cX12_tell 49 = .ok (.iastore, 1) := by decide +kernel
theorem dX12_tell_50 : decode cX12_tell 50 = .ok (.aload_n 0, 1) := by decide +kernel
theorem dX12_tell_51 : decode cX12_tell 51 = .ok (.dup, 1) := by decide +kernel
theorem dX12_tell_52 : decode cX12_tell 52 = .ok (.getfield 501, 3) := by decide +kernel
theorem dX12_tell_55 : decode cX12_tell 55 = .ok (.iconst 1, 1) := by decide +kernel
theorem dX12_tell_56 : decode cX12_tell 56 = .ok (.iadd, 1) := by decide +kernel
theorem dX12_tell_57 : decode cX12_tell 57 = .ok (.putfield 501, 3) := by decide +kernel
theorem dX12_tell_60 : decode cX12_tell 60 = .ok (.return_, 1) := by decide +kernel
theorem dX12_at_0 : decode cX12_at 0 = .ok (.iload_n 1, 1) := by decide +kernel
theorem dX12_at_1 : decode cX12_at 1 = .ok (.aload_n 0, 1) := by decide +kernel
theorem dX12_at_2 : decode cX12_at 2 = .ok (.getfield 16, 3) := by decide +kernel
theorem dX12_at_5 : decode cX12_at 5 = .ok (.if_icmp .ge 12, 3) := by decide +kernel
theorem dX12_at_17 : decode cX12_at 17 = .ok (.bipush 10, 2) := by decide +kernel
theorem dX12_at_19 : decode cX12_at 19 = .ok (.ireturn, 1) := by decide +kernel
theorem dX12_at_8 : decode cX12_at 8 = .ok (.aload_n 0, 1) := by decide +kernel
theorem dX12_at_9 : decode cX12_at 9 = .ok (.getfield 19, 3) := by decide +kernel
theorem dX12_at_12 : decode cX12_at 12 = .ok (.iload_n 1, 1) := by decide +kernel
theorem dX12_at_13 : decode cX12_at 13 = .ok (.caload, 1) := by decide +kernel
theorem dX12_at_14 : decode cX12_at 14 = .ok (.goto 5, 3) := by decide +kernel
theorem gw_X12_throwsNow : wsX12_throwsNow.all goodWord = true := by decide +kernel
theorem gX12_busy_X12_throwsNow : GoodIn wsX12_busy (wsV RX12 171 RX12 yX12_throwsNow wsX12_throwsNow) := goodIn_app (goodIn_sub (List.forall_mem_cons.mpr ⟨(List.mem_cons_of_mem _ (List.mem_append_left _ lm1)), List.forall_mem_cons.mpr ⟨(List.mem_cons_of_mem _ (List.mem_append_left _ lm2)), List.forall_mem_cons.mpr ⟨(List.mem_cons_of_mem _ (List.mem_append_left _ lm3)), List.forall_mem_cons.mpr ⟨(List.mem_cons_of_mem _ (List.mem_append_left _ lm4)), (fun _ h => absurd h List.not_mem_nil)⟩⟩⟩⟩) (by decide +kernel)) (goodIn_sub (by unfold wsX12_throwsNow; exact List.forall_mem_cons.mpr ⟨(List.mem_cons_of_mem _ (List.mem_append_left _ lm5)), List.forall_mem_append.mpr ⟨List.forall_mem_cons.mpr ⟨(List.mem_cons_of_mem _ (List.mem_append_left _ lm6)), (fun _ h => absurd h List.not_mem_nil)⟩, (fun _ h => (List.mem_cons_of_mem _ (List.mem_append_right _ h)))⟩⟩) gw_X12_throwsNow)
set_option maxHeartbeats 2000000 in
set_option maxRecDepth 100000 in
theorem m_throwsNow (l : Launch) (D : va_G) (g : Nat → Nat) (ka : Nat → ClassId) (ad : Nat → Nat) (i : Nat → Nat → Int32) (r : Nat → Nat → Nat) (L : Nat → Nat → Int64) (d : Nat → Nat → UInt64) (x : Int32) (hO : OkI i) (hR : RS r) (sz : Nat) (hx0 : 0 ≤ x.toInt) (hx1 : x.toInt ≤ 3) : Met l yX12_throwsNow wsX12_throwsNow ({ frames := 0, cells := 0, slots := 0, locals := 0 }) (va_Pc [.ref (g 36), .int x] (sj_B D (hwc g ka i r L d) (hT ka) sz (gx ad (va_A (hwc g ka i r L d) sz)))) (sj_Qi (S := (Nat → Nat → Int32)) D (fun v u => OkI u ∧ (∀ a b, ¬ ((a = 36 ∧ (b = 0))) → u a b = i a b) ∧ ((0 : Int) ≤ v.toInt ∧ v.toInt ≤ 1) ∧ ((0 < x.toInt ∧ v.toInt = 1) ∨ (x.toInt ≤ 0 ∧ v.toInt = 0))) (fun u => hwc g ka u r L d) (fun _ => []) (va_A (hwc g ka i r L d) sz)) 0 0 (va_A (hwc g ka i r L d) sz) := by
  refine x_met (Ex := gx ad) (cc := cX12_throwsNow) (maxL := 2) (ret := (some .boolean)) (by decide) rfl (Nat.le_of_ble_eq_true rfl) ?_
  intro p e s m below meth c A ls hx hb hr hml hts hown hlocks hA hS hH hK hE hl
  have hown : s.vm.findClass RX12 = some m.cls := hown
  have in12 : ∀ w ∈ wsX120, w ∈ wsX12_throwsNow := (fun _ h => (List.mem_cons_of_mem _ (List.mem_append_right _ h)))
  have wd0 := hts (.fieldLink RX12 1 "StoryDeskModel" "thrown" "I") (List.mem_cons_of_mem _ (List.mem_append_left _ lm0))
  have hl : lv_has ls 2 [(0, .ref (g 36)), (1, .int x)] := hl
  have hK : va_K D vwCl (hT ka) s := hK
  refine lv_aload_n hx hb dX12_throwsNow_0 rfl (lv_at hl 0 rfl) ?_
  refine lv_iload_n hx hb dX12_throwsNow_1 rfl (lv_at hl 1 rfl) ?_
  have hO_1 := okp hO (n := 36) (k := 0) (v := x) (show (0 : Int) ≤ (x : Int32).toInt ∧ (x : Int32).toInt ≤ 3 from ⟨by omega, by omega⟩)
  refine h_puti (ty := .int) (ci := 12) (C := RX12) (F := TX12) (N := 86) hx hb hts in12 tyX12 tyX12_ok nmX12 hown hK hH hS (by decide) (rfl : kd 36 = 12) (by decide) rfl 0 (by decide) wd0 (fun _ h9 => h9) rfl (by decide +kernel) rfl rfl (by decide) rfl dX12_throwsNow_2 (fun H locs hH hS => ?_)
  refine lv_iload_n hx hb dX12_throwsNow_5 rfl (lv_at hl 1 rfl) ?_
  refine lv_if_le (tgt := 13) hx hb dX12_throwsNow_6 (by decide) (fun c_2 => ?_) (fun c_2 => ?_)
  · skip
    have h_3 := s_le (rfl : x.toInt = _) (show (0 : Int32).toInt = 0 from rfl) c_2
    refine lv_iconst (v := 0) hx hb dX12_throwsNow_13 (by decide) ?_
    have hlv_4 : (0 : Int32).toInt = 0 := rfl
    exact sj_zret hx hb hr hlocks (by decide +kernel) hS (up2 i 36 0 x) ⟨hO_1, (fun a b ha => (up2_o _ _ (by omega))), ⟨by decide, by decide⟩, (by omega)⟩ hH (sj_Knil hK) (Nat.le_of_ble_eq_true rfl) (Nat.le_of_ble_eq_true rfl) dX12_throwsNow_14
  · skip
    have h_5 := s_nle (rfl : x.toInt = _) (show (0 : Int32).toInt = 0 from rfl) c_2
    refine lv_iconst (v := 1) hx hb dX12_throwsNow_9 (by decide) ?_
    refine lv_goto (tgt := 14) hx hb dX12_throwsNow_10 (by decide) ?_
    have hlv_6 : (1 : Int32).toInt = 1 := rfl
    exact sj_zret hx hb hr hlocks (by decide +kernel) hS (up2 i 36 0 x) ⟨hO_1, (fun a b ha => (up2_o _ _ (by omega))), ⟨by decide, by decide⟩, (by omega)⟩ hH (sj_Knil hK) (Nat.le_of_ble_eq_true rfl) (Nat.le_of_ble_eq_true rfl) dX12_throwsNow_14
set_option maxHeartbeats 2000000 in
set_option maxRecDepth 100000 in
theorem m_busy (l : Launch) (D : va_G) (g : Nat → Nat) (ka : Nat → ClassId) (ad : Nat → Nat) (i : Nat → Nat → Int32) (r : Nat → Nat → Nat) (L : Nat → Nat → Int64) (d : Nat → Nat → UInt64)  (hO : OkI i) (hR : RS r) (sz : Nat)  : Met l yX12_busy wsX12_busy ({ frames := 1, cells := 0, slots := 0, locals := 21 }) (va_Pc [.ref (g 36)] (sj_B D (hwc g ka i r L d) (hT ka) sz (gx ad (va_A (hwc g ka i r L d) sz)))) (sj_Qi (S := (Nat → Nat → Int32)) D (fun v u => OkI u ∧ (∀ a b, ¬ ((a = 36 ∧ (b = 0))) → u a b = i a b) ∧ ((0 : Int) ≤ v.toInt ∧ v.toInt ≤ 1) ∧ (v.toInt = (i 36 76).toInt)) (fun u => hwc g ka u r L d) (fun _ => []) (va_A (hwc g ka i r L d) sz)) 0 0 (va_A (hwc g ka i r L d) sz) := by
  refine x_met (Ex := gx ad) (cc := cX12_busy) (maxL := 1) (ret := (some .boolean)) (by decide) rfl (Nat.le_of_ble_eq_true rfl) ?_
  intro p e s m below meth c A ls hx hb hr hml hts hown hlocks hA hS hH hK hE hl
  have hown : s.vm.findClass RX12 = some m.cls := hown
  have in12 : ∀ w ∈ wsX120, w ∈ wsX12_busy := (fun _ h => (List.mem_cons_of_mem _ (List.mem_append_right _ h)))
  have wd0 := hts (.fieldLink RX12 168 "StoryDeskModel" "running" "Z") (List.mem_cons_of_mem _ (List.mem_append_left _ lm0))
  have hl : lv_has ls 1 [(0, .ref (g 36))] := hl
  have hK : va_K D vwCl (hT ka) s := hK
  refine lv_aload_n hx hb dX12_busy_0 rfl (lv_at hl 0 rfl) ?_
  refine lv_aload_n hx hb dX12_busy_1 rfl (lv_at hl 0 rfl) ?_
  have bx_1 : (0 : Int) ≤ (i 36 76).toInt ∧ (i 36 76).toInt ≤ 1 := hO 36 76
  refine h_geti (ci := 12) (C := RX12) (F := TX12) (N := 86) hx hb hts in12 hown hK hH (by decide) (rfl : kd 36 = 12) (by decide) rfl 76 (by decide) wd0 (fun _ h9 => h9) (by decide) rfl dX12_busy_2 ?_
  refine lv_if_eq (tgt := 12) hx hb dX12_busy_5 (by decide) (fun c_2 => ?_) (fun c_2 => ?_)
  · skip
    have h_3 := s_eq (rfl : (i 36 76).toInt = _) (show (0 : Int32).toInt = 0 from rfl) c_2
    refine lv_iconst (v := 0) hx hb dX12_busy_12 (by decide) ?_
    have hl_4 : (0 : Int32).toInt = 0 := rfl
    refine x_calli (va_runV (As := [.int 0]) (rest := []) ⟨hx, hb, hml, hown, hts⟩ (m_throwsNow l D g ka ad i r L d 0 hO hR s.heap.size (by first | omega | decide) (by first | omega | decide)) (cwV 1 hts gX12_busy_X12_throwsNow rfl rfl rfl (by decide +kernel) ⟨(Nat.le_of_ble_eq_true rfl), (Nat.le_of_ble_eq_true rfl)⟩) (x_preV (q := (RX12, TX12, 86)) hH hK (q_obj (by decide) (rfl : kd 36 = 12) (by decide)) rfl gxb (gxw hE hS (x_F hH hS hA))) rfl rfl hl.1 rfl (lv_room (Nat.le_of_ble_eq_true rfl)) dX12_busy_13 ⟨(Nat.le_of_ble_eq_true rfl), (Nat.le_of_ble_eq_true rfl)⟩) hH hS hA rfl rfl (fun r_5 im_7 H locs hw_6 hH hS => ?_)
    have hH : sj_H D A (hwc g ka im_7 r L d) H := hH
    obtain ⟨hO_9, hfr_8, hr_10, he_11⟩ := hw_6
    have hr_10 : (0 : Int) ≤ r_5.toInt ∧ r_5.toInt ≤ 1 := hr_10
    exact sj_zret hx hb hr hlocks (s_nz ⟨by omega, by omega⟩) hS im_7 ⟨hO_9, (fun a b ha => (hfr_8 a b (by omega))), ⟨by omega, by omega⟩, (by omega)⟩ hH (sj_Knil hK) (Nat.le_of_ble_eq_true rfl) (Nat.le_of_ble_eq_true rfl) dX12_busy_16
  · skip
    have h_12 := s_ne (rfl : (i 36 76).toInt = _) (show (0 : Int32).toInt = 0 from rfl) c_2
    refine lv_iconst (v := 1) hx hb dX12_busy_8 (by decide) ?_
    refine lv_goto (tgt := 13) hx hb dX12_busy_9 (by decide) ?_
    have hl_13 : (1 : Int32).toInt = 1 := rfl
    refine x_calli (va_runV (As := [.int 1]) (rest := []) ⟨hx, hb, hml, hown, hts⟩ (m_throwsNow l D g ka ad i r L d 1 hO hR s.heap.size (by first | omega | decide) (by first | omega | decide)) (cwV 1 hts gX12_busy_X12_throwsNow rfl rfl rfl (by decide +kernel) ⟨(Nat.le_of_ble_eq_true rfl), (Nat.le_of_ble_eq_true rfl)⟩) (x_preV (q := (RX12, TX12, 86)) hH hK (q_obj (by decide) (rfl : kd 36 = 12) (by decide)) rfl gxb (gxw hE hS (x_F hH hS hA))) rfl rfl hl.1 rfl (lv_room (Nat.le_of_ble_eq_true rfl)) dX12_busy_13 ⟨(Nat.le_of_ble_eq_true rfl), (Nat.le_of_ble_eq_true rfl)⟩) hH hS hA rfl rfl (fun r_14 im_16 H locs hw_15 hH hS => ?_)
    have hH : sj_H D A (hwc g ka im_16 r L d) H := hH
    obtain ⟨hO_18, hfr_17, hr_19, he_20⟩ := hw_15
    have hr_19 : (0 : Int) ≤ r_14.toInt ∧ r_14.toInt ≤ 1 := hr_19
    exact sj_zret hx hb hr hlocks (s_nz ⟨by omega, by omega⟩) hS im_16 ⟨hO_18, (fun a b ha => (hfr_17 a b (by omega))), ⟨by omega, by omega⟩, (by omega)⟩ hH (sj_Knil hK) (Nat.le_of_ble_eq_true rfl) (Nat.le_of_ble_eq_true rfl) dX12_busy_16
set_option maxHeartbeats 2000000 in
set_option maxRecDepth 100000 in
theorem m_command (l : Launch) (D : va_G) (g : Nat → Nat) (ka : Nat → ClassId) (ad : Nat → Nat) (i : Nat → Nat → Int32) (r : Nat → Nat → Nat) (L : Nat → Nat → Int64) (d : Nat → Nat → UInt64) (x : Int32) (y : Int32) (z : Int32) (hO : OkI i) (hR : RS r) (sz : Nat)  : Met l yX12_command wsX12_command ({ frames := 0, cells := 0, slots := 0, locals := 0 }) (va_Pc [.ref (g 36), .int x, .int y, .int z] (sj_B D (hwc g ka i r L d) (hT ka) sz (gx ad (va_A (hwc g ka i r L d) sz)))) (sj_Qi (S := (Nat → Nat → Int32)) D (fun v u => OkI u ∧ (∀ a b, ¬ ((a = 36 ∧ (b = 0)) ∨ a = 422 ∨ a = 423 ∨ a = 424) → u a b = i a b) ∧ ((0 : Int) ≤ v.toInt ∧ v.toInt ≤ 1)) (fun u => hwc g ka u r L d) (fun _ => []) (va_A (hwc g ka i r L d) sz)) 0 0 (va_A (hwc g ka i r L d) sz) := by
  refine x_met (Ex := gx ad) (cc := cX12_command) (maxL := 5) (ret := (some .boolean)) (by decide) rfl (Nat.le_of_ble_eq_true rfl) ?_
  intro p e s m below meth c A ls hx hb hr hml hts hown hlocks hA hS hH hK hE hl
  have hown : s.vm.findClass RX12 = some m.cls := hown
  have in12 : ∀ w ∈ wsX120, w ∈ wsX12_command := (fun _ h => (List.mem_cons_of_mem _ (List.mem_append_right _ h)))
  have wd0 := hts (.fieldLink RX12 1 "StoryDeskModel" "thrown" "I") (List.mem_cons_of_mem _ (List.mem_append_left _ lm0))
  have wd1 := hts (.fieldLink RX12 168 "StoryDeskModel" "running" "Z") (List.mem_cons_of_mem _ (List.mem_append_left _ lm1))
  have wd2 := hts (.fieldLink RX12 424 "StoryDeskModel" "scripted" "[I") (List.mem_cons_of_mem _ (List.mem_append_left _ lm2))
  have wd3 := hts (.fieldLink RX12 427 "StoryDeskModel" "commands" "[I") (List.mem_cons_of_mem _ (List.mem_append_left _ lm3))
  have wd4 := hts (.fieldLink RX12 430 "StoryDeskModel" "numbers" "[I") (List.mem_cons_of_mem _ (List.mem_append_left _ lm4))
  have hl : lv_has ls 5 [(0, .ref (g 36)), (1, .int x), (2, .int y), (3, .int z)] := hl
  have hK : va_K D vwCl (hT ka) s := hK
  have hg_1 := s_rng x
  have hg_2 := s_rng y
  have hg_3 := s_rng z
  refine lv_aload_n hx hb dX12_command_0 rfl (lv_at hl 0 rfl) ?_
  refine lv_iconst (v := 0) hx hb dX12_command_1 (by decide) ?_
  have hO_4 := okp hO (n := 36) (k := 0) (v := 0) (show (0 : Int) ≤ (0 : Int32).toInt ∧ (0 : Int32).toInt ≤ 3 from ⟨by decide, by decide⟩)
  refine h_puti (ty := .int) (ci := 12) (C := RX12) (F := TX12) (N := 86) hx hb hts in12 tyX12 tyX12_ok nmX12 hown hK hH hS (by decide) (rfl : kd 36 = 12) (by decide) rfl 0 (by decide) wd0 (fun _ h9 => h9) rfl (by decide +kernel) rfl rfl (by decide) rfl dX12_command_2 (fun H locs hH hS => ?_)
  refine lv_aload_n hx hb dX12_command_5 rfl (lv_at hl 0 rfl) ?_
  have bx_5 : (0 : Int) ≤ (i 36 76).toInt ∧ (i 36 76).toInt ≤ 1 := hO 36 76
  refine h_geti (ci := 12) (C := RX12) (F := TX12) (N := 86) hx hb hts in12 hown hK hH (by decide) (rfl : kd 36 = 12) (by decide) rfl 76 (by decide) wd1 (fun _ h9 => h9) (by decide) rfl dX12_command_6 ?_
  refine sj_i (y := (i 36 76)) (up2_k _ _ (by decide)) ?_
  refine lv_if_ne (tgt := 42) hx hb dX12_command_9 (by decide) (fun c_6 => ?_) (fun c_6 => ?_)
  · skip
    have h_7 := s_ne (rfl : (i 36 76).toInt = _) (show (0 : Int32).toInt = 0 from rfl) c_6
    refine lv_iconst (v := 0) hx hb dX12_command_42 (by decide) ?_
    exact sj_zret hx hb hr hlocks (by decide +kernel) hS (up2 i 36 0 0) ⟨hO_4, (fun a b ha => (up2_o _ _ (by omega))), ⟨by decide, by decide⟩⟩ hH (sj_Knil hK) (Nat.le_of_ble_eq_true rfl) (Nat.le_of_ble_eq_true rfl) dX12_command_43
  · skip
    have h_8 := s_eq (rfl : (i 36 76).toInt = _) (show (0 : Int32).toInt = 0 from rfl) c_6
    refine lv_iload_n hx hb dX12_command_12 rfl (lv_at hl 1 rfl) ?_
    refine lv_if_lt (tgt := 42) hx hb dX12_command_13 (by decide) (fun c_9 => ?_) (fun c_9 => ?_)
    · skip
      have h_10 := s_lt (rfl : x.toInt = _) (show (0 : Int32).toInt = 0 from rfl) c_9
      refine lv_iconst (v := 0) hx hb dX12_command_42 (by decide) ?_
      exact sj_zret hx hb hr hlocks (by decide +kernel) hS (up2 i 36 0 0) ⟨hO_4, (fun a b ha => (up2_o _ _ (by omega))), ⟨by decide, by decide⟩⟩ hH (sj_Knil hK) (Nat.le_of_ble_eq_true rfl) (Nat.le_of_ble_eq_true rfl) dX12_command_43
    · skip
      have h_11 := s_nlt (rfl : x.toInt = _) (show (0 : Int32).toInt = 0 from rfl) c_9
      refine lv_iload_n hx hb dX12_command_16 rfl (lv_at hl 1 rfl) ?_
      refine lv_bipush (v := 7) hx hb dX12_command_17 (by decide) ?_
      refine lv_icmp_gt (tgt := 42) hx hb dX12_command_19 (by decide) (fun c_12 => ?_) (fun c_12 => ?_)
      · skip
        have h_13 := s_lt (show (7 : Int32).toInt = 7 from rfl) (rfl : x.toInt = _) c_12
        refine lv_iconst (v := 0) hx hb dX12_command_42 (by decide) ?_
        exact sj_zret hx hb hr hlocks (by decide +kernel) hS (up2 i 36 0 0) ⟨hO_4, (fun a b ha => (up2_o _ _ (by omega))), ⟨by decide, by decide⟩⟩ hH (sj_Knil hK) (Nat.le_of_ble_eq_true rfl) (Nat.le_of_ble_eq_true rfl) dX12_command_43
      · skip
        have h_14 := s_nlt (show (7 : Int32).toInt = 7 from rfl) (rfl : x.toInt = _) c_12
        refine lv_iload_n hx hb dX12_command_22 rfl (lv_at hl 2 rfl) ?_
        refine lv_if_lt (tgt := 42) hx hb dX12_command_23 (by decide) (fun c_15 => ?_) (fun c_15 => ?_)
        · skip
          have h_16 := s_lt (rfl : y.toInt = _) (show (0 : Int32).toInt = 0 from rfl) c_15
          refine lv_iconst (v := 0) hx hb dX12_command_42 (by decide) ?_
          exact sj_zret hx hb hr hlocks (by decide +kernel) hS (up2 i 36 0 0) ⟨hO_4, (fun a b ha => (up2_o _ _ (by omega))), ⟨by decide, by decide⟩⟩ hH (sj_Knil hK) (Nat.le_of_ble_eq_true rfl) (Nat.le_of_ble_eq_true rfl) dX12_command_43
        · skip
          have h_17 := s_nlt (rfl : y.toInt = _) (show (0 : Int32).toInt = 0 from rfl) c_15
          refine lv_iload_n hx hb dX12_command_26 rfl (lv_at hl 2 rfl) ?_
          refine lv_bipush (v := 8) hx hb dX12_command_27 (by decide) ?_
          refine lv_icmp_gt (tgt := 42) hx hb dX12_command_29 (by decide) (fun c_18 => ?_) (fun c_18 => ?_)
          · skip
            have h_19 := s_lt (show (8 : Int32).toInt = 8 from rfl) (rfl : y.toInt = _) c_18
            refine lv_iconst (v := 0) hx hb dX12_command_42 (by decide) ?_
            exact sj_zret hx hb hr hlocks (by decide +kernel) hS (up2 i 36 0 0) ⟨hO_4, (fun a b ha => (up2_o _ _ (by omega))), ⟨by decide, by decide⟩⟩ hH (sj_Knil hK) (Nat.le_of_ble_eq_true rfl) (Nat.le_of_ble_eq_true rfl) dX12_command_43
          · skip
            have h_20 := s_nlt (show (8 : Int32).toInt = 8 from rfl) (rfl : y.toInt = _) c_18
            refine lv_aload_n hx hb dX12_command_32 rfl (lv_at hl 0 rfl) ?_
            refine h_getr (ci := 12) (C := RX12) (F := TX12) (N := 86) hx hb hts in12 hown hK hH (by decide) (rfl : kd 36 = 12) (by decide) rfl 72 (by decide) wd2 (fun _ h9 => h9) (by decide) rfl (t := 424) (hR 36 72 rfl) (by decide) dX12_command_33 ?_
            refine lv_iload_n hx hb dX12_command_36 rfl (lv_at hl 1 rfl) ?_
            have bx_21 : (0 : Int) ≤ (i 424 (x.toInt).toNat).toInt ∧ (i 424 (x.toInt).toNat).toInt ≤ 4 := hO 424 (x.toInt).toNat
            refine h_iald hx hb hK hH (by decide) (rfl : kd 424 = 13) (s_vin (N := 8) (rfl : x.toInt = _) (rfl : ln 424 = 8) (by omega) (by omega)) dX12_command_37 ?_
            have ek_22 : x.toNatClampNeg = (x.toInt).toNat := (s_cl (show x.toInt = x.toInt by omega))
            refine sj_i (y := (i 424 (x.toInt).toNat)) (by rw [ek_22]; exact (congrFun (up2_n _ _ (by decide)) _)) ?_
            refine lv_iconst (v := 4) hx hb dX12_command_38 (by decide) ?_
            refine lv_icmp_ne (tgt := 44) hx hb dX12_command_39 (by decide) (fun c_23 => ?_) (fun c_23 => ?_)
            · skip
              have h_24 := s_ne (rfl : (i 424 (x.toInt).toNat).toInt = _) (show (4 : Int32).toInt = 4 from rfl) c_23
              refine lv_iconst (v := 4) hx hb dX12_command_44 (by decide) ?_
              refine lv_iload_n hx hb dX12_command_45 rfl (lv_at hl 1 rfl) ?_
              refine lv_imul hx hb dX12_command_46 ?_
              obtain ⟨z_25, ez_25, hz_25⟩ := s_mul (show (4 : Int32).toInt = 4 from rfl) (rfl : x.toInt = _) (by omega) (by omega)
              refine sj_i ez_25 ?_
              refine lv_aload_n hx hb dX12_command_47 rfl (lv_at hl 0 rfl) ?_
              refine h_getr (ci := 12) (C := RX12) (F := TX12) (N := 86) hx hb hts in12 hown hK hH (by decide) (rfl : kd 36 = 12) (by decide) rfl 72 (by decide) wd2 (fun _ h9 => h9) (by decide) rfl (t := 424) (hR 36 72 rfl) (by decide) dX12_command_48 ?_
              refine lv_iload_n hx hb dX12_command_51 rfl (lv_at hl 1 rfl) ?_
              refine h_iald hx hb hK hH (by decide) (rfl : kd 424 = 13) (s_vin (N := 8) (rfl : x.toInt = _) (rfl : ln 424 = 8) (by omega) (by omega)) dX12_command_52 ?_
              have ek_26 : x.toNatClampNeg = (x.toInt).toNat := (s_cl (show x.toInt = x.toInt by omega))
              refine sj_i (y := (i 424 (x.toInt).toNat)) (by rw [ek_26]; exact (congrFun (up2_n _ _ (by decide)) _)) ?_
              refine lv_iadd hx hb dX12_command_53 ?_
              obtain ⟨z_27, ez_27, hz_27⟩ := s_add (rfl : z_25.toInt = _) (rfl : (i 424 (x.toInt).toNat).toInt = _) (by omega) (by omega)
              refine sj_i ez_27 ?_
              refine lv_istore (lv' := [(4, .int z_27), (0, .ref (g 36)), (1, .int x), (2, .int y), (3, .int z)]) hx hb dX12_command_54 hl (by decide) rfl (fun ls hl => ?_)
              refine lv_aload_n hx hb dX12_command_56 rfl (lv_at hl 1 rfl) ?_
              refine h_getr (ci := 12) (C := RX12) (F := TX12) (N := 86) hx hb hts in12 hown hK hH (by decide) (rfl : kd 36 = 12) (by decide) rfl 70 (by decide) wd3 (fun _ h9 => h9) (by decide) rfl (t := 422) (hR 36 70 rfl) (by decide) dX12_command_57 ?_
              refine lv_iload hx hb dX12_command_60 (lv_at hl 0 rfl) ?_
              refine lv_iload_n hx hb dX12_command_62 rfl (lv_at hl 3 rfl) ?_
              have hO_28 := okp hO_4 (n := 422) (k := ((i 424 (x.toInt).toNat).toInt + 4 * x.toInt).toNat) (v := y) (show (0 : Int) ≤ (y : Int32).toInt ∧ (y : Int32).toInt ≤ 8 from ⟨by omega, by omega⟩)
              refine h_iast hx hb hK hH hS (by decide) (rfl : kd 422 = 13) (s_vin (N := 32) (rfl : z_27.toInt = _) (rfl : ln 422 = 32) (by omega) (by omega)) dX12_command_63 (fun H locs hH hS => ?_)
              rw [s_cl (show z_27.toInt = (i 424 (x.toInt).toNat).toInt + 4 * x.toInt by omega)] at hH
              refine lv_aload_n hx hb dX12_command_64 rfl (lv_at hl 1 rfl) ?_
              refine h_getr (ci := 12) (C := RX12) (F := TX12) (N := 86) hx hb hts in12 hown hK hH (by decide) (rfl : kd 36 = 12) (by decide) rfl 71 (by decide) wd4 (fun _ h9 => h9) (by decide) rfl (t := 423) (hR 36 71 rfl) (by decide) dX12_command_65 ?_
              refine lv_iload hx hb dX12_command_68 (lv_at hl 0 rfl) ?_
              refine lv_iload_n hx hb dX12_command_70 rfl (lv_at hl 4 rfl) ?_
              have hO_29 := okp hO_28 (n := 423) (k := ((i 424 (x.toInt).toNat).toInt + 4 * x.toInt).toNat) (v := z) (show (-2147483648 : Int) ≤ (z : Int32).toInt ∧ (z : Int32).toInt ≤ 2147483647 from s_rng z)
              refine h_iast hx hb hK hH hS (by decide) (rfl : kd 423 = 13) (s_vin (N := 32) (rfl : z_27.toInt = _) (rfl : ln 423 = 32) (by omega) (by omega)) dX12_command_71 (fun H locs hH hS => ?_)
              rw [s_cl (show z_27.toInt = (i 424 (x.toInt).toNat).toInt + 4 * x.toInt by omega)] at hH
              refine lv_aload_n hx hb dX12_command_72 rfl (lv_at hl 1 rfl) ?_
              refine h_getr (ci := 12) (C := RX12) (F := TX12) (N := 86) hx hb hts in12 hown hK hH (by decide) (rfl : kd 36 = 12) (by decide) rfl 72 (by decide) wd2 (fun _ h9 => h9) (by decide) rfl (t := 424) (hR 36 72 rfl) (by decide) dX12_command_73 ?_
              refine lv_iload_n hx hb dX12_command_76 rfl (lv_at hl 2 rfl) ?_
              refine lv_dup2_11 hx hb dX12_command_77 rfl rfl ?_
              refine h_iald hx hb hK hH (by decide) (rfl : kd 424 = 13) (s_vin (N := 8) (rfl : x.toInt = _) (rfl : ln 424 = 8) (by omega) (by omega)) dX12_command_78 ?_
              have ek_30 : x.toNatClampNeg = (x.toInt).toNat := (s_cl (show x.toInt = x.toInt by omega))
              refine sj_i (y := (i 424 (x.toInt).toNat)) (by rw [ek_30]; exact ((congrFun (up2_n _ _ (by decide)) _).trans ((congrFun (up2_n _ _ (by decide)) _).trans (congrFun (up2_n _ _ (by decide)) _)))) ?_
              refine lv_iconst (v := 1) hx hb dX12_command_79 (by decide) ?_
              refine lv_iadd hx hb dX12_command_80 ?_
              obtain ⟨z_31, ez_31, hz_31⟩ := s_add (rfl : (i 424 (x.toInt).toNat).toInt = _) (show (1 : Int32).toInt = 1 from rfl) (by omega) (by omega)
              refine sj_i ez_31 ?_
              have hO_32 := okp hO_29 (n := 424) (k := (x.toInt).toNat) (v := z_31) (show (0 : Int) ≤ (z_31 : Int32).toInt ∧ (z_31 : Int32).toInt ≤ 4 from ⟨by omega, by omega⟩)
              refine h_iast hx hb hK hH hS (by decide) (rfl : kd 424 = 13) (s_vin (N := 8) (rfl : x.toInt = _) (rfl : ln 424 = 8) (by omega) (by omega)) dX12_command_81 (fun H locs hH hS => ?_)
              rw [s_cl (show x.toInt = x.toInt by omega)] at hH
              refine lv_iconst (v := 1) hx hb dX12_command_82 (by decide) ?_
              exact sj_zret hx hb hr hlocks (by decide +kernel) hS (up2 (up2 (up2 (up2 i 36 0 0) 422 ((i 424 (x.toInt).toNat).toInt + 4 * x.toInt).toNat y) 423 ((i 424 (x.toInt).toNat).toInt + 4 * x.toInt).toNat z) 424 (x.toInt).toNat z_31) ⟨hO_32, (fun a b ha => ((up2_o _ _ (by omega)).trans ((up2_o _ _ (by omega)).trans ((up2_o _ _ (by omega)).trans (up2_o _ _ (by omega)))))), ⟨by decide, by decide⟩⟩ hH (sj_Knil hK) (Nat.le_of_ble_eq_true rfl) (Nat.le_of_ble_eq_true rfl) dX12_command_83
            · skip
              have h_33 := s_eq (rfl : (i 424 (x.toInt).toNat).toInt = _) (show (4 : Int32).toInt = 4 from rfl) c_23
              refine lv_iconst (v := 0) hx hb dX12_command_42 (by decide) ?_
              exact sj_zret hx hb hr hlocks (by decide +kernel) hS (up2 i 36 0 0) ⟨hO_4, (fun a b ha => (up2_o _ _ (by omega))), ⟨by decide, by decide⟩⟩ hH (sj_Knil hK) (Nat.le_of_ble_eq_true rfl) (Nat.le_of_ble_eq_true rfl) dX12_command_43
set_option maxHeartbeats 2000000 in
set_option maxRecDepth 100000 in
theorem m_event (l : Launch) (D : va_G) (g : Nat → Nat) (ka : Nat → ClassId) (ad : Nat → Nat) (i : Nat → Nat → Int32) (r : Nat → Nat → Nat) (L : Nat → Nat → Int64) (d : Nat → Nat → UInt64) (x : Int32) (y : Int32) (hO : OkI i) (hR : RS r) (sz : Nat)  : Met l yX12_event wsX12_event ({ frames := 0, cells := 0, slots := 0, locals := 0 }) (va_Pc [.ref (g 36), .int x, .int y] (sj_B D (hwc g ka i r L d) (hT ka) sz (gx ad (va_A (hwc g ka i r L d) sz)))) (sj_Qi (S := (Nat → Nat → Int32)) D (fun v u => OkI u ∧ (∀ a b, ¬ ((a = 36 ∧ (b = 0))) → u a b = i a b)) (fun u => hwc g ka u r L d) (fun _ => []) (va_A (hwc g ka i r L d) sz)) 0 0 (va_A (hwc g ka i r L d) sz) := by
  refine x_met (Ex := gx ad) (cc := cX12_event) (maxL := 3) (ret := (some .int)) (by decide) rfl (Nat.le_of_ble_eq_true rfl) ?_
  intro p e s m below meth c A ls hx hb hr hml hts hown hlocks hA hS hH hK hE hl
  have hown : s.vm.findClass RX12 = some m.cls := hown
  have in12 : ∀ w ∈ wsX120, w ∈ wsX12_event := (fun _ h => (List.mem_cons_of_mem _ (List.mem_append_right _ h)))
  have wd0 := hts (.fieldLink RX12 1 "StoryDeskModel" "thrown" "I") (List.mem_cons_of_mem _ (List.mem_append_left _ lm0))
  have wd1 := hts (.fieldLink RX12 501 "StoryDeskModel" "told" "I") (List.mem_cons_of_mem _ (List.mem_append_left _ lm1))
  have wd2 := hts (.fieldLink RX12 489 "StoryDeskModel" "events" "[I") (List.mem_cons_of_mem _ (List.mem_append_left _ lm2))
  have hl : lv_has ls 3 [(0, .ref (g 36)), (1, .int x), (2, .int y)] := hl
  have hK : va_K D vwCl (hT ka) s := hK
  have hg_1 := s_rng x
  have hg_2 := s_rng y
  refine lv_aload_n hx hb dX12_event_0 rfl (lv_at hl 0 rfl) ?_
  refine lv_iconst (v := 0) hx hb dX12_event_1 (by decide) ?_
  have hO_3 := okp hO (n := 36) (k := 0) (v := 0) (show (0 : Int) ≤ (0 : Int32).toInt ∧ (0 : Int32).toInt ≤ 3 from ⟨by decide, by decide⟩)
  refine h_puti (ty := .int) (ci := 12) (C := RX12) (F := TX12) (N := 86) hx hb hts in12 tyX12 tyX12_ok nmX12 hown hK hH hS (by decide) (rfl : kd 36 = 12) (by decide) rfl 0 (by decide) wd0 (fun _ h9 => h9) rfl (by decide +kernel) rfl rfl (by decide) rfl dX12_event_2 (fun H locs hH hS => ?_)
  refine lv_iload_n hx hb dX12_event_5 rfl (lv_at hl 1 rfl) ?_
  refine lv_if_lt (tgt := 32) hx hb dX12_event_6 (by decide) (fun c_4 => ?_) (fun c_4 => ?_)
  · skip
    have h_5 := s_lt (rfl : x.toInt = _) (show (0 : Int32).toInt = 0 from rfl) c_4
    refine lv_iconst (v := (-1)) hx hb dX12_event_32 (by decide) ?_
    refine lv_goto (tgt := 56) hx hb dX12_event_33 (by decide) ?_
    exact sj_zret hx hb hr hlocks rfl hS (up2 i 36 0 0) ⟨hO_3, (fun a b ha => (up2_o _ _ (by omega)))⟩ hH (sj_Knil hK) (Nat.le_of_ble_eq_true rfl) (Nat.le_of_ble_eq_true rfl) dX12_event_56
  · skip
    have h_6 := s_nlt (rfl : x.toInt = _) (show (0 : Int32).toInt = 0 from rfl) c_4
    refine lv_iload_n hx hb dX12_event_9 rfl (lv_at hl 1 rfl) ?_
    refine lv_bipush (v := 63) hx hb dX12_event_10 (by decide) ?_
    refine lv_icmp_gt (tgt := 32) hx hb dX12_event_12 (by decide) (fun c_7 => ?_) (fun c_7 => ?_)
    · skip
      have h_8 := s_lt (show (63 : Int32).toInt = 63 from rfl) (rfl : x.toInt = _) c_7
      refine lv_iconst (v := (-1)) hx hb dX12_event_32 (by decide) ?_
      refine lv_goto (tgt := 56) hx hb dX12_event_33 (by decide) ?_
      exact sj_zret hx hb hr hlocks rfl hS (up2 i 36 0 0) ⟨hO_3, (fun a b ha => (up2_o _ _ (by omega)))⟩ hH (sj_Knil hK) (Nat.le_of_ble_eq_true rfl) (Nat.le_of_ble_eq_true rfl) dX12_event_56
    · skip
      have h_9 := s_nlt (show (63 : Int32).toInt = 63 from rfl) (rfl : x.toInt = _) c_7
      refine lv_iload_n hx hb dX12_event_15 rfl (lv_at hl 1 rfl) ?_
      refine lv_aload_n hx hb dX12_event_16 rfl (lv_at hl 0 rfl) ?_
      have bx_10 : (0 : Int) ≤ (i 36 81).toInt ∧ (i 36 81).toInt ≤ 2147483647 := hO 36 81
      refine h_geti (ci := 12) (C := RX12) (F := TX12) (N := 86) hx hb hts in12 hown hK hH (by decide) (rfl : kd 36 = 12) (by decide) rfl 81 (by decide) wd1 (fun _ h9 => h9) (by decide) rfl dX12_event_17 ?_
      refine sj_i (y := (i 36 81)) (up2_k _ _ (by decide)) ?_
      refine lv_icmp_ge (tgt := 32) hx hb dX12_event_20 (by decide) (fun c_11 => ?_) (fun c_11 => ?_)
      · skip
        have h_12 := s_le (rfl : (i 36 81).toInt = _) (rfl : x.toInt = _) c_11
        refine lv_iconst (v := (-1)) hx hb dX12_event_32 (by decide) ?_
        refine lv_goto (tgt := 56) hx hb dX12_event_33 (by decide) ?_
        exact sj_zret hx hb hr hlocks rfl hS (up2 i 36 0 0) ⟨hO_3, (fun a b ha => (up2_o _ _ (by omega)))⟩ hH (sj_Knil hK) (Nat.le_of_ble_eq_true rfl) (Nat.le_of_ble_eq_true rfl) dX12_event_56
      · skip
        have h_13 := s_nle (rfl : (i 36 81).toInt = _) (rfl : x.toInt = _) c_11
        refine lv_iload_n hx hb dX12_event_23 rfl (lv_at hl 2 rfl) ?_
        refine lv_if_lt (tgt := 32) hx hb dX12_event_24 (by decide) (fun c_14 => ?_) (fun c_14 => ?_)
        · skip
          have h_15 := s_lt (rfl : y.toInt = _) (show (0 : Int32).toInt = 0 from rfl) c_14
          refine lv_iconst (v := (-1)) hx hb dX12_event_32 (by decide) ?_
          refine lv_goto (tgt := 56) hx hb dX12_event_33 (by decide) ?_
          exact sj_zret hx hb hr hlocks rfl hS (up2 i 36 0 0) ⟨hO_3, (fun a b ha => (up2_o _ _ (by omega)))⟩ hH (sj_Knil hK) (Nat.le_of_ble_eq_true rfl) (Nat.le_of_ble_eq_true rfl) dX12_event_56
        · skip
          have h_16 := s_nlt (rfl : y.toInt = _) (show (0 : Int32).toInt = 0 from rfl) c_14
          refine lv_iload_n hx hb dX12_event_27 rfl (lv_at hl 2 rfl) ?_
          refine lv_iconst (v := 3) hx hb dX12_event_28 (by decide) ?_
          refine lv_icmp_le (tgt := 36) hx hb dX12_event_29 (by decide) (fun c_17 => ?_) (fun c_17 => ?_)
          · skip
            have h_18 := s_le (rfl : y.toInt = _) (show (3 : Int32).toInt = 3 from rfl) c_17
            refine lv_aload_n hx hb dX12_event_36 rfl (lv_at hl 0 rfl) ?_
            refine h_getr (ci := 12) (C := RX12) (F := TX12) (N := 86) hx hb hts in12 hown hK hH (by decide) (rfl : kd 36 = 12) (by decide) rfl 82 (by decide) wd2 (fun _ h9 => h9) (by decide) rfl (t := 426) (hR 36 82 rfl) (by decide) dX12_event_37 ?_
            refine lv_iconst (v := 4) hx hb dX12_event_40 (by decide) ?_
            refine lv_aload_n hx hb dX12_event_41 rfl (lv_at hl 0 rfl) ?_
            refine h_geti (ci := 12) (C := RX12) (F := TX12) (N := 86) hx hb hts in12 hown hK hH (by decide) (rfl : kd 36 = 12) (by decide) rfl 81 (by decide) wd1 (fun _ h9 => h9) (by decide) rfl dX12_event_42 ?_
            refine sj_i (y := (i 36 81)) (up2_k _ _ (by decide)) ?_
            refine lv_iconst (v := 1) hx hb dX12_event_45 (by decide) ?_
            refine lv_isub hx hb dX12_event_46 ?_
            obtain ⟨z_19, ez_19, hz_19⟩ := s_sub (rfl : (i 36 81).toInt = _) (show (1 : Int32).toInt = 1 from rfl) (by omega) (by omega)
            refine sj_i ez_19 ?_
            refine lv_iload_n hx hb dX12_event_47 rfl (lv_at hl 1 rfl) ?_
            refine lv_isub hx hb dX12_event_48 ?_
            obtain ⟨z_20, ez_20, hz_20⟩ := s_sub (rfl : z_19.toInt = _) (rfl : x.toInt = _) (by omega) (by omega)
            refine sj_i ez_20 ?_
            refine lv_bipush (v := 64) hx hb dX12_event_49 (by decide) ?_
            refine lv_irem hx hb dX12_event_51 (by decide) ?_
            obtain ⟨z_21, ez_21, hz_21⟩ := s_rem2 (rfl : z_20.toInt = _) (show (64 : Int32).toInt = 64 from rfl) (by omega) (by omega)
            refine sj_i ez_21 ?_
            refine lv_imul hx hb dX12_event_52 ?_
            obtain ⟨z_22, ez_22, hz_22⟩ := s_mul (show (4 : Int32).toInt = 4 from rfl) (rfl : z_21.toInt = _) (by omega) (by omega)
            refine sj_i ez_22 ?_
            refine lv_iload_n hx hb dX12_event_53 rfl (lv_at hl 2 rfl) ?_
            refine lv_iadd hx hb dX12_event_54 ?_
            obtain ⟨z_23, ez_23, hz_23⟩ := s_add (rfl : z_22.toInt = _) (rfl : y.toInt = _) (by omega) (by omega)
            refine sj_i ez_23 ?_
            refine h_iald hx hb hK hH (by decide) (rfl : kd 426 = 13) (s_vin (N := 256) (rfl : z_23.toInt = _) (rfl : ln 426 = 256) (by omega) (by omega)) dX12_event_55 ?_
            have ek_24 : z_23.toNatClampNeg = (y.toInt + 4 * z_21.toInt).toNat := (s_cl (show z_23.toInt = y.toInt + 4 * z_21.toInt by omega))
            refine sj_i (y := (i 426 (y.toInt + 4 * z_21.toInt).toNat)) (by rw [ek_24]; exact (congrFun (up2_n _ _ (by decide)) _)) ?_
            exact sj_zret hx hb hr hlocks rfl hS (up2 i 36 0 0) ⟨hO_3, (fun a b ha => (up2_o _ _ (by omega)))⟩ hH (sj_Knil hK) (Nat.le_of_ble_eq_true rfl) (Nat.le_of_ble_eq_true rfl) dX12_event_56
          · skip
            have h_25 := s_nle (rfl : y.toInt = _) (show (3 : Int32).toInt = 3 from rfl) c_17
            refine lv_iconst (v := (-1)) hx hb dX12_event_32 (by decide) ?_
            refine lv_goto (tgt := 56) hx hb dX12_event_33 (by decide) ?_
            exact sj_zret hx hb hr hlocks rfl hS (up2 i 36 0 0) ⟨hO_3, (fun a b ha => (up2_o _ _ (by omega)))⟩ hH (sj_Knil hK) (Nat.le_of_ble_eq_true rfl) (Nat.le_of_ble_eq_true rfl) dX12_event_56
set_option maxHeartbeats 2000000 in
set_option maxRecDepth 100000 in
theorem m_look (l : Launch) (D : va_G) (g : Nat → Nat) (ka : Nat → ClassId) (ad : Nat → Nat) (i : Nat → Nat → Int32) (r : Nat → Nat → Nat) (L : Nat → Nat → Int64) (d : Nat → Nat → UInt64) (x : Int32) (hO : OkI i) (hR : RS r) (sz : Nat)  : Met l yX12_look wsX12_look ({ frames := 0, cells := 0, slots := 0, locals := 0 }) (va_Pc [.ref (g 36), .int x] (sj_B D (hwc g ka i r L d) (hT ka) sz (gx ad (va_A (hwc g ka i r L d) sz)))) (sj_Qi (S := (Nat → Nat → Int32)) D (fun v u => OkI u ∧ (∀ a b, ¬ ((a = 36 ∧ (b = 0))) → u a b = i a b)) (fun u => hwc g ka u r L d) (fun _ => []) (va_A (hwc g ka i r L d) sz)) 0 0 (va_A (hwc g ka i r L d) sz) := by
  refine x_met (Ex := gx ad) (cc := cX12_look) (maxL := 2) (ret := (some .int)) (by decide) rfl (Nat.le_of_ble_eq_true rfl) ?_
  intro p e s m below meth c A ls hx hb hr hml hts hown hlocks hA hS hH hK hE hl
  have hown : s.vm.findClass RX12 = some m.cls := hown
  have in12 : ∀ w ∈ wsX120, w ∈ wsX12_look := (fun _ h => (List.mem_cons_of_mem _ (List.mem_append_right _ h)))
  have wd0 := hts (.fieldLink RX12 1 "StoryDeskModel" "thrown" "I") (List.mem_cons_of_mem _ (List.mem_append_left _ lm0))
  have wd1 := hts (.fieldLink RX12 57 "StoryDeskModel" "wrongs" "I") (List.mem_cons_of_mem _ (List.mem_append_left _ lm8))
  have wd2 := hts (.fieldLink RX12 501 "StoryDeskModel" "told" "I") (List.mem_cons_of_mem _ (List.mem_append_left _ lm7))
  have wd3 := hts (.fieldLink RX12 33 "StoryDeskModel" "dialect" "I") (List.mem_cons_of_mem _ (List.mem_append_left _ lm6))
  have wd4 := hts (.fieldLink RX12 404 "StoryDeskModel" "hooks" "I") (List.mem_cons_of_mem _ (List.mem_append_left _ lm5))
  have wd5 := hts (.fieldLink RX12 308 "StoryDeskModel" "defined" "I") (List.mem_cons_of_mem _ (List.mem_append_left _ lm4))
  have wd6 := hts (.fieldLink RX12 165 "StoryDeskModel" "cases" "I") (List.mem_cons_of_mem _ (List.mem_append_left _ lm3))
  have wd7 := hts (.fieldLink RX12 7 "StoryDeskModel" "size" "I") (List.mem_cons_of_mem _ (List.mem_append_left _ lm2))
  have wd8 := hts (.fieldLink RX12 168 "StoryDeskModel" "running" "Z") (List.mem_cons_of_mem _ (List.mem_append_left _ lm1))
  have hl : lv_has ls 2 [(0, .ref (g 36)), (1, .int x)] := hl
  have hK : va_K D vwCl (hT ka) s := hK
  have hg_1 := s_rng x
  refine lv_aload_n hx hb dX12_look_0 rfl (lv_at hl 0 rfl) ?_
  refine lv_iconst (v := 0) hx hb dX12_look_1 (by decide) ?_
  have hO_2 := okp hO (n := 36) (k := 0) (v := 0) (show (0 : Int) ≤ (0 : Int32).toInt ∧ (0 : Int32).toInt ≤ 3 from ⟨by decide, by decide⟩)
  refine h_puti (ty := .int) (ci := 12) (C := RX12) (F := TX12) (N := 86) hx hb hts in12 tyX12 tyX12_ok nmX12 hown hK hH hS (by decide) (rfl : kd 36 = 12) (by decide) rfl 0 (by decide) wd0 (fun _ h9 => h9) rfl (by decide +kernel) rfl rfl (by decide) rfl dX12_look_2 (fun H locs hH hS => ?_)
  refine lv_iload_n hx hb dX12_look_5 rfl (lv_at hl 1 rfl) ?_
  refine lv_iconst (v := 4) hx hb dX12_look_6 (by decide) ?_
  refine lv_icmp_ge (tgt := 67) hx hb dX12_look_7 (by decide) (fun c_3 => ?_) (fun c_3 => ?_)
  · skip
    have h_4 := s_le (show (4 : Int32).toInt = 4 from rfl) (rfl : x.toInt = _) c_3
    refine lv_iload_n hx hb dX12_look_67 rfl (lv_at hl 1 rfl) ?_
    refine lv_iconst (v := 4) hx hb dX12_look_68 (by decide) ?_
    refine lv_icmp_ne (tgt := 79) hx hb dX12_look_69 (by decide) (fun c_5 => ?_) (fun c_5 => ?_)
    · skip
      have h_6 := s_ne (rfl : x.toInt = _) (show (4 : Int32).toInt = 4 from rfl) c_5
      refine lv_iload_n hx hb dX12_look_79 rfl (lv_at hl 1 rfl) ?_
      refine lv_iconst (v := 5) hx hb dX12_look_80 (by decide) ?_
      refine lv_icmp_ne (tgt := 91) hx hb dX12_look_81 (by decide) (fun c_7 => ?_) (fun c_7 => ?_)
      · skip
        have h_8 := s_ne (rfl : x.toInt = _) (show (5 : Int32).toInt = 5 from rfl) c_7
        refine lv_iload_n hx hb dX12_look_91 rfl (lv_at hl 1 rfl) ?_
        refine lv_bipush (v := 6) hx hb dX12_look_92 (by decide) ?_
        refine lv_icmp_ne (tgt := 104) hx hb dX12_look_94 (by decide) (fun c_9 => ?_) (fun c_9 => ?_)
        · skip
          have h_10 := s_ne (rfl : x.toInt = _) (show (6 : Int32).toInt = 6 from rfl) c_9
          refine lv_iload_n hx hb dX12_look_104 rfl (lv_at hl 1 rfl) ?_
          refine lv_bipush (v := 7) hx hb dX12_look_105 (by decide) ?_
          refine lv_icmp_ne (tgt := 117) hx hb dX12_look_107 (by decide) (fun c_11 => ?_) (fun c_11 => ?_)
          · skip
            have h_12 := s_ne (rfl : x.toInt = _) (show (7 : Int32).toInt = 7 from rfl) c_11
            refine lv_iconst (v := (-1)) hx hb dX12_look_117 (by decide) ?_
            exact sj_zret hx hb hr hlocks rfl hS (up2 i 36 0 0) ⟨hO_2, (fun a b ha => (up2_o _ _ (by omega)))⟩ hH (sj_Knil hK) (Nat.le_of_ble_eq_true rfl) (Nat.le_of_ble_eq_true rfl) dX12_look_118
          · skip
            have h_13 := s_eq (rfl : x.toInt = _) (show (7 : Int32).toInt = 7 from rfl) c_11
            refine lv_aload_n hx hb dX12_look_110 rfl (lv_at hl 0 rfl) ?_
            have bx_14 : (0 : Int) ≤ (i 36 6).toInt ∧ (i 36 6).toInt ≤ 20 := hO 36 6
            refine h_geti (ci := 12) (C := RX12) (F := TX12) (N := 86) hx hb hts in12 hown hK hH (by decide) (rfl : kd 36 = 12) (by decide) rfl 6 (by decide) wd1 (fun _ h9 => h9) (by decide) rfl dX12_look_111 ?_
            refine sj_i (y := (i 36 6)) (up2_k _ _ (by decide)) ?_
            refine lv_goto (tgt := 118) hx hb dX12_look_114 (by decide) ?_
            exact sj_zret hx hb hr hlocks rfl hS (up2 i 36 0 0) ⟨hO_2, (fun a b ha => (up2_o _ _ (by omega)))⟩ hH (sj_Knil hK) (Nat.le_of_ble_eq_true rfl) (Nat.le_of_ble_eq_true rfl) dX12_look_118
        · skip
          have h_15 := s_eq (rfl : x.toInt = _) (show (6 : Int32).toInt = 6 from rfl) c_9
          refine lv_aload_n hx hb dX12_look_97 rfl (lv_at hl 0 rfl) ?_
          have bx_16 : (0 : Int) ≤ (i 36 81).toInt ∧ (i 36 81).toInt ≤ 2147483647 := hO 36 81
          refine h_geti (ci := 12) (C := RX12) (F := TX12) (N := 86) hx hb hts in12 hown hK hH (by decide) (rfl : kd 36 = 12) (by decide) rfl 81 (by decide) wd2 (fun _ h9 => h9) (by decide) rfl dX12_look_98 ?_
          refine sj_i (y := (i 36 81)) (up2_k _ _ (by decide)) ?_
          refine lv_goto (tgt := 118) hx hb dX12_look_101 (by decide) ?_
          exact sj_zret hx hb hr hlocks rfl hS (up2 i 36 0 0) ⟨hO_2, (fun a b ha => (up2_o _ _ (by omega)))⟩ hH (sj_Knil hK) (Nat.le_of_ble_eq_true rfl) (Nat.le_of_ble_eq_true rfl) dX12_look_118
      · skip
        have h_17 := s_eq (rfl : x.toInt = _) (show (5 : Int32).toInt = 5 from rfl) c_7
        refine lv_aload_n hx hb dX12_look_84 rfl (lv_at hl 0 rfl) ?_
        have bx_18 : (0 : Int) ≤ (i 36 7).toInt ∧ (i 36 7).toInt ≤ 1 := hO 36 7
        refine h_geti (ci := 12) (C := RX12) (F := TX12) (N := 86) hx hb hts in12 hown hK hH (by decide) (rfl : kd 36 = 12) (by decide) rfl 7 (by decide) wd3 (fun _ h9 => h9) (by decide) rfl dX12_look_85 ?_
        refine sj_i (y := (i 36 7)) (up2_k _ _ (by decide)) ?_
        refine lv_goto (tgt := 118) hx hb dX12_look_88 (by decide) ?_
        exact sj_zret hx hb hr hlocks rfl hS (up2 i 36 0 0) ⟨hO_2, (fun a b ha => (up2_o _ _ (by omega)))⟩ hH (sj_Knil hK) (Nat.le_of_ble_eq_true rfl) (Nat.le_of_ble_eq_true rfl) dX12_look_118
    · skip
      have h_19 := s_eq (rfl : x.toInt = _) (show (4 : Int32).toInt = 4 from rfl) c_5
      refine lv_aload_n hx hb dX12_look_72 rfl (lv_at hl 0 rfl) ?_
      have bx_20 : (0 : Int) ≤ (i 36 67).toInt ∧ (i 36 67).toInt ≤ 8 := hO 36 67
      refine h_geti (ci := 12) (C := RX12) (F := TX12) (N := 86) hx hb hts in12 hown hK hH (by decide) (rfl : kd 36 = 12) (by decide) rfl 67 (by decide) wd4 (fun _ h9 => h9) (by decide) rfl dX12_look_73 ?_
      refine sj_i (y := (i 36 67)) (up2_k _ _ (by decide)) ?_
      refine lv_goto (tgt := 118) hx hb dX12_look_76 (by decide) ?_
      exact sj_zret hx hb hr hlocks rfl hS (up2 i 36 0 0) ⟨hO_2, (fun a b ha => (up2_o _ _ (by omega)))⟩ hH (sj_Knil hK) (Nat.le_of_ble_eq_true rfl) (Nat.le_of_ble_eq_true rfl) dX12_look_118
  · skip
    have h_21 := s_nle (show (4 : Int32).toInt = 4 from rfl) (rfl : x.toInt = _) c_3
    refine lv_iload_n hx hb dX12_look_10 rfl (lv_at hl 1 rfl) ?_
    refine lv_if_ne (tgt := 29) hx hb dX12_look_11 (by decide) (fun c_22 => ?_) (fun c_22 => ?_)
    · skip
      have h_23 := s_ne (rfl : x.toInt = _) (show (0 : Int32).toInt = 0 from rfl) c_22
      refine lv_iload_n hx hb dX12_look_29 rfl (lv_at hl 1 rfl) ?_
      refine lv_iconst (v := 1) hx hb dX12_look_30 (by decide) ?_
      refine lv_icmp_ne (tgt := 41) hx hb dX12_look_31 (by decide) (fun c_24 => ?_) (fun c_24 => ?_)
      · skip
        have h_25 := s_ne (rfl : x.toInt = _) (show (1 : Int32).toInt = 1 from rfl) c_24
        refine lv_iload_n hx hb dX12_look_41 rfl (lv_at hl 1 rfl) ?_
        refine lv_iconst (v := 2) hx hb dX12_look_42 (by decide) ?_
        refine lv_icmp_ne (tgt := 53) hx hb dX12_look_43 (by decide) (fun c_26 => ?_) (fun c_26 => ?_)
        · skip
          have h_27 := s_ne (rfl : x.toInt = _) (show (2 : Int32).toInt = 2 from rfl) c_26
          refine lv_iload_n hx hb dX12_look_53 rfl (lv_at hl 1 rfl) ?_
          refine lv_iconst (v := 3) hx hb dX12_look_54 (by decide) ?_
          refine lv_icmp_ne (tgt := 65) hx hb dX12_look_55 (by decide) (fun c_28 => ?_) (fun c_28 => ?_)
          · skip
            have h_29 := s_ne (rfl : x.toInt = _) (show (3 : Int32).toInt = 3 from rfl) c_28
            refine lv_iconst (v := (-1)) hx hb dX12_look_65 (by decide) ?_
            exact sj_zret hx hb hr hlocks rfl hS (up2 i 36 0 0) ⟨hO_2, (fun a b ha => (up2_o _ _ (by omega)))⟩ hH (sj_Knil hK) (Nat.le_of_ble_eq_true rfl) (Nat.le_of_ble_eq_true rfl) dX12_look_66
          · skip
            have h_30 := s_eq (rfl : x.toInt = _) (show (3 : Int32).toInt = 3 from rfl) c_28
            refine lv_aload_n hx hb dX12_look_58 rfl (lv_at hl 0 rfl) ?_
            have bx_31 : (0 : Int) ≤ (i 36 41).toInt ∧ (i 36 41).toInt ≤ 12 := hO 36 41
            refine h_geti (ci := 12) (C := RX12) (F := TX12) (N := 86) hx hb hts in12 hown hK hH (by decide) (rfl : kd 36 = 12) (by decide) rfl 41 (by decide) wd5 (fun _ h9 => h9) (by decide) rfl dX12_look_59 ?_
            refine sj_i (y := (i 36 41)) (up2_k _ _ (by decide)) ?_
            refine lv_goto (tgt := 66) hx hb dX12_look_62 (by decide) ?_
            exact sj_zret hx hb hr hlocks rfl hS (up2 i 36 0 0) ⟨hO_2, (fun a b ha => (up2_o _ _ (by omega)))⟩ hH (sj_Knil hK) (Nat.le_of_ble_eq_true rfl) (Nat.le_of_ble_eq_true rfl) dX12_look_66
        · skip
          have h_32 := s_eq (rfl : x.toInt = _) (show (2 : Int32).toInt = 2 from rfl) c_26
          refine lv_aload_n hx hb dX12_look_46 rfl (lv_at hl 0 rfl) ?_
          have bx_33 : (0 : Int) ≤ (i 36 33).toInt ∧ (i 36 33).toInt ≤ 24 := hO 36 33
          refine h_geti (ci := 12) (C := RX12) (F := TX12) (N := 86) hx hb hts in12 hown hK hH (by decide) (rfl : kd 36 = 12) (by decide) rfl 33 (by decide) wd6 (fun _ h9 => h9) (by decide) rfl dX12_look_47 ?_
          refine sj_i (y := (i 36 33)) (up2_k _ _ (by decide)) ?_
          refine lv_goto (tgt := 66) hx hb dX12_look_50 (by decide) ?_
          exact sj_zret hx hb hr hlocks rfl hS (up2 i 36 0 0) ⟨hO_2, (fun a b ha => (up2_o _ _ (by omega)))⟩ hH (sj_Knil hK) (Nat.le_of_ble_eq_true rfl) (Nat.le_of_ble_eq_true rfl) dX12_look_66
      · skip
        have h_34 := s_eq (rfl : x.toInt = _) (show (1 : Int32).toInt = 1 from rfl) c_24
        refine lv_aload_n hx hb dX12_look_34 rfl (lv_at hl 0 rfl) ?_
        have bx_35 : (0 : Int) ≤ (i 36 2).toInt ∧ (i 36 2).toInt ≤ 480 := hO 36 2
        refine h_geti (ci := 12) (C := RX12) (F := TX12) (N := 86) hx hb hts in12 hown hK hH (by decide) (rfl : kd 36 = 12) (by decide) rfl 2 (by decide) wd7 (fun _ h9 => h9) (by decide) rfl dX12_look_35 ?_
        refine sj_i (y := (i 36 2)) (up2_k _ _ (by decide)) ?_
        refine lv_goto (tgt := 66) hx hb dX12_look_38 (by decide) ?_
        exact sj_zret hx hb hr hlocks rfl hS (up2 i 36 0 0) ⟨hO_2, (fun a b ha => (up2_o _ _ (by omega)))⟩ hH (sj_Knil hK) (Nat.le_of_ble_eq_true rfl) (Nat.le_of_ble_eq_true rfl) dX12_look_66
    · skip
      have h_36 := s_eq (rfl : x.toInt = _) (show (0 : Int32).toInt = 0 from rfl) c_22
      refine lv_aload_n hx hb dX12_look_14 rfl (lv_at hl 0 rfl) ?_
      have bx_37 : (0 : Int) ≤ (i 36 76).toInt ∧ (i 36 76).toInt ≤ 1 := hO 36 76
      refine h_geti (ci := 12) (C := RX12) (F := TX12) (N := 86) hx hb hts in12 hown hK hH (by decide) (rfl : kd 36 = 12) (by decide) rfl 76 (by decide) wd8 (fun _ h9 => h9) (by decide) rfl dX12_look_15 ?_
      refine sj_i (y := (i 36 76)) (up2_k _ _ (by decide)) ?_
      refine lv_if_eq (tgt := 25) hx hb dX12_look_18 (by decide) (fun c_38 => ?_) (fun c_38 => ?_)
      · skip
        have h_39 := s_eq (rfl : (i 36 76).toInt = _) (show (0 : Int32).toInt = 0 from rfl) c_38
        refine lv_iconst (v := 0) hx hb dX12_look_25 (by decide) ?_
        refine lv_goto (tgt := 66) hx hb dX12_look_26 (by decide) ?_
        exact sj_zret hx hb hr hlocks rfl hS (up2 i 36 0 0) ⟨hO_2, (fun a b ha => (up2_o _ _ (by omega)))⟩ hH (sj_Knil hK) (Nat.le_of_ble_eq_true rfl) (Nat.le_of_ble_eq_true rfl) dX12_look_66
      · skip
        have h_40 := s_ne (rfl : (i 36 76).toInt = _) (show (0 : Int32).toInt = 0 from rfl) c_38
        refine lv_iconst (v := 1) hx hb dX12_look_21 (by decide) ?_
        refine lv_goto (tgt := 66) hx hb dX12_look_22 (by decide) ?_
        exact sj_zret hx hb hr hlocks rfl hS (up2 i 36 0 0) ⟨hO_2, (fun a b ha => (up2_o _ _ (by omega)))⟩ hH (sj_Knil hK) (Nat.le_of_ble_eq_true rfl) (Nat.le_of_ble_eq_true rfl) dX12_look_66
set_option maxHeartbeats 2000000 in
set_option maxRecDepth 100000 in
theorem m_world (l : Launch) (D : va_G) (g : Nat → Nat) (ka : Nat → ClassId) (ad : Nat → Nat) (i : Nat → Nat → Int32) (r : Nat → Nat → Nat) (L : Nat → Nat → Int64) (d : Nat → Nat → UInt64) (x : Int32) (hO : OkI i) (hR : RS r) (sz : Nat)  : Met l yX12_world wsX12_world ({ frames := 0, cells := 0, slots := 0, locals := 0 }) (va_Pc [.ref (g 36), .int x] (sj_B D (hwc g ka i r L d) (hT ka) sz (gx ad (va_A (hwc g ka i r L d) sz)))) (sj_Qd (S := (Nat → Nat → Int32)) D (fun v u => OkI u ∧ (∀ a b, ¬ ((a = 36 ∧ (b = 0))) → u a b = i a b)) (fun u => hwc g ka u r L d) (fun _ => []) (va_A (hwc g ka i r L d) sz)) 0 0 (va_A (hwc g ka i r L d) sz) := by
  refine x_met (Ex := gx ad) (cc := cX12_world) (maxL := 2) (ret := (some .double)) (by decide) rfl (Nat.le_of_ble_eq_true rfl) ?_
  intro p e s m below meth c A ls hx hb hr hml hts hown hlocks hA hS hH hK hE hl
  have hown : s.vm.findClass RX12 = some m.cls := hown
  have in12 : ∀ w ∈ wsX120, w ∈ wsX12_world := (fun _ h => (List.mem_cons_of_mem _ (List.mem_append_right _ h)))
  have wd0 := hts (.fieldLink RX12 1 "StoryDeskModel" "thrown" "I") (List.mem_cons_of_mem _ (List.mem_append_left _ lm0))
  have wd1 := hts (.fieldLink RX12 492 "StoryDeskModel" "job" "[I") (List.mem_cons_of_mem _ (List.mem_append_left _ lm1))
  have wd2 := hts (.fieldLink RX12 442 "StoryDeskModel" "world" "[D") (List.mem_cons_of_mem _ (List.mem_append_left _ lm2))
  have hl : lv_has ls 2 [(0, .ref (g 36)), (1, .int x)] := hl
  have hK : va_K D vwCl (hT ka) s := hK
  have hg_1 := s_rng x
  refine lv_aload_n hx hb dX12_world_0 rfl (lv_at hl 0 rfl) ?_
  refine lv_iconst (v := 0) hx hb dX12_world_1 (by decide) ?_
  have hO_2 := okp hO (n := 36) (k := 0) (v := 0) (show (0 : Int) ≤ (0 : Int32).toInt ∧ (0 : Int32).toInt ≤ 3 from ⟨by decide, by decide⟩)
  refine h_puti (ty := .int) (ci := 12) (C := RX12) (F := TX12) (N := 86) hx hb hts in12 tyX12 tyX12_ok nmX12 hown hK hH hS (by decide) (rfl : kd 36 = 12) (by decide) rfl 0 (by decide) wd0 (fun _ h9 => h9) rfl (by decide +kernel) rfl rfl (by decide) rfl dX12_world_2 (fun H locs hH hS => ?_)
  refine lv_iload_n hx hb dX12_world_5 rfl (lv_at hl 1 rfl) ?_
  refine lv_if_lt (tgt := 36) hx hb dX12_world_6 (by decide) (fun c_3 => ?_) (fun c_3 => ?_)
  · skip
    have h_4 := s_lt (rfl : x.toInt = _) (show (0 : Int32).toInt = 0 from rfl) c_3
    refine lv_dconst0 hx hb dX12_world_36 ?_
    refine lv_goto (tgt := 46) hx hb dX12_world_37 (by decide) ?_
    exact sj_dret hx hb hr hlocks hS (up2 i 36 0 0) ⟨hO_2, (fun a b ha => (up2_o _ _ (by omega)))⟩ hH (sj_Knil hK) (Nat.le_of_ble_eq_true rfl) (Nat.le_of_ble_eq_true rfl) dX12_world_46
  · skip
    have h_5 := s_nlt (rfl : x.toInt = _) (show (0 : Int32).toInt = 0 from rfl) c_3
    refine lv_iload_n hx hb dX12_world_9 rfl (lv_at hl 1 rfl) ?_
    refine lv_iconst (v := 2) hx hb dX12_world_10 (by decide) ?_
    refine lv_icmp_gt (tgt := 36) hx hb dX12_world_11 (by decide) (fun c_6 => ?_) (fun c_6 => ?_)
    · skip
      have h_7 := s_lt (show (2 : Int32).toInt = 2 from rfl) (rfl : x.toInt = _) c_6
      refine lv_dconst0 hx hb dX12_world_36 ?_
      refine lv_goto (tgt := 46) hx hb dX12_world_37 (by decide) ?_
      exact sj_dret hx hb hr hlocks hS (up2 i 36 0 0) ⟨hO_2, (fun a b ha => (up2_o _ _ (by omega)))⟩ hH (sj_Knil hK) (Nat.le_of_ble_eq_true rfl) (Nat.le_of_ble_eq_true rfl) dX12_world_46
    · skip
      have h_8 := s_nlt (show (2 : Int32).toInt = 2 from rfl) (rfl : x.toInt = _) c_6
      refine lv_aload_n hx hb dX12_world_14 rfl (lv_at hl 0 rfl) ?_
      refine h_getr (ci := 12) (C := RX12) (F := TX12) (N := 86) hx hb hts in12 hown hK hH (by decide) (rfl : kd 36 = 12) (by decide) rfl 83 (by decide) wd1 (fun _ h9 => h9) (by decide) rfl (t := 427) (hR 36 83 rfl) (by decide) dX12_world_15 ?_
      refine lv_iload_n hx hb dX12_world_18 rfl (lv_at hl 1 rfl) ?_
      refine lv_if_lt (tgt := 27) hx hb dX12_world_19 (by decide) (fun h => absurd h (p_nlt (rfl : x.toInt = _) (show (0 : Int32).toInt = 0 from rfl) (by omega))) (fun _ => ?_)
      refine lv_iload_n hx hb dX12_world_22 rfl (lv_at hl 1 rfl) ?_
      refine lv_iconst (v := 2) hx hb dX12_world_23 (by decide) ?_
      refine lv_icmp_le (tgt := 31) hx hb dX12_world_24 (by decide) (fun _ => ?_) (fun h => absurd (p_le (rfl : x.toInt = _) (show (2 : Int32).toInt = 2 from rfl) (by omega)) h)
      refine lv_iload_n hx hb dX12_world_31 rfl (lv_at hl 1 rfl) ?_
      have bx_9 : (-1 : Int) ≤ (i 427 (x.toInt).toNat).toInt ∧ (i 427 (x.toInt).toNat).toInt ≤ 23 := hO 427 (x.toInt).toNat
      refine h_iald hx hb hK hH (by decide) (rfl : kd 427 = 13) (s_vin (N := 3) (rfl : x.toInt = _) (rfl : ln 427 = 3) (by omega) (by omega)) dX12_world_32 ?_
      have ek_10 : x.toNatClampNeg = (x.toInt).toNat := (s_cl (show x.toInt = x.toInt by omega))
      refine sj_i (y := (i 427 (x.toInt).toNat)) (by rw [ek_10]; exact (congrFun (up2_n _ _ (by decide)) _)) ?_
      refine lv_if_ge (tgt := 40) hx hb dX12_world_33 (by decide) (fun c_11 => ?_) (fun c_11 => ?_)
      · skip
        have h_12 := s_le (show (0 : Int32).toInt = 0 from rfl) (rfl : (i 427 (x.toInt).toNat).toInt = _) c_11
        refine lv_aload_n hx hb dX12_world_40 rfl (lv_at hl 0 rfl) ?_
        refine h_getr (ci := 12) (C := RX12) (F := TX12) (N := 86) hx hb hts in12 hown hK hH (by decide) (rfl : kd 36 = 12) (by decide) rfl 73 (by decide) wd2 (fun _ h9 => h9) (by decide) rfl (t := 425) (hR 36 73 rfl) (by decide) dX12_world_41 ?_
        refine lv_iload_n hx hb dX12_world_44 rfl (lv_at hl 1 rfl) ?_
        refine h_dald hx hb hK hH (by decide) (rfl : kd 425 = 17) (s_vin (N := 3) (rfl : x.toInt = _) (rfl : ln 425 = 3) (by omega) (by omega)) dX12_world_45 ?_
        refine lv_topd (fun z_13 ez_13 => ?_)
        exact sj_dret hx hb hr hlocks hS (up2 i 36 0 0) ⟨hO_2, (fun a b ha => (up2_o _ _ (by omega)))⟩ hH (sj_Knil hK) (Nat.le_of_ble_eq_true rfl) (Nat.le_of_ble_eq_true rfl) dX12_world_46
      · skip
        have h_14 := s_nle (show (0 : Int32).toInt = 0 from rfl) (rfl : (i 427 (x.toInt).toNat).toInt = _) c_11
        refine lv_dconst0 hx hb dX12_world_36 ?_
        refine lv_goto (tgt := 46) hx hb dX12_world_37 (by decide) ?_
        exact sj_dret hx hb hr hlocks hS (up2 i 36 0 0) ⟨hO_2, (fun a b ha => (up2_o _ _ (by omega)))⟩ hH (sj_Knil hK) (Nat.le_of_ble_eq_true rfl) (Nat.le_of_ble_eq_true rfl) dX12_world_46
set_option maxHeartbeats 2000000 in
set_option maxRecDepth 100000 in
theorem m_tell (l : Launch) (D : va_G) (g : Nat → Nat) (ka : Nat → ClassId) (ad : Nat → Nat) (i : Nat → Nat → Int32) (r : Nat → Nat → Nat) (L : Nat → Nat → Int64) (d : Nat → Nat → UInt64) (x : Int32) (y : Int32) (z : Int32) (v4 : Int32) (hO : OkI i) (hR : RS r) (sz : Nat) (hev : (i 36 81).toInt ≤ 2000000000) : Met l yX12_tell wsX12_tell ({ frames := 0, cells := 0, slots := 0, locals := 0 }) (va_Pc [.ref (g 36), .int x, .int y, .int z, .int v4] (sj_B D (hwc g ka i r L d) (hT ka) sz (gx ad (va_A (hwc g ka i r L d) sz)))) (sj_Qv (S := (Nat → Nat → Int32)) D (fun u => OkI u ∧ (∀ a b, ¬ ((a = 36 ∧ (b = 81)) ∨ a = 426) → u a b = i a b) ∧ ((u 36 81).toInt = (i 36 81).toInt + 1)) (fun u => hwc g ka u r L d) (fun _ => []) (va_A (hwc g ka i r L d) sz)) 0 0 (va_A (hwc g ka i r L d) sz) := by
  refine x_met (Ex := gx ad) (cc := cX12_tell) (maxL := 6) (ret := none) (by decide) rfl (Nat.le_of_ble_eq_true rfl) ?_
  intro p e s m below meth c A ls hx hb hr hml hts hown hlocks hA hS hH hK hE hl
  have hown : s.vm.findClass RX12 = some m.cls := hown
  have in12 : ∀ w ∈ wsX120, w ∈ wsX12_tell := (fun _ h => (List.mem_cons_of_mem _ (List.mem_append_right _ h)))
  have wd0 := hts (.fieldLink RX12 501 "StoryDeskModel" "told" "I") (List.mem_cons_of_mem _ (List.mem_append_left _ lm0))
  have wd1 := hts (.fieldLink RX12 489 "StoryDeskModel" "events" "[I") (List.mem_cons_of_mem _ (List.mem_append_left _ lm1))
  have hl : lv_has ls 6 [(0, .ref (g 36)), (1, .int x), (2, .int y), (3, .int z), (4, .int v4)] := hl
  have hK : va_K D vwCl (hT ka) s := hK
  have hg_1 := s_rng x
  have hg_2 := s_rng y
  have hg_3 := s_rng z
  have hg_4 := s_rng v4
  refine lv_iconst (v := 4) hx hb dX12_tell_0 (by decide) ?_
  refine lv_aload_n hx hb dX12_tell_1 rfl (lv_at hl 0 rfl) ?_
  have bx_5 : (0 : Int) ≤ (i 36 81).toInt ∧ (i 36 81).toInt ≤ 2147483647 := hO 36 81
  refine h_geti (ci := 12) (C := RX12) (F := TX12) (N := 86) hx hb hts in12 hown hK hH (by decide) (rfl : kd 36 = 12) (by decide) rfl 81 (by decide) wd0 (fun _ h9 => h9) (by decide) rfl dX12_tell_2 ?_
  refine lv_bipush (v := 64) hx hb dX12_tell_5 (by decide) ?_
  refine lv_irem hx hb dX12_tell_7 (by decide) ?_
  obtain ⟨z_6, ez_6, hz_6⟩ := s_rem2 (rfl : (i 36 81).toInt = _) (show (64 : Int32).toInt = 64 from rfl) (by omega) (by omega)
  refine sj_i ez_6 ?_
  refine lv_imul hx hb dX12_tell_8 ?_
  obtain ⟨z_7, ez_7, hz_7⟩ := s_mul (show (4 : Int32).toInt = 4 from rfl) (rfl : z_6.toInt = _) (by omega) (by omega)
  refine sj_i ez_7 ?_
  refine lv_istore (lv' := [(5, .int z_7), (0, .ref (g 36)), (1, .int x), (2, .int y), (3, .int z), (4, .int v4)]) hx hb dX12_tell_9 hl (by decide) rfl (fun ls hl => ?_)
  refine lv_aload_n hx hb dX12_tell_11 rfl (lv_at hl 1 rfl) ?_
  refine h_getr (ci := 12) (C := RX12) (F := TX12) (N := 86) hx hb hts in12 hown hK hH (by decide) (rfl : kd 36 = 12) (by decide) rfl 82 (by decide) wd1 (fun _ h9 => h9) (by decide) rfl (t := 426) (hR 36 82 rfl) (by decide) dX12_tell_12 ?_
  refine lv_iload hx hb dX12_tell_15 (lv_at hl 0 rfl) ?_
  refine lv_iload_n hx hb dX12_tell_17 rfl (lv_at hl 2 rfl) ?_
  have hO_8 := okp hO (n := 426) (k := (4 * z_6.toInt).toNat) (v := x) (show (-2147483648 : Int) ≤ (x : Int32).toInt ∧ (x : Int32).toInt ≤ 2147483647 from s_rng x)
  refine h_iast hx hb hK hH hS (by decide) (rfl : kd 426 = 13) (s_vin (N := 256) (rfl : z_7.toInt = _) (rfl : ln 426 = 256) (by omega) (by omega)) dX12_tell_18 (fun H locs hH hS => ?_)
  rw [s_cl (show z_7.toInt = 4 * z_6.toInt by omega)] at hH
  refine lv_aload_n hx hb dX12_tell_19 rfl (lv_at hl 1 rfl) ?_
  refine h_getr (ci := 12) (C := RX12) (F := TX12) (N := 86) hx hb hts in12 hown hK hH (by decide) (rfl : kd 36 = 12) (by decide) rfl 82 (by decide) wd1 (fun _ h9 => h9) (by decide) rfl (t := 426) (hR 36 82 rfl) (by decide) dX12_tell_20 ?_
  refine lv_iload hx hb dX12_tell_23 (lv_at hl 0 rfl) ?_
  refine lv_iconst (v := 1) hx hb dX12_tell_25 (by decide) ?_
  refine lv_iadd hx hb dX12_tell_26 ?_
  obtain ⟨z_9, ez_9, hz_9⟩ := s_add (rfl : z_7.toInt = _) (show (1 : Int32).toInt = 1 from rfl) (by omega) (by omega)
  refine sj_i ez_9 ?_
  refine lv_iload_n hx hb dX12_tell_27 rfl (lv_at hl 3 rfl) ?_
  have hO_10 := okp hO_8 (n := 426) (k := (4 * z_6.toInt + 1).toNat) (v := y) (show (-2147483648 : Int) ≤ (y : Int32).toInt ∧ (y : Int32).toInt ≤ 2147483647 from s_rng y)
  refine h_iast hx hb hK hH hS (by decide) (rfl : kd 426 = 13) (s_vin (N := 256) (rfl : z_9.toInt = _) (rfl : ln 426 = 256) (by omega) (by omega)) dX12_tell_28 (fun H locs hH hS => ?_)
  rw [s_cl (show z_9.toInt = 4 * z_6.toInt + 1 by omega)] at hH
  refine lv_aload_n hx hb dX12_tell_29 rfl (lv_at hl 1 rfl) ?_
  refine h_getr (ci := 12) (C := RX12) (F := TX12) (N := 86) hx hb hts in12 hown hK hH (by decide) (rfl : kd 36 = 12) (by decide) rfl 82 (by decide) wd1 (fun _ h9 => h9) (by decide) rfl (t := 426) (hR 36 82 rfl) (by decide) dX12_tell_30 ?_
  refine lv_iload hx hb dX12_tell_33 (lv_at hl 0 rfl) ?_
  refine lv_iconst (v := 2) hx hb dX12_tell_35 (by decide) ?_
  refine lv_iadd hx hb dX12_tell_36 ?_
  obtain ⟨z_11, ez_11, hz_11⟩ := s_add (rfl : z_7.toInt = _) (show (2 : Int32).toInt = 2 from rfl) (by omega) (by omega)
  refine sj_i ez_11 ?_
  refine lv_iload_n hx hb dX12_tell_37 rfl (lv_at hl 4 rfl) ?_
  have hO_12 := okp hO_10 (n := 426) (k := (4 * z_6.toInt + 2).toNat) (v := z) (show (-2147483648 : Int) ≤ (z : Int32).toInt ∧ (z : Int32).toInt ≤ 2147483647 from s_rng z)
  refine h_iast hx hb hK hH hS (by decide) (rfl : kd 426 = 13) (s_vin (N := 256) (rfl : z_11.toInt = _) (rfl : ln 426 = 256) (by omega) (by omega)) dX12_tell_38 (fun H locs hH hS => ?_)
  rw [s_cl (show z_11.toInt = 4 * z_6.toInt + 2 by omega)] at hH
  refine lv_aload_n hx hb dX12_tell_39 rfl (lv_at hl 1 rfl) ?_
  refine h_getr (ci := 12) (C := RX12) (F := TX12) (N := 86) hx hb hts in12 hown hK hH (by decide) (rfl : kd 36 = 12) (by decide) rfl 82 (by decide) wd1 (fun _ h9 => h9) (by decide) rfl (t := 426) (hR 36 82 rfl) (by decide) dX12_tell_40 ?_
  refine lv_iload hx hb dX12_tell_43 (lv_at hl 0 rfl) ?_
  refine lv_iconst (v := 3) hx hb dX12_tell_45 (by decide) ?_
  refine lv_iadd hx hb dX12_tell_46 ?_
  obtain ⟨z_13, ez_13, hz_13⟩ := s_add (rfl : z_7.toInt = _) (show (3 : Int32).toInt = 3 from rfl) (by omega) (by omega)
  refine sj_i ez_13 ?_
  refine lv_iload hx hb dX12_tell_47 (lv_at hl 5 rfl) ?_
  have hO_14 := okp hO_12 (n := 426) (k := (4 * z_6.toInt + 3).toNat) (v := v4) (show (-2147483648 : Int) ≤ (v4 : Int32).toInt ∧ (v4 : Int32).toInt ≤ 2147483647 from s_rng v4)
  refine h_iast hx hb hK hH hS (by decide) (rfl : kd 426 = 13) (s_vin (N := 256) (rfl : z_13.toInt = _) (rfl : ln 426 = 256) (by omega) (by omega)) dX12_tell_49 (fun H locs hH hS => ?_)
  rw [s_cl (show z_13.toInt = 4 * z_6.toInt + 3 by omega)] at hH
  refine lv_aload_n hx hb dX12_tell_50 rfl (lv_at hl 1 rfl) ?_
  refine lv_dup hx hb dX12_tell_51 rfl ?_
  refine h_geti (ci := 12) (C := RX12) (F := TX12) (N := 86) hx hb hts in12 hown hK hH (by decide) (rfl : kd 36 = 12) (by decide) rfl 81 (by decide) wd0 (fun _ h9 => h9) (by decide) rfl dX12_tell_52 ?_
  refine sj_i (y := (i 36 81)) ((congrFun (up2_n _ _ (by decide)) _).trans ((congrFun (up2_n _ _ (by decide)) _).trans ((congrFun (up2_n _ _ (by decide)) _).trans (congrFun (up2_n _ _ (by decide)) _)))) ?_
  refine lv_iconst (v := 1) hx hb dX12_tell_55 (by decide) ?_
  refine lv_iadd hx hb dX12_tell_56 ?_
  obtain ⟨z_15, ez_15, hz_15⟩ := s_add (rfl : (i 36 81).toInt = _) (show (1 : Int32).toInt = 1 from rfl) (by omega) (by omega)
  refine sj_i ez_15 ?_
  have hO_16 := okp hO_14 (n := 36) (k := 81) (v := z_15) (show (0 : Int) ≤ (z_15 : Int32).toInt ∧ (z_15 : Int32).toInt ≤ 2147483647 from ⟨by omega, by omega⟩)
  refine h_puti (ty := .int) (ci := 12) (C := RX12) (F := TX12) (N := 86) hx hb hts in12 tyX12 tyX12_ok nmX12 hown hK hH hS (by decide) (rfl : kd 36 = 12) (by decide) rfl 81 (by decide) wd0 (fun _ h9 => h9) rfl (by decide +kernel) rfl rfl (by decide) rfl dX12_tell_57 (fun H locs hH hS => ?_)
  have hq_17 : (up2 (up2 (up2 (up2 (up2 i 426 (4 * z_6.toInt).toNat x) 426 (4 * z_6.toInt + 1).toNat y) 426 (4 * z_6.toInt + 2).toNat z) 426 (4 * z_6.toInt + 3).toNat v4) 36 81 z_15) 36 81 = z_15 := (up2_at _ _ _ _)
  have hq_17i := congrArg Int32.toInt hq_17
  exact sj_vret hx hb hr hlocks hS (up2 (up2 (up2 (up2 (up2 i 426 (4 * z_6.toInt).toNat x) 426 (4 * z_6.toInt + 1).toNat y) 426 (4 * z_6.toInt + 2).toNat z) 426 (4 * z_6.toInt + 3).toNat v4) 36 81 z_15) ⟨hO_16, (fun a b ha => ((up2_o _ _ (by omega)).trans ((up2_o _ _ (by omega)).trans ((up2_o _ _ (by omega)).trans ((up2_o _ _ (by omega)).trans (up2_o _ _ (by omega))))))), (by omega)⟩ hH (sj_Knil hK) (Nat.le_of_ble_eq_true rfl) (Nat.le_of_ble_eq_true rfl) dX12_tell_60
set_option maxHeartbeats 2000000 in
set_option maxRecDepth 100000 in
theorem m_at (l : Launch) (D : va_G) (g : Nat → Nat) (ka : Nat → ClassId) (ad : Nat → Nat) (i : Nat → Nat → Int32) (r : Nat → Nat → Nat) (L : Nat → Nat → Int64) (d : Nat → Nat → UInt64) (x : Int32) (hO : OkI i) (hR : RS r) (sz : Nat) (hx0 : 0 ≤ x.toInt) : Met l yX12_at wsX12_at ({ frames := 0, cells := 0, slots := 0, locals := 0 }) (va_Pc [.ref (g 36), .int x] (sj_B D (hwc g ka i r L d) (hT ka) sz (gx ad (va_A (hwc g ka i r L d) sz)))) (sj_Qi (S := Unit) D (fun v u => ((0 : Int) ≤ v.toInt ∧ v.toInt ≤ 65535) ∧ ((x.toInt < (i 36 4).toInt ∧ v.toInt = (i 380 (x.toInt).toNat).toInt) ∨ ((i 36 4).toInt ≤ x.toInt ∧ v.toInt = 10))) (fun _ => hwc g ka i r L d) (fun _ => []) (va_A (hwc g ka i r L d) sz)) 0 0 (va_A (hwc g ka i r L d) sz) := by
  refine x_met (Ex := gx ad) (cc := cX12_at) (maxL := 2) (ret := (some .char)) (by decide) rfl (Nat.le_of_ble_eq_true rfl) ?_
  intro p e s m below meth c A ls hx hb hr hml hts hown hlocks hA hS hH hK hE hl
  have hown : s.vm.findClass RX12 = some m.cls := hown
  have in12 : ∀ w ∈ wsX120, w ∈ wsX12_at := (fun _ h => (List.mem_cons_of_mem _ (List.mem_append_right _ h)))
  have wd0 := hts (.fieldLink RX12 16 "StoryDeskModel" "width" "I") (List.mem_cons_of_mem _ (List.mem_append_left _ lm0))
  have wd1 := hts (.fieldLink RX12 19 "StoryDeskModel" "line" "[C") (List.mem_cons_of_mem _ (List.mem_append_left _ lm1))
  have hl : lv_has ls 2 [(0, .ref (g 36)), (1, .int x)] := hl
  have hK : va_K D vwCl (hT ka) s := hK
  refine lv_iload_n hx hb dX12_at_0 rfl (lv_at hl 1 rfl) ?_
  refine lv_aload_n hx hb dX12_at_1 rfl (lv_at hl 0 rfl) ?_
  have bx_1 : (0 : Int) ≤ (i 36 4).toInt ∧ (i 36 4).toInt ≤ 480 := hO 36 4
  refine h_geti (ci := 12) (C := RX12) (F := TX12) (N := 86) hx hb hts in12 hown hK hH (by decide) (rfl : kd 36 = 12) (by decide) rfl 4 (by decide) wd0 (fun _ h9 => h9) (by decide) rfl dX12_at_2 ?_
  refine lv_icmp_ge (tgt := 17) hx hb dX12_at_5 (by decide) (fun c_2 => ?_) (fun c_2 => ?_)
  · skip
    have h_3 := s_le (rfl : (i 36 4).toInt = _) (rfl : x.toInt = _) c_2
    refine lv_bipush (v := 10) hx hb dX12_at_17 (by decide) ?_
    have hlv_4 : (10 : Int32).toInt = 10 := rfl
    exact sj_zret hx hb hr hlocks (by decide +kernel) hS () ⟨⟨by decide, by decide⟩, (by omega)⟩ hH (sj_Knil hK) (Nat.le_of_ble_eq_true rfl) (Nat.le_of_ble_eq_true rfl) dX12_at_19
  · skip
    have h_5 := s_nle (rfl : (i 36 4).toInt = _) (rfl : x.toInt = _) c_2
    refine lv_aload_n hx hb dX12_at_8 rfl (lv_at hl 0 rfl) ?_
    refine h_getr (ci := 12) (C := RX12) (F := TX12) (N := 86) hx hb hts in12 hown hK hH (by decide) (rfl : kd 36 = 12) (by decide) rfl 3 (by decide) wd1 (fun _ h9 => h9) (by decide) rfl (t := 380) (hR 36 3 rfl) (by decide) dX12_at_9 ?_
    refine lv_iload_n hx hb dX12_at_12 rfl (lv_at hl 1 rfl) ?_
    have bx_6 : (0 : Int) ≤ (i 380 (x.toInt).toNat).toInt ∧ (i 380 (x.toInt).toNat).toInt ≤ 65535 := hO 380 (x.toInt).toNat
    refine h_cald hx hb hK hH (by decide) (rfl : kd 380 = 14) (s_vin (N := 480) (rfl : x.toInt = _) (rfl : ln 380 = 480) (by omega) (by omega)) dX12_at_13 ?_
    have ek_7 : x.toNatClampNeg = (x.toInt).toNat := (s_cl (show x.toInt = x.toInt by omega))
    refine sj_i (y := (i 380 (x.toInt).toNat)) (by rw [ek_7]) ?_
    refine lv_goto (tgt := 19) hx hb dX12_at_14 (by decide) ?_
    exact sj_zret hx hb hr hlocks (s_nc ⟨by omega, by omega⟩) hS () ⟨⟨by omega, by omega⟩, (by omega)⟩ hH (sj_Knil hK) (Nat.le_of_ble_eq_true rfl) (Nat.le_of_ble_eq_true rfl) dX12_at_19
