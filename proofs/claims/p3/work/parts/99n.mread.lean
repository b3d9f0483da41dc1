theorem dX12_isStep_0 : decode cX12_isStep 0 = .ok (.iload_n 1, 1) := by decide +kernel
theorem dX12_isStep_1 : decode cX12_isStep 1 = .ok (.ifCond .lt 44, 3) := by decide +kernel
theorem dX12_isStep_45 : decode cX12_isStep 45 = .ok (.iconst 0, 1) := by decide +kernel
theorem dX12_isStep_46 : decode cX12_isStep 46 = .ok (.ireturn, 1) := by decide +kernel
theorem dX12_isStep_4 : decode cX12_isStep 4 = .ok (.iload_n 1, 1) := by decide +kernel
theorem dX12_isStep_5 : decode cX12_isStep 5 = .ok (.aload_n 0, 1) := by decide +kernel
theorem dX12_isStep_6 : decode cX12_isStep 6 = .ok (.getfield 165, 3) := by decide +kernel
theorem dX12_isStep_9 : decode cX12_isStep 9 = .ok (.if_icmp .ge 36, 3) := by decide +kernel
theorem dX12_isStep_12 : decode cX12_isStep 12 = .ok (.iload_n 2, 1) := by decide +kernel
theorem dX12_isStep_13 : decode cX12_isStep 13 = .ok (.ifCond .lt 32, 3) := by decide +kernel
theorem dX12_isStep_16 : decode cX12_isStep 16 = .ok (.iload_n 2, 1) := by decide +kernel
theorem dX12_isStep_17 : decode cX12_isStep 17 = .ok (.aload_n 0, 1) := by decide +kernel
theorem dX12_isStep_18 : decode cX12_isStep 18 = .ok (.iload_n 1, 1) := by decide +kernel
theorem dX12_isStep_19 : decode cX12_isStep 19 = .ok (.ifCond .lt 11, 3) := by decide +kernel
theorem dX12_isStep_22 : decode cX12_isStep 22 = .ok (.iload_n 1, 1) := by decide +kernel
theorem dX12_isStep_23 : decode cX12_isStep 23 = .ok (.aload_n 0, 1) := by decide +kernel
theorem dX12_isStep_24 : decode cX12_isStep 24 = .ok (.getfield 165, 3) := by decide +kernel
theorem dX12_isStep_27 : decode cX12_isStep 27 = .ok (.if_icmp .lt 7, 3) := by decide +kernel
theorem dX12_isStep_34 : decode cX12_isStep 34 = .ok (.iload_n 1, 1) := by decide +kernel
theorem dX12_isStep_35 : decode cX12_isStep 35 = .ok (.invokevirtual 529, 3) := by decide +kernel
theorem dX12_isStep_38 : decode cX12_isStep 38 = .ok (.if_icmp .ge 7, 3) := by decide +kernel
theorem dX12_isStep_41 : decode cX12_isStep 41 = .ok (.iconst 1, 1) := by decide +kernel
theorem dX12_isStep_42 : decode cX12_isStep 42 = .ok (.goto 4, 3) := by decide +kernel
theorem dX12_isStep_30 : decode cX12_isStep 30 = .ok (.iconst 0, 1) := by decide +kernel
theorem dX12_isStep_31 : decode cX12_isStep 31 = .ok (.goto 4, 3) := by decide +kernel
theorem dX12_error_0 : decode cX12_error 0 = .ok (.aload_n 0, 1) := by decide +kernel
theorem dX12_error_1 : decode cX12_error 1 = .ok (.iload_n 1, 1) := by decide +kernel
theorem dX12_error_2 : decode cX12_error 2 = .ok (.ifCond .lt 20, 3) := by decide +kernel
theorem dX12_error_22 : decode cX12_error 22 = .ok (.iconst 1, 1) := by decide +kernel
theorem dX12_error_23 : decode cX12_error 23 = .ok (.goto 4, 3) := by decide +kernel
theorem dX12_error_27 : decode cX12_error 27 = .ok (.invokevirtual 171, 3) := by decide +kernel
theorem dX12_error_30 : decode cX12_error 30 = .ok (.ifCond .eq 7, 3) := by decide +kernel
theorem dX12_error_33 : decode cX12_error 33 = .ok (.iconst 0, 1) := by decide +kernel
theorem dX12_error_34 : decode cX12_error 34 = .ok (.goto 13, 3) := by decide +kernel
theorem dX12_error_47 : decode cX12_error 47 = .ok (.ireturn, 1) := by decide +kernel
theorem dX12_error_5 : decode cX12_error 5 = .ok (.iload_n 1, 1) := by decide +kernel
theorem dX12_error_6 : decode cX12_error 6 = .ok (.aload_n 0, 1) := by decide +kernel
theorem dX12_error_7 : decode cX12_error 7 = .ok (.getfield 57, 3) := by decide +kernel
theorem dX12_error_10 : decode cX12_error 10 = .ok (.if_icmp .ge 12, 3) := by decide +kernel
theorem dX12_error_13 : decode cX12_error 13 = .ok (.iload_n 2, 1) := by decide +kernel
theorem dX12_error_14 : decode cX12_error 14 = .ok (.ifCond .lt 8, 3) := by decide +kernel
theorem dX12_error_17 : decode cX12_error 17 = .ok (.iload_n 2, 1) := by decide +kernel
theorem dX12_error_18 : decode cX12_error 18 = .ok (.iconst 1, 1) := by decide +kernel
theorem dX12_error_19 : decode cX12_error 19 = .ok (.if_icmp .le 7, 3) := by decide +kernel
theorem dX12_error_26 : decode cX12_error 26 = .ok (.iconst 0, 1) := by decide +kernel
theorem dX12_error_37 : decode cX12_error 37 = .ok (.aload_n 0, 1) := by decide +kernel
theorem dX12_error_38 : decode cX12_error 38 = .ok (.getfield 60, 3) := by decide +kernel
theorem dX12_error_41 : decode cX12_error 41 = .ok (.iconst 2, 1) := by decide +kernel
theorem dX12_error_42 : decode cX12_error 42 = .ok (.iload_n 1, 1) := by decide +kernel
theorem dX12_error_43 : decode cX12_error 43 = .ok (.imul, 1) := by decide +kernel
theorem dX12_error_44 : decode cX12_error 44 = .ok (.iload_n 2, 1) := by decide +kernel
theorem dX12_error_45 : decode cX12_error 45 = .ok (.iadd, 1) := by decide +kernel
theorem dX12_error_46 : decode cX12_error 46 = .ok (.iaload, 1) := by decide +kernel
theorem dX12_story_0 : decode cX12_story 0 = .ok (.aload_n 0, 1) := by decide +kernel
theorem dX12_story_1 : decode cX12_story 1 = .ok (.iload_n 1, 1) := by decide +kernel
theorem dX12_story_2 : decode cX12_story 2 = .ok (.ifCond .lt 20, 3) := by decide +kernel
theorem dX12_story_22 : decode cX12_story 22 = .ok (.iconst 1, 1) := by decide +kernel
theorem dX12_story_23 : decode cX12_story 23 = .ok (.goto 4, 3) := by decide +kernel
theorem dX12_story_27 : decode cX12_story 27 = .ok (.invokevirtual 171, 3) := by decide +kernel
theorem dX12_story_30 : decode cX12_story 30 = .ok (.ifCond .eq 5, 3) := by decide +kernel
theorem dX12_story_33 : decode cX12_story 33 = .ok (.iconst 0, 1) := by decide +kernel
theorem dX12_story_34 : decode cX12_story 34 = .ok (.ireturn, 1) := by decide +kernel
theorem dX12_story_5 : decode cX12_story 5 = .ok (.iload_n 1, 1) := by decide +kernel
theorem dX12_story_6 : decode cX12_story 6 = .ok (.aload_n 0, 1) := by decide +kernel
theorem dX12_story_7 : decode cX12_story 7 = .ok (.getfield 165, 3) := by decide +kernel
theorem dX12_story_10 : decode cX12_story 10 = .ok (.if_icmp .ge 12, 3) := by decide +kernel
theorem dX12_story_13 : decode cX12_story 13 = .ok (.iload_n 2, 1) := by decide +kernel
theorem dX12_story_14 : decode cX12_story 14 = .ok (.ifCond .lt 8, 3) := by decide +kernel
theorem dX12_story_17 : decode cX12_story 17 = .ok (.iload_n 2, 1) := by decide +kernel
theorem dX12_story_18 : decode cX12_story 18 = .ok (.iconst 4, 1) := by decide +kernel
theorem dX12_story_19 : decode cX12_story 19 = .ok (.if_icmp .le 7, 3) := by decide +kernel
theorem dX12_story_26 : decode cX12_story 26 = .ok (.iconst 0, 1) := by decide +kernel
theorem dX12_story_35 : decode cX12_story 35 = .ok (.iload_n 2, 1) := by decide +kernel
theorem dX12_story_36 : decode cX12_story 36 = .ok (.iconst 3, 1) := by decide +kernel
theorem dX12_story_37 : decode cX12_story 37 = .ok (.if_icmp .ne 28, 3) := by decide +kernel
theorem dX12_story_65 : decode cX12_story 65 = .ok (.iload_n 2, 1) := by decide +kernel
theorem dX12_story_66 : decode cX12_story 66 = .ok (.ifCond .ne 11, 3) := by decide +kernel
theorem dX12_story_77 : decode cX12_story 77 = .ok (.iload_n 2, 1) := by decide +kernel
theorem dX12_story_78 : decode cX12_story 78 = .ok (.iconst 1, 1) := by decide +kernel
theorem dX12_story_79 : decode cX12_story 79 = .ok (.if_icmp .ne 12, 3) := by decide +kernel
theorem dX12_story_91 : decode cX12_story 91 = .ok (.iload_n 2, 1) := by decide +kernel
theorem dX12_story_92 : decode cX12_story 92 = .ok (.iconst 2, 1) := by decide +kernel
theorem dX12_story_93 : decode cX12_story 93 = .ok (.if_icmp .ne 17, 3) := by decide +kernel
theorem dX12_story_110 : decode cX12_story 110 = .ok (.aload_n 0, 1) := by decide +kernel
theorem dX12_story_111 : decode cX12_story 111 = .ok (.getfield 207, 3) := by decide +kernel
theorem dX12_story_114 : decode cX12_story 114 = .ok (.iload_n 1, 1) := by decide +kernel
theorem dX12_story_115 : decode cX12_story 115 = .ok (.iaload, 1) := by decide +kernel
theorem dX12_story_116 : decode cX12_story 116 = .ok (.ireturn, 1) := by decide +kernel
theorem dX12_story_96 : decode cX12_story 96 = .ok (.aload_n 0, 1) := by decide +kernel
theorem dX12_story_97 : decode cX12_story 97 = .ok (.getfield 132, 3) := by decide +kernel
theorem dX12_story_100 : decode cX12_story 100 = .ok (.aload_n 0, 1) := by decide +kernel
theorem dX12_story_101 : decode cX12_story 101 = .ok (.getfield 195, 3) := by decide +kernel
theorem dX12_story_104 : decode cX12_story 104 = .ok (.iload_n 1, 1) := by decide +kernel
theorem dX12_story_105 : decode cX12_story 105 = .ok (.iaload, 1) := by decide +kernel
theorem dX12_story_106 : decode cX12_story 106 = .ok (.iaload, 1) := by decide +kernel
theorem dX12_story_107 : decode cX12_story 107 = .ok (.goto 9, 3) := by decide +kernel
theorem dX12_story_82 : decode cX12_story 82 = .ok (.aload_n 0, 1) := by decide +kernel
theorem dX12_story_83 : decode cX12_story 83 = .ok (.getfield 204, 3) := by decide +kernel
theorem dX12_story_86 : decode cX12_story 86 = .ok (.iload_n 1, 1) := by decide +kernel
theorem dX12_story_87 : decode cX12_story 87 = .ok (.iaload, 1) := by decide +kernel
theorem dX12_story_88 : decode cX12_story 88 = .ok (.goto 28, 3) := by decide +kernel
theorem dX12_story_69 : decode cX12_story 69 = .ok (.aload_n 0, 1) := by decide +kernel
theorem dX12_story_70 : decode cX12_story 70 = .ok (.iload_n 1, 1) := by decide +kernel
theorem dX12_story_71 : decode cX12_story 71 = .ok (.invokevirtual 529, 3) := by decide +kernel
theorem dX12_story_74 : decode cX12_story 74 = .ok (.goto 42, 3) := by decide +kernel
theorem dX12_story_40 : decode cX12_story 40 = .ok (.aload_n 0, 1) := by decide +kernel
theorem dX12_story_41 : decode cX12_story 41 = .ok (.getfield 201, 3) := by decide +kernel
theorem dX12_story_44 : decode cX12_story 44 = .ok (.iload_n 1, 1) := by decide +kernel
theorem dX12_story_45 : decode cX12_story 45 = .ok (.iaload, 1) := by decide +kernel
theorem dX12_story_46 : decode cX12_story 46 = .ok (.ifCond .ge 7, 3) := by decide +kernel
theorem dX12_story_53 : decode cX12_story 53 = .ok (.aload_n 0, 1) := by decide +kernel
theorem dX12_story_54 : decode cX12_story 54 = .ok (.getfield 86, 3) := by decide +kernel
theorem dX12_story_57 : decode cX12_story 57 = .ok (.aload_n 0, 1) := by decide +kernel
theorem dX12_story_58 : decode cX12_story 58 = .ok (.getfield 201, 3) := by decide +kernel
theorem dX12_story_61 : decode cX12_story 61 = .ok (.iload_n 1, 1) := by decide +kernel
theorem dX12_story_62 : decode cX12_story 62 = .ok (.iaload, 1) := by decide +kernel
theorem dX12_story_63 : decode cX12_story 63 = .ok (.iaload, 1) := by decide +kernel
theorem dX12_story_64 : decode cX12_story 64 = .ok (.ireturn, 1) := by decide +kernel
theorem dX12_story_49 : decode cX12_story 49 = .ok (.iconst 0, 1) := by decide +kernel
theorem dX12_story_50 : decode cX12_story 50 = .ok (.goto 14, 3) := by decide +kernel
theorem dX12_step__0 : decode cX12_step_ 0 = .ok (.aload_n 0, 1) := by decide +kernel
theorem dX12_step__1 : decode cX12_step_ 1 = .ok (.aload_n 0, 1) := by decide +kernel
theorem dX12_step__2 : decode cX12_step_ 2 = .ok (.iload_n 1, 1) := by decide +kernel
theorem dX12_step__3 : decode cX12_step_ 3 = .ok (.iload_n 2, 1) := by decide +kernel
theorem dX12_step__4 : decode cX12_step_ 4 = .ok (.invokevirtual 554, 3) := by decide +kernel
theorem dX12_step__7 : decode cX12_step_ 7 = .ok (.ifCond .eq 25, 3) := by decide +kernel
theorem dX12_step__32 : decode cX12_step_ 32 = .ok (.iconst 1, 1) := by decide +kernel
theorem dX12_step__33 : decode cX12_step_ 33 = .ok (.goto 4, 3) := by decide +kernel
theorem dX12_step__37 : decode cX12_step_ 37 = .ok (.invokevirtual 171, 3) := by decide +kernel
theorem dX12_step__40 : decode cX12_step_ 40 = .ok (.ifCond .eq 5, 3) := by decide +kernel
theorem dX12_step__43 : decode cX12_step_ 43 = .ok (.iconst 0, 1) := by decide +kernel
theorem dX12_step__44 : decode cX12_step_ 44 = .ok (.ireturn, 1) := by decide +kernel
theorem dX12_step__10 : decode cX12_step_ 10 = .ok (.iload_n 3, 1) := by decide +kernel
theorem dX12_step__11 : decode cX12_step_ 11 = .ok (.ifCond .lt 21, 3) := by decide +kernel
theorem dX12_step__14 : decode cX12_step_ 14 = .ok (.iload_n 3, 1) := by decide +kernel
theorem dX12_step__15 : decode cX12_step_ 15 = .ok (.iconst 3, 1) := by decide +kernel
theorem dX12_step__16 : decode cX12_step_ 16 = .ok (.if_icmp .le 9, 3) := by decide +kernel
theorem dX12_step__25 : decode cX12_step_ 25 = .ok (.iload_n 3, 1) := by decide +kernel
theorem dX12_step__26 : decode cX12_step_ 26 = .ok (.sipush 160, 3) := by decide +kernel
theorem dX12_step__29 : decode cX12_step_ 29 = .ok (.if_icmp .le 7, 3) := by decide +kernel
theorem dX12_step__36 : decode cX12_step_ 36 = .ok (.iconst 0, 1) := by decide +kernel
theorem dX12_step__45 : decode cX12_step_ 45 = .ok (.aload_n 0, 1) := by decide +kernel
theorem dX12_step__46 : decode cX12_step_ 46 = .ok (.iload_n 1, 1) := by decide +kernel
theorem dX12_step__47 : decode cX12_step_ 47 = .ok (.iload_n 2, 1) := by decide +kernel
theorem dX12_step__48 : decode cX12_step_ 48 = .ok (.invokevirtual 238, 3) := by decide +kernel
theorem dX12_step__51 : decode cX12_step_ 51 = .ok (.istore 4, 2) := by decide +kernel
theorem dX12_step__53 : decode cX12_step_ 53 = .ok (.aload_n 0, 1) := by decide +kernel
theorem dX12_step__54 : decode cX12_step_ 54 = .ok (.iload_n 1, 1) := by decide +kernel
theorem dX12_step__55 : decode cX12_step_ 55 = .ok (.iload_n 2, 1) := by decide +kernel
theorem dX12_step__56 : decode cX12_step_ 56 = .ok (.invokevirtual 477, 3) := by decide +kernel
theorem dX12_step__59 : decode cX12_step_ 59 = .ok (.iload_n 3, 1) := by decide +kernel
theorem dX12_step__60 : decode cX12_step_ 60 = .ok (.bipush 100, 2) := by decide +kernel
theorem dX12_step__62 : decode cX12_step_ 62 = .ok (.if_icmp .lt 28, 3) := by decide +kernel
theorem dX12_step__90 : decode cX12_step_ 90 = .ok (.iload_n 3, 1) := by decide +kernel
theorem dX12_step__91 : decode cX12_step_ 91 = .ok (.ifCond .ne 13, 3) := by decide +kernel
theorem dX12_step__104 : decode cX12_step_ 104 = .ok (.iload_n 3, 1) := by decide +kernel
theorem dX12_step__105 : decode cX12_step_ 105 = .ok (.iconst 1, 1) := by decide +kernel
theorem dX12_step__106 : decode cX12_step_ 106 = .ok (.if_icmp .ne 19, 3) := by decide +kernel
theorem dX12_step__125 : decode cX12_step_ 125 = .ok (.iload_n 3, 1) := by decide +kernel
theorem dX12_step__126 : decode cX12_step_ 126 = .ok (.iconst 2, 1) := by decide +kernel
theorem dX12_step__127 : decode cX12_step_ 127 = .ok (.if_icmp .ne 10, 3) := by decide +kernel
theorem dX12_step__137 : decode cX12_step_ 137 = .ok (.aload_n 0, 1) := by decide +kernel
theorem dX12_step__138 : decode cX12_step_ 138 = .ok (.invokevirtual 363, 3) := by decide +kernel
theorem dX12_step__141 : decode cX12_step_ 141 = .ok (.ireturn, 1) := by decide +kernel
theorem dX12_step__130 : decode cX12_step_ 130 = .ok (.aload_n 0, 1) := by decide +kernel
theorem dX12_step__131 : decode cX12_step_ 131 = .ok (.invokevirtual 539, 3) := by decide +kernel
theorem dX12_step__134 : decode cX12_step_ 134 = .ok (.goto 7, 3) := by decide +kernel
theorem dX12_step__109 : decode cX12_step_ 109 = .ok (.aload_n 0, 1) := by decide +kernel
theorem dX12_step__110 : decode cX12_step_ 110 = .ok (.getfield 67, 3) := by decide +kernel
theorem dX12_step__113 : decode cX12_step_ 113 = .ok (.aload_n 0, 1) := by decide +kernel
theorem dX12_step__114 : decode cX12_step_ 114 = .ok (.getfield 70, 3) := by decide +kernel
theorem dX12_step__117 : decode cX12_step_ 117 = .ok (.iload 4, 2) := by decide +kernel
theorem dX12_step__119 : decode cX12_step_ 119 = .ok (.invokestatic 214, 3) := by decide +kernel
theorem dX12_step__122 : decode cX12_step_ 122 = .ok (.goto 19, 3) := by decide +kernel
theorem dX12_step__94 : decode cX12_step_ 94 = .ok (.aload_n 0, 1) := by decide +kernel
theorem dX12_step__95 : decode cX12_step_ 95 = .ok (.getfield 108, 3) := by decide +kernel
theorem dX12_step__98 : decode cX12_step_ 98 = .ok (.iload 4, 2) := by decide +kernel
theorem dX12_step__100 : decode cX12_step_ 100 = .ok (.iaload, 1) := by decide +kernel
theorem dX12_step__101 : decode cX12_step_ 101 = .ok (.goto 40, 3) := by decide +kernel
theorem dX12_step__19 : decode cX12_step_ 19 = .ok (.iload_n 3, 1) := by decide +kernel
theorem dX12_step__20 : decode cX12_step_ 20 = .ok (.bipush 100, 2) := by decide +kernel
theorem dX12_step__22 : decode cX12_step_ 22 = .ok (.if_icmp .lt 10, 3) := by decide +kernel
theorem dX12_step__65 : decode cX12_step_ 65 = .ok (.iload_n 3, 1) := by decide +kernel
theorem dX12_step__66 : decode cX12_step_ 66 = .ok (.bipush 100, 2) := by decide +kernel
theorem dX12_step__68 : decode cX12_step_ 68 = .ok (.isub, 1) := by decide +kernel
theorem dX12_step__69 : decode cX12_step_ 69 = .ok (.aload_n 0, 1) := by decide +kernel
theorem dX12_step__70 : decode cX12_step_ 70 = .ok (.getfield 224, 3) := by decide +kernel
theorem dX12_step__73 : decode cX12_step_ 73 = .ok (.if_icmp .ge 15, 3) := by decide +kernel
theorem dX12_step__88 : decode cX12_step_ 88 = .ok (.iconst (-1), 1) := by decide +kernel
theorem dX12_step__89 : decode cX12_step_ 89 = .ok (.ireturn, 1) := by decide +kernel
theorem dX12_step__76 : decode cX12_step_ 76 = .ok (.aload_n 0, 1) := by decide +kernel
theorem dX12_step__77 : decode cX12_step_ 77 = .ok (.getfield 227, 3) := by decide +kernel
theorem dX12_step__80 : decode cX12_step_ 80 = .ok (.iload_n 3, 1) := by decide +kernel
theorem dX12_step__81 : decode cX12_step_ 81 = .ok (.bipush 100, 2) := by decide +kernel
theorem dX12_step__83 : decode cX12_step_ 83 = .ok (.isub, 1) := by decide +kernel
theorem dX12_step__84 : decode cX12_step_ 84 = .ok (.caload, 1) := by decide +kernel
theorem dX12_step__85 : decode cX12_step_ 85 = .ok (.goto 4, 3) := by decide +kernel
theorem dX12_argument_0 : decode cX12_argument 0 = .ok (.aload_n 0, 1) := by decide +kernel
theorem dX12_argument_1 : decode cX12_argument 1 = .ok (.aload_n 0, 1) := by decide +kernel
theorem dX12_argument_2 : decode cX12_argument 2 = .ok (.iload_n 1, 1) := by decide +kernel
theorem dX12_argument_3 : decode cX12_argument 3 = .ok (.iload_n 2, 1) := by decide +kernel
theorem dX12_argument_4 : decode cX12_argument 4 = .ok (.invokevirtual 554, 3) := by decide +kernel
theorem dX12_argument_7 : decode cX12_argument 7 = .ok (.ifCond .eq 7, 3) := by decide +kernel
theorem dX12_argument_14 : decode cX12_argument 14 = .ok (.iconst 1, 1) := by decide +kernel
theorem dX12_argument_15 : decode cX12_argument 15 = .ok (.invokevirtual 171, 3) := by decide +kernel
theorem dX12_argument_18 : decode cX12_argument 18 = .ok (.ifCond .eq 5, 3) := by decide +kernel
theorem dX12_argument_21 : decode cX12_argument 21 = .ok (.iconst 0, 1) := by decide +kernel
theorem dX12_argument_22 : decode cX12_argument 22 = .ok (.ireturn, 1) := by decide +kernel
theorem dX12_argument_10 : decode cX12_argument 10 = .ok (.iconst 0, 1) := by decide +kernel
theorem dX12_argument_11 : decode cX12_argument 11 = .ok (.goto 4, 3) := by decide +kernel
theorem dX12_argument_23 : decode cX12_argument 23 = .ok (.aload_n 0, 1) := by decide +kernel
theorem dX12_argument_24 : decode cX12_argument 24 = .ok (.iload_n 1, 1) := by decide +kernel
theorem dX12_argument_25 : decode cX12_argument 25 = .ok (.iload_n 2, 1) := by decide +kernel
theorem dX12_argument_26 : decode cX12_argument 26 = .ok (.invokevirtual 477, 3) := by decide +kernel
theorem dX12_argument_29 : decode cX12_argument 29 = .ok (.aload_n 0, 1) := by decide +kernel
theorem dX12_argument_30 : decode cX12_argument 30 = .ok (.aload_n 0, 1) := by decide +kernel
theorem dX12_argument_31 : decode cX12_argument 31 = .ok (.invokevirtual 539, 3) := by decide +kernel
theorem dX12_argument_34 : decode cX12_argument 34 = .ok (.ifCond .ge 7, 3) := by decide +kernel
theorem dX12_argument_41 : decode cX12_argument 41 = .ok (.iload_n 3, 1) := by decide +kernel
theorem dX12_argument_42 : decode cX12_argument 42 = .ok (.ifCond .lt 11, 3) := by decide +kernel
theorem dX12_argument_53 : decode cX12_argument 53 = .ok (.iconst 1, 1) := by decide +kernel
theorem dX12_argument_54 : decode cX12_argument 54 = .ok (.goto 4, 3) := by decide +kernel
theorem dX12_argument_58 : decode cX12_argument 58 = .ok (.invokevirtual 171, 3) := by decide +kernel
theorem dX12_argument_61 : decode cX12_argument 61 = .ok (.ifCond .eq 7, 3) := by decide +kernel
theorem dX12_argument_64 : decode cX12_argument 64 = .ok (.iconst 0, 1) := by decide +kernel
theorem dX12_argument_65 : decode cX12_argument 65 = .ok (.goto 26, 3) := by decide +kernel
theorem dX12_argument_91 : decode cX12_argument 91 = .ok (.ireturn, 1) := by decide +kernel
theorem dX12_argument_45 : decode cX12_argument 45 = .ok (.iload_n 3, 1) := by decide +kernel
theorem dX12_argument_46 : decode cX12_argument 46 = .ok (.aload_n 0, 1) := by decide +kernel
theorem dX12_argument_47 : decode cX12_argument 47 = .ok (.getfield 348, 3) := by decide +kernel
theorem dX12_argument_50 : decode cX12_argument 50 = .ok (.if_icmp .lt 7, 3) := by decide +kernel
theorem dX12_argument_57 : decode cX12_argument 57 = .ok (.iconst 0, 1) := by decide +kernel
theorem dX12_argument_68 : decode cX12_argument 68 = .ok (.bipush 100, 2) := by decide +kernel
theorem dX12_argument_70 : decode cX12_argument 70 = .ok (.aload_n 0, 1) := by decide +kernel
theorem dX12_argument_71 : decode cX12_argument 71 = .ok (.getfield 354, 3) := by decide +kernel
theorem dX12_argument_74 : decode cX12_argument 74 = .ok (.iload_n 3, 1) := by decide +kernel
theorem dX12_argument_75 : decode cX12_argument 75 = .ok (.iaload, 1) := by decide +kernel
theorem dX12_argument_76 : decode cX12_argument 76 = .ok (.imul, 1) := by decide +kernel
theorem dX12_argument_77 : decode cX12_argument 77 = .ok (.aload_n 0, 1) := by decide +kernel
theorem dX12_argument_78 : decode cX12_argument 78 = .ok (.getfield 357, 3) := by decide +kernel
theorem dX12_argument_81 : decode cX12_argument 81 = .ok (.iload_n 3, 1) := by decide +kernel
theorem dX12_argument_82 : decode cX12_argument 82 = .ok (.iaload, 1) := by decide +kernel
theorem dX12_argument_83 : decode cX12_argument 83 = .ok (.iadd, 1) := by decide +kernel
theorem dX12_argument_84 : decode cX12_argument 84 = .ok (.aload_n 0, 1) := by decide +kernel
theorem dX12_argument_85 : decode cX12_argument 85 = .ok (.getfield 354, 3) := by decide +kernel
theorem dX12_argument_88 : decode cX12_argument 88 = .ok (.iload_n 3, 1) := by decide +kernel
theorem dX12_argument_89 : decode cX12_argument 89 = .ok (.iaload, 1) := by decide +kernel
theorem dX12_argument_90 : decode cX12_argument 90 = .ok (.isub, 1) := by decide +kernel
theorem dX12_argument_37 : decode cX12_argument 37 = .ok (.iconst 2, 1) := by decide +kernel
theorem dX12_argument_38 : decode cX12_argument 38 = .ok (.goto 20, 3) := by decide +kernel
theorem dX12_cell_0 : decode cX12_cell 0 = .ok (.aload_n 0, 1) := by decide +kernel
theorem dX12_cell_1 : decode cX12_cell 1 = .ok (.aload_n 0, 1) := by decide +kernel
theorem dX12_cell_2 : decode cX12_cell 2 = .ok (.iload_n 1, 1) := by decide +kernel
theorem dX12_cell_3 : decode cX12_cell 3 = .ok (.iload_n 2, 1) := by decide +kernel
theorem dX12_cell_4 : decode cX12_cell 4 = .ok (.invokevirtual 554, 3) := by decide +kernel
theorem dX12_cell_7 : decode cX12_cell 7 = .ok (.ifCond .eq 24, 3) := by decide +kernel
theorem dX12_cell_31 : decode cX12_cell 31 = .ok (.iconst 1, 1) := by decide +kernel
theorem dX12_cell_32 : decode cX12_cell 32 = .ok (.goto 4, 3) := by decide +kernel
theorem dX12_cell_36 : decode cX12_cell 36 = .ok (.invokevirtual 171, 3) := by decide +kernel
theorem dX12_cell_39 : decode cX12_cell 39 = .ok (.ifCond .eq 5, 3) := by decide +kernel
theorem dX12_cell_42 : decode cX12_cell 42 = .ok (.iconst 0, 1) := by decide +kernel
theorem dX12_cell_43 : decode cX12_cell 43 = .ok (.ireturn, 1) := by decide +kernel
theorem dX12_cell_10 : decode cX12_cell 10 = .ok (.iload_n 3, 1) := by decide +kernel
theorem dX12_cell_11 : decode cX12_cell 11 = .ok (.ifCond .lt 20, 3) := by decide +kernel
theorem dX12_cell_14 : decode cX12_cell 14 = .ok (.iload 4, 2) := by decide +kernel
theorem dX12_cell_16 : decode cX12_cell 16 = .ok (.ifCond .lt 15, 3) := by decide +kernel
theorem dX12_cell_19 : decode cX12_cell 19 = .ok (.iload 5, 2) := by decide +kernel
theorem dX12_cell_21 : decode cX12_cell 21 = .ok (.ifCond .lt 10, 3) := by decide +kernel
theorem dX12_cell_24 : decode cX12_cell 24 = .ok (.iload 5, 2) := by decide +kernel
theorem dX12_cell_26 : decode cX12_cell 26 = .ok (.bipush 60, 2) := by decide +kernel
theorem dX12_cell_28 : decode cX12_cell 28 = .ok (.if_icmp .le 7, 3) := by decide +kernel
theorem dX12_cell_35 : decode cX12_cell 35 = .ok (.iconst 0, 1) := by decide +kernel
theorem dX12_cell_44 : decode cX12_cell 44 = .ok (.aload_n 0, 1) := by decide +kernel
theorem dX12_cell_45 : decode cX12_cell 45 = .ok (.iload_n 1, 1) := by decide +kernel
theorem dX12_cell_46 : decode cX12_cell 46 = .ok (.iload_n 2, 1) := by decide +kernel
theorem dX12_cell_47 : decode cX12_cell 47 = .ok (.invokevirtual 238, 3) := by decide +kernel
theorem dX12_cell_50 : decode cX12_cell 50 = .ok (.istore 6, 2) := by decide +kernel
theorem dX12_cell_52 : decode cX12_cell 52 = .ok (.aload_n 0, 1) := by decide +kernel
theorem dX12_cell_53 : decode cX12_cell 53 = .ok (.getfield 67, 3) := by decide +kernel
theorem dX12_cell_56 : decode cX12_cell 56 = .ok (.aload_n 0, 1) := by decide +kernel
theorem dX12_cell_57 : decode cX12_cell 57 = .ok (.getfield 70, 3) := by decide +kernel
theorem dX12_cell_60 : decode cX12_cell 60 = .ok (.iload 6, 2) := by decide +kernel
theorem dX12_cell_62 : decode cX12_cell 62 = .ok (.iload_n 3, 1) := by decide +kernel
theorem dX12_cell_63 : decode cX12_cell 63 = .ok (.invokestatic 73, 3) := by decide +kernel
theorem dX12_cell_66 : decode cX12_cell 66 = .ok (.istore 7, 2) := by decide +kernel
theorem dX12_cell_68 : decode cX12_cell 68 = .ok (.aload_n 0, 1) := by decide +kernel
theorem dX12_cell_69 : decode cX12_cell 69 = .ok (.iload 7, 2) := by decide +kernel
theorem dX12_cell_71 : decode cX12_cell 71 = .ok (.ifCond .lt 24, 3) := by decide +kernel
theorem dX12_cell_95 : decode cX12_cell 95 = .ok (.iconst 1, 1) := by decide +kernel
theorem dX12_cell_96 : decode cX12_cell 96 = .ok (.goto 4, 3) := by decide +kernel
theorem dX12_cell_100 : decode cX12_cell 100 = .ok (.invokevirtual 171, 3) := by decide +kernel
theorem dX12_cell_103 : decode cX12_cell 103 = .ok (.ifCond .eq 5, 3) := by decide +kernel
theorem dX12_cell_106 : decode cX12_cell 106 = .ok (.iconst 0, 1) := by decide +kernel
theorem dX12_cell_107 : decode cX12_cell 107 = .ok (.ireturn, 1) := by decide +kernel
theorem dX12_cell_74 : decode cX12_cell 74 = .ok (.iload 4, 2) := by decide +kernel
theorem dX12_cell_76 : decode cX12_cell 76 = .ok (.aload_n 0, 1) := by decide +kernel
theorem dX12_cell_77 : decode cX12_cell 77 = .ok (.getfield 83, 3) := by decide +kernel
theorem dX12_cell_80 : decode cX12_cell 80 = .ok (.iload 7, 2) := by decide +kernel
theorem dX12_cell_82 : decode cX12_cell 82 = .ok (.ifCond .ge 7, 3) := by decide +kernel
theorem dX12_cell_89 : decode cX12_cell 89 = .ok (.iload 7, 2) := by decide +kernel
theorem dX12_cell_91 : decode cX12_cell 91 = .ok (.iaload, 1) := by decide +kernel
theorem dX12_cell_92 : decode cX12_cell 92 = .ok (.if_icmp .lt 7, 3) := by decide +kernel
theorem dX12_cell_99 : decode cX12_cell 99 = .ok (.iconst 0, 1) := by decide +kernel
theorem dX12_cell_108 : decode cX12_cell 108 = .ok (.aload_n 0, 1) := by decide +kernel
theorem dX12_cell_109 : decode cX12_cell 109 = .ok (.iload_n 1, 1) := by decide +kernel
theorem dX12_cell_110 : decode cX12_cell 110 = .ok (.iload 6, 2) := by decide +kernel
theorem dX12_cell_112 : decode cX12_cell 112 = .ok (.iload 7, 2) := by decide +kernel
theorem dX12_cell_114 : decode cX12_cell 114 = .ok (.iload 4, 2) := by decide +kernel
theorem dX12_cell_116 : decode cX12_cell 116 = .ok (.invokevirtual 450, 3) := by decide +kernel
theorem dX12_cell_119 : decode cX12_cell 119 = .ok (.iload 5, 2) := by decide +kernel
theorem dX12_cell_121 : decode cX12_cell 121 = .ok (.aload_n 0, 1) := by decide +kernel
theorem dX12_cell_122 : decode cX12_cell 122 = .ok (.getfield 224, 3) := by decide +kernel
theorem dX12_cell_125 : decode cX12_cell 125 = .ok (.if_icmp .ge 13, 3) := by decide +kernel
theorem dX12_cell_138 : decode cX12_cell 138 = .ok (.iconst (-1), 1) := by decide +kernel
theorem dX12_cell_139 : decode cX12_cell 139 = .ok (.ireturn, 1) := by decide +kernel
theorem dX12_cell_128 : decode cX12_cell 128 = .ok (.aload_n 0, 1) := by decide +kernel
theorem dX12_cell_129 : decode cX12_cell 129 = .ok (.getfield 227, 3) := by decide +kernel
theorem dX12_cell_132 : decode cX12_cell 132 = .ok (.iload 5, 2) := by decide +kernel
theorem dX12_cell_134 : decode cX12_cell 134 = .ok (.caload, 1) := by decide +kernel
theorem dX12_cell_135 : decode cX12_cell 135 = .ok (.goto 4, 3) := by decide +kernel
theorem gX12_isStep_X12_caseSteps : GoodIn wsX12_isStep (wsV RX12 529 RX12 yX12_caseSteps wsX12_caseSteps) := goodIn_app (goodIn_sub (List.forall_mem_cons.mpr ⟨(List.mem_cons_of_mem _ (List.mem_append_left _ lm1)), List.forall_mem_cons.mpr ⟨(List.mem_cons_of_mem _ (List.mem_append_left _ lm2)), List.forall_mem_cons.mpr ⟨(List.mem_cons_of_mem _ (List.mem_append_left _ lm3)), List.forall_mem_cons.mpr ⟨(List.mem_cons_of_mem _ (List.mem_append_left _ lm4)), (fun _ h => absurd h List.not_mem_nil)⟩⟩⟩⟩) (by decide +kernel)) (goodIn_sub (by unfold wsX12_caseSteps; exact List.forall_mem_cons.mpr ⟨(List.mem_cons_of_mem _ (List.mem_append_left _ lm5)), List.forall_mem_append.mpr ⟨List.forall_mem_cons.mpr ⟨(List.mem_cons_of_mem _ (List.mem_append_left _ lm6)), List.forall_mem_cons.mpr ⟨(List.mem_cons_of_mem _ (List.mem_append_left _ lm7)), List.forall_mem_cons.mpr ⟨(List.mem_cons_of_mem _ (List.mem_append_left _ lm8)), List.forall_mem_cons.mpr ⟨(List.mem_cons_of_mem _ (List.mem_append_left _ lm9)), List.forall_mem_cons.mpr ⟨(List.mem_cons_of_mem _ (List.mem_append_left _ lm10)), List.forall_mem_cons.mpr ⟨(List.mem_cons_of_mem _ (List.mem_append_left _ lm4)), List.forall_mem_cons.mpr ⟨(List.mem_cons_of_mem _ (List.mem_append_left _ lm11)), List.forall_mem_cons.mpr ⟨(List.mem_cons_of_mem _ (List.mem_append_left _ lm12)), List.forall_mem_cons.mpr ⟨(List.mem_cons_of_mem _ (List.mem_append_left _ lm13)), List.forall_mem_cons.mpr ⟨(List.mem_cons_of_mem _ (List.mem_append_left _ lm14)), List.forall_mem_cons.mpr ⟨(List.mem_cons_of_mem _ (List.mem_append_left _ lm15)), List.forall_mem_cons.mpr ⟨(List.mem_cons_of_mem _ (List.mem_append_left _ lm16)), (fun _ h => absurd h List.not_mem_nil)⟩⟩⟩⟩⟩⟩⟩⟩⟩⟩⟩⟩, (fun _ h => (List.mem_cons_of_mem _ (List.mem_append_right _ h)))⟩⟩) gw_X12_caseSteps)
theorem gX12_error_X12_throwsNow : GoodIn wsX12_error (wsV RX12 171 RX12 yX12_throwsNow wsX12_throwsNow) := goodIn_app (goodIn_sub (List.forall_mem_cons.mpr ⟨(List.mem_cons_of_mem _ (List.mem_append_left _ lm2)), List.forall_mem_cons.mpr ⟨(List.mem_cons_of_mem _ (List.mem_append_left _ lm3)), List.forall_mem_cons.mpr ⟨(List.mem_cons_of_mem _ (List.mem_append_left _ lm4)), List.forall_mem_cons.mpr ⟨(List.mem_cons_of_mem _ (List.mem_append_left _ lm5)), (fun _ h => absurd h List.not_mem_nil)⟩⟩⟩⟩) (by decide +kernel)) (goodIn_sub (by unfold wsX12_throwsNow; exact List.forall_mem_cons.mpr ⟨(List.mem_cons_of_mem _ (List.mem_append_left _ lm6)), List.forall_mem_append.mpr ⟨List.forall_mem_cons.mpr ⟨(List.mem_cons_of_mem _ (List.mem_append_left _ lm7)), (fun _ h => absurd h List.not_mem_nil)⟩, (fun _ h => (List.mem_cons_of_mem _ (List.mem_append_right _ h)))⟩⟩) gw_X12_throwsNow)
theorem gX12_story_X12_throwsNow : GoodIn wsX12_story (wsV RX12 171 RX12 yX12_throwsNow wsX12_throwsNow) := goodIn_app (goodIn_sub (List.forall_mem_cons.mpr ⟨(List.mem_cons_of_mem _ (List.mem_append_left _ (List.mem_append_left _ lm7))), List.forall_mem_cons.mpr ⟨(List.mem_cons_of_mem _ (List.mem_append_left _ (List.mem_append_left _ lm8))), List.forall_mem_cons.mpr ⟨(List.mem_cons_of_mem _ (List.mem_append_left _ (List.mem_append_left _ lm9))), List.forall_mem_cons.mpr ⟨(List.mem_cons_of_mem _ (List.mem_append_left _ (List.mem_append_left _ lm10))), (fun _ h => absurd h List.not_mem_nil)⟩⟩⟩⟩) (by decide +kernel)) (goodIn_sub (by unfold wsX12_throwsNow; exact List.forall_mem_cons.mpr ⟨(List.mem_cons_of_mem _ (List.mem_append_left _ (List.mem_append_left _ lm11))), List.forall_mem_append.mpr ⟨List.forall_mem_cons.mpr ⟨(List.mem_cons_of_mem _ (List.mem_append_left _ (List.mem_append_left _ lm12))), (fun _ h => absurd h List.not_mem_nil)⟩, (fun _ h => (List.mem_cons_of_mem _ (List.mem_append_right _ h)))⟩⟩) gw_X12_throwsNow)
theorem gX12_story_X12_caseSteps : GoodIn wsX12_story (wsV RX12 529 RX12 yX12_caseSteps wsX12_caseSteps) := goodIn_app (goodIn_sub (List.forall_mem_cons.mpr ⟨(List.mem_cons_of_mem _ (List.mem_append_left _ (List.mem_append_left _ lm13))), List.forall_mem_cons.mpr ⟨(List.mem_cons_of_mem _ (List.mem_append_left _ (List.mem_append_left _ lm14))), List.forall_mem_cons.mpr ⟨(List.mem_cons_of_mem _ (List.mem_append_left _ (List.mem_append_left _ lm15))), List.forall_mem_cons.mpr ⟨(List.mem_cons_of_mem _ (List.mem_append_left _ (List.mem_append_left _ lm10))), (fun _ h => absurd h List.not_mem_nil)⟩⟩⟩⟩) (by decide +kernel)) (goodIn_sub (by unfold wsX12_caseSteps; exact List.forall_mem_cons.mpr ⟨(List.mem_cons_of_mem _ (List.mem_append_left _ (List.mem_append_left _ lm16))), List.forall_mem_append.mpr ⟨List.forall_mem_cons.mpr ⟨(List.mem_cons_of_mem _ (List.mem_append_left _ (List.mem_append_left _ lm5))), List.forall_mem_cons.mpr ⟨(List.mem_cons_of_mem _ (List.mem_append_left _ (List.mem_append_left _ lm17))), List.forall_mem_cons.mpr ⟨(List.mem_cons_of_mem _ (List.mem_append_left _ (List.mem_append_left _ lm18))), List.forall_mem_cons.mpr ⟨(List.mem_cons_of_mem _ (List.mem_append_left _ (List.mem_append_left _ lm19))), List.forall_mem_cons.mpr ⟨(List.mem_cons_of_mem _ (List.mem_append_left _ (List.mem_append_left _ lm20))), List.forall_mem_cons.mpr ⟨(List.mem_cons_of_mem _ (List.mem_append_left _ (List.mem_append_left _ lm10))), List.forall_mem_cons.mpr ⟨(List.mem_cons_of_mem _ (List.mem_append_left _ (List.mem_append_left _ lm21))), List.forall_mem_cons.mpr ⟨(List.mem_cons_of_mem _ (List.mem_append_left _ (List.mem_append_left _ lm22))), List.forall_mem_cons.mpr ⟨(List.mem_cons_of_mem _ (List.mem_append_left _ (List.mem_append_left _ lm23))), List.forall_mem_cons.mpr ⟨(List.mem_cons_of_mem _ (List.mem_append_left _ (List.mem_append_right _ lm0))), List.forall_mem_cons.mpr ⟨(List.mem_cons_of_mem _ (List.mem_append_left _ (List.mem_append_right _ lm1))), List.forall_mem_cons.mpr ⟨(List.mem_cons_of_mem _ (List.mem_append_left _ (List.mem_append_right _ lm2))), (fun _ h => absurd h List.not_mem_nil)⟩⟩⟩⟩⟩⟩⟩⟩⟩⟩⟩⟩, (fun _ h => (List.mem_cons_of_mem _ (List.mem_append_right _ h)))⟩⟩) gw_X12_caseSteps)
theorem gw_X12_isStep : wsX12_isStep.all goodWord = true := by decide +kernel
theorem gX12_step__X12_isStep : GoodIn wsX12_step_ (wsV RX12 554 RX12 yX12_isStep wsX12_isStep) := goodIn_app (goodIn_sub (List.forall_mem_cons.mpr ⟨(List.mem_cons_of_mem _ (List.mem_append_left _ (List.mem_append_left _ lm5))), List.forall_mem_cons.mpr ⟨(List.mem_cons_of_mem _ (List.mem_append_left _ (List.mem_append_left _ lm6))), List.forall_mem_cons.mpr ⟨(List.mem_cons_of_mem _ (List.mem_append_left _ (List.mem_append_left _ lm7))), List.forall_mem_cons.mpr ⟨(List.mem_cons_of_mem _ (List.mem_append_left _ (List.mem_append_left _ lm8))), (fun _ h => absurd h List.not_mem_nil)⟩⟩⟩⟩) (by decide +kernel)) (goodIn_sub (by unfold wsX12_isStep; exact List.forall_mem_cons.mpr ⟨(List.mem_cons_of_mem _ (List.mem_append_left _ (List.mem_append_left _ lm9))), List.forall_mem_append.mpr ⟨List.forall_mem_cons.mpr ⟨(List.mem_cons_of_mem _ (List.mem_append_left _ (List.mem_append_left _ lm10))), List.forall_mem_cons.mpr ⟨(List.mem_cons_of_mem _ (List.mem_append_left _ (List.mem_append_left _ lm11))), List.forall_mem_cons.mpr ⟨(List.mem_cons_of_mem _ (List.mem_append_left _ (List.mem_append_left _ lm12))), List.forall_mem_cons.mpr ⟨(List.mem_cons_of_mem _ (List.mem_append_left _ (List.mem_append_left _ lm13))), List.forall_mem_cons.mpr ⟨(List.mem_cons_of_mem _ (List.mem_append_left _ (List.mem_append_left _ lm8))), List.forall_mem_cons.mpr ⟨(List.mem_cons_of_mem _ (List.mem_append_left _ (List.mem_append_left _ lm14))), List.forall_mem_cons.mpr ⟨(List.mem_cons_of_mem _ (List.mem_append_left _ (List.mem_append_left _ lm15))), List.forall_mem_cons.mpr ⟨(List.mem_cons_of_mem _ (List.mem_append_left _ (List.mem_append_left _ lm16))), List.forall_mem_cons.mpr ⟨(List.mem_cons_of_mem _ (List.mem_append_left _ (List.mem_append_left _ lm17))), List.forall_mem_cons.mpr ⟨(List.mem_cons_of_mem _ (List.mem_append_left _ (List.mem_append_left _ lm18))), List.forall_mem_cons.mpr ⟨(List.mem_cons_of_mem _ (List.mem_append_left _ (List.mem_append_left _ lm19))), List.forall_mem_cons.mpr ⟨(List.mem_cons_of_mem _ (List.mem_append_left _ (List.mem_append_left _ lm20))), List.forall_mem_cons.mpr ⟨(List.mem_cons_of_mem _ (List.mem_append_left _ (List.mem_append_left _ lm21))), List.forall_mem_cons.mpr ⟨(List.mem_cons_of_mem _ (List.mem_append_left _ (List.mem_append_left _ lm22))), List.forall_mem_cons.mpr ⟨(List.mem_cons_of_mem _ (List.mem_append_left _ (List.mem_append_left _ lm23))), List.forall_mem_cons.mpr ⟨(List.mem_cons_of_mem _ (List.mem_append_left _ (List.mem_append_right _ (List.mem_append_left _ lm0)))), List.forall_mem_cons.mpr ⟨(List.mem_cons_of_mem _ (List.mem_append_left _ (List.mem_append_right _ (List.mem_append_left _ lm1)))), (fun _ h => absurd h List.not_mem_nil)⟩⟩⟩⟩⟩⟩⟩⟩⟩⟩⟩⟩⟩⟩⟩⟩⟩, (fun _ h => (List.mem_cons_of_mem _ (List.mem_append_right _ h)))⟩⟩) gw_X12_isStep)
theorem gX12_step__X12_throwsNow : GoodIn wsX12_step_ (wsV RX12 171 RX12 yX12_throwsNow wsX12_throwsNow) := goodIn_app (goodIn_sub (List.forall_mem_cons.mpr ⟨(List.mem_cons_of_mem _ (List.mem_append_left _ (List.mem_append_right _ (List.mem_append_left _ lm2)))), List.forall_mem_cons.mpr ⟨(List.mem_cons_of_mem _ (List.mem_append_left _ (List.mem_append_right _ (List.mem_append_left _ lm3)))), List.forall_mem_cons.mpr ⟨(List.mem_cons_of_mem _ (List.mem_append_left _ (List.mem_append_right _ (List.mem_append_left _ lm4)))), List.forall_mem_cons.mpr ⟨(List.mem_cons_of_mem _ (List.mem_append_left _ (List.mem_append_left _ lm8))), (fun _ h => absurd h List.not_mem_nil)⟩⟩⟩⟩) (by decide +kernel)) (goodIn_sub (by unfold wsX12_throwsNow; exact List.forall_mem_cons.mpr ⟨(List.mem_cons_of_mem _ (List.mem_append_left _ (List.mem_append_right _ (List.mem_append_left _ lm5)))), List.forall_mem_append.mpr ⟨List.forall_mem_cons.mpr ⟨(List.mem_cons_of_mem _ (List.mem_append_left _ (List.mem_append_right _ (List.mem_append_left _ lm6)))), (fun _ h => absurd h List.not_mem_nil)⟩, (fun _ h => (List.mem_cons_of_mem _ (List.mem_append_right _ h)))⟩⟩) gw_X12_throwsNow)
theorem gX12_step__X12_caseStep : GoodIn wsX12_step_ (wsV RX12 238 RX12 yX12_caseStep wsX12_caseStep) := goodIn_app (goodIn_sub (List.forall_mem_cons.mpr ⟨(List.mem_cons_of_mem _ (List.mem_append_left _ (List.mem_append_right _ (List.mem_append_left _ lm7)))), List.forall_mem_cons.mpr ⟨(List.mem_cons_of_mem _ (List.mem_append_left _ (List.mem_append_right _ (List.mem_append_left _ lm8)))), List.forall_mem_cons.mpr ⟨(List.mem_cons_of_mem _ (List.mem_append_left _ (List.mem_append_right _ (List.mem_append_left _ lm9)))), List.forall_mem_cons.mpr ⟨(List.mem_cons_of_mem _ (List.mem_append_left _ (List.mem_append_left _ lm8))), (fun _ h => absurd h List.not_mem_nil)⟩⟩⟩⟩) (by decide +kernel)) (goodIn_sub (by unfold wsX12_caseStep; exact List.forall_mem_cons.mpr ⟨(List.mem_cons_of_mem _ (List.mem_append_left _ (List.mem_append_right _ (List.mem_append_left _ lm10)))), List.forall_mem_append.mpr ⟨List.forall_mem_cons.mpr ⟨(List.mem_cons_of_mem _ (List.mem_append_left _ (List.mem_append_left _ lm15))), List.forall_mem_cons.mpr ⟨(List.mem_cons_of_mem _ (List.mem_append_left _ (List.mem_append_left _ lm16))), List.forall_mem_cons.mpr ⟨(List.mem_cons_of_mem _ (List.mem_append_left _ (List.mem_append_left _ lm17))), List.forall_mem_cons.mpr ⟨(List.mem_cons_of_mem _ (List.mem_append_left _ (List.mem_append_left _ lm18))), List.forall_mem_cons.mpr ⟨(List.mem_cons_of_mem _ (List.mem_append_left _ (List.mem_append_left _ lm19))), List.forall_mem_cons.mpr ⟨(List.mem_cons_of_mem _ (List.mem_append_left _ (List.mem_append_left _ lm8))), List.forall_mem_cons.mpr ⟨(List.mem_cons_of_mem _ (List.mem_append_left _ (List.mem_append_left _ lm20))), List.forall_mem_cons.mpr ⟨(List.mem_cons_of_mem _ (List.mem_append_left _ (List.mem_append_left _ lm21))), List.forall_mem_cons.mpr ⟨(List.mem_cons_of_mem _ (List.mem_append_left _ (List.mem_append_left _ lm22))), List.forall_mem_cons.mpr ⟨(List.mem_cons_of_mem _ (List.mem_append_left _ (List.mem_append_left _ lm23))), List.forall_mem_cons.mpr ⟨(List.mem_cons_of_mem _ (List.mem_append_left _ (List.mem_append_right _ (List.mem_append_left _ lm0)))), List.forall_mem_cons.mpr ⟨(List.mem_cons_of_mem _ (List.mem_append_left _ (List.mem_append_right _ (List.mem_append_left _ lm1)))), List.forall_mem_cons.mpr ⟨(List.mem_cons_of_mem _ (List.mem_append_left _ (List.mem_append_right _ (List.mem_append_left _ lm11)))), List.forall_mem_cons.mpr ⟨(List.mem_cons_of_mem _ (List.mem_append_left _ (List.mem_append_right _ (List.mem_append_left _ lm12)))), List.forall_mem_cons.mpr ⟨(List.mem_cons_of_mem _ (List.mem_append_left _ (List.mem_append_right _ (List.mem_append_left _ lm13)))), List.forall_mem_cons.mpr ⟨(List.mem_cons_of_mem _ (List.mem_append_left _ (List.mem_append_right _ (List.mem_append_left _ lm14)))), List.forall_mem_cons.mpr ⟨(List.mem_cons_of_mem _ (List.mem_append_left _ (List.mem_append_right _ (List.mem_append_left _ lm15)))), List.forall_mem_cons.mpr ⟨(List.mem_cons_of_mem _ (List.mem_append_left _ (List.mem_append_right _ (List.mem_append_left _ lm16)))), List.forall_mem_cons.mpr ⟨(List.mem_cons_of_mem _ (List.mem_append_left _ (List.mem_append_right _ (List.mem_append_left _ lm17)))), (fun _ h => absurd h List.not_mem_nil)⟩⟩⟩⟩⟩⟩⟩⟩⟩⟩⟩⟩⟩⟩⟩⟩⟩⟩⟩, (fun _ h => (List.mem_cons_of_mem _ (List.mem_append_right _ h)))⟩⟩) gw_X12_caseStep)
theorem gX12_step__X12_load : GoodIn wsX12_step_ (wsV RX12 477 RX12 yX12_load wsX12_load) := goodIn_app (goodIn_sub (List.forall_mem_cons.mpr ⟨(List.mem_cons_of_mem _ (List.mem_append_left _ (List.mem_append_right _ (List.mem_append_left _ lm18)))), List.forall_mem_cons.mpr ⟨(List.mem_cons_of_mem _ (List.mem_append_left _ (List.mem_append_right _ (List.mem_append_left _ lm19)))), List.forall_mem_cons.mpr ⟨(List.mem_cons_of_mem _ (List.mem_append_left _ (List.mem_append_right _ (List.mem_append_left _ lm20)))), List.forall_mem_cons.mpr ⟨(List.mem_cons_of_mem _ (List.mem_append_left _ (List.mem_append_left _ lm8))), (fun _ h => absurd h List.not_mem_nil)⟩⟩⟩⟩) (by decide +kernel)) (goodIn_sub (by unfold wsX12_load; exact List.forall_mem_cons.mpr ⟨(List.mem_cons_of_mem _ (List.mem_append_left _ (List.mem_append_right _ (List.mem_append_left _ lm21)))), List.forall_mem_append.mpr ⟨List.forall_mem_append.mpr ⟨List.forall_mem_cons.mpr ⟨(List.mem_cons_of_mem _ (List.mem_append_left _ (List.mem_append_left _ lm21))), List.forall_mem_cons.mpr ⟨(List.mem_cons_of_mem _ (List.mem_append_left _ (List.mem_append_left _ lm15))), List.forall_mem_cons.mpr ⟨(List.mem_cons_of_mem _ (List.mem_append_left _ (List.mem_append_right _ (List.mem_append_left _ lm22)))), List.forall_mem_cons.mpr ⟨(List.mem_cons_of_mem _ (List.mem_append_left _ (List.mem_append_right _ (List.mem_append_left _ lm23)))), List.forall_mem_cons.mpr ⟨(List.mem_cons_of_mem _ (List.mem_append_left _ (List.mem_append_right _ (List.mem_append_right _ (List.mem_append_left _ lm0))))), List.forall_mem_cons.mpr ⟨(List.mem_cons_of_mem _ (List.mem_append_left _ (List.mem_append_right _ (List.mem_append_right _ (List.mem_append_left _ lm1))))), List.forall_mem_cons.mpr ⟨(List.mem_cons_of_mem _ (List.mem_append_left _ (List.mem_append_right _ (List.mem_append_left _ lm7)))), List.forall_mem_cons.mpr ⟨(List.mem_cons_of_mem _ (List.mem_append_left _ (List.mem_append_right _ (List.mem_append_left _ lm8)))), List.forall_mem_cons.mpr ⟨(List.mem_cons_of_mem _ (List.mem_append_left _ (List.mem_append_right _ (List.mem_append_left _ lm9)))), List.forall_mem_cons.mpr ⟨(List.mem_cons_of_mem _ (List.mem_append_left _ (List.mem_append_left _ lm8))), List.forall_mem_cons.mpr ⟨(List.mem_cons_of_mem _ (List.mem_append_left _ (List.mem_append_right _ (List.mem_append_left _ lm10)))), List.forall_mem_cons.mpr ⟨(List.mem_cons_of_mem _ (List.mem_append_left _ (List.mem_append_left _ lm16))), List.forall_mem_cons.mpr ⟨(List.mem_cons_of_mem _ (List.mem_append_left _ (List.mem_append_left _ lm17))), List.forall_mem_cons.mpr ⟨(List.mem_cons_of_mem _ (List.mem_append_left _ (List.mem_append_left _ lm18))), List.forall_mem_cons.mpr ⟨(List.mem_cons_of_mem _ (List.mem_append_left _ (List.mem_append_left _ lm19))), List.forall_mem_cons.mpr ⟨(List.mem_cons_of_mem _ (List.mem_append_left _ (List.mem_append_left _ lm20))), List.forall_mem_cons.mpr ⟨(List.mem_cons_of_mem _ (List.mem_append_left _ (List.mem_append_left _ lm22))), List.forall_mem_cons.mpr ⟨(List.mem_cons_of_mem _ (List.mem_append_left _ (List.mem_append_left _ lm23))), List.forall_mem_cons.mpr ⟨(List.mem_cons_of_mem _ (List.mem_append_left _ (List.mem_append_right _ (List.mem_append_left _ lm0)))), List.forall_mem_cons.mpr ⟨(List.mem_cons_of_mem _ (List.mem_append_left _ (List.mem_append_right _ (List.mem_append_left _ lm1)))), List.forall_mem_cons.mpr ⟨(List.mem_cons_of_mem _ (List.mem_append_left _ (List.mem_append_right _ (List.mem_append_left _ lm11)))), List.forall_mem_cons.mpr ⟨(List.mem_cons_of_mem _ (List.mem_append_left _ (List.mem_append_right _ (List.mem_append_left _ lm12)))), List.forall_mem_cons.mpr ⟨(List.mem_cons_of_mem _ (List.mem_append_left _ (List.mem_append_right _ (List.mem_append_left _ lm13)))), List.forall_mem_cons.mpr ⟨(List.mem_cons_of_mem _ (List.mem_append_left _ (List.mem_append_right _ (List.mem_append_left _ lm14)))), (fun _ h => absurd h List.not_mem_nil)⟩⟩⟩⟩⟩⟩⟩⟩⟩⟩⟩⟩⟩⟩⟩⟩⟩⟩⟩⟩⟩⟩⟩⟩, List.forall_mem_cons.mpr ⟨(List.mem_cons_of_mem _ (List.mem_append_left _ (List.mem_append_right _ (List.mem_append_left _ lm15)))), List.forall_mem_cons.mpr ⟨(List.mem_cons_of_mem _ (List.mem_append_left _ (List.mem_append_right _ (List.mem_append_left _ lm16)))), List.forall_mem_cons.mpr ⟨(List.mem_cons_of_mem _ (List.mem_append_left _ (List.mem_append_right _ (List.mem_append_left _ lm17)))), List.forall_mem_cons.mpr ⟨(List.mem_cons_of_mem _ (List.mem_append_left _ (List.mem_append_right _ (List.mem_append_right _ (List.mem_append_left _ lm2))))), List.forall_mem_cons.mpr ⟨(List.mem_cons_of_mem _ (List.mem_append_left _ (List.mem_append_right _ (List.mem_append_right _ (List.mem_append_left _ lm3))))), List.forall_mem_cons.mpr ⟨(List.mem_cons_of_mem _ (List.mem_append_left _ (List.mem_append_right _ (List.mem_append_right _ (List.mem_append_left _ lm4))))), List.forall_mem_cons.mpr ⟨(List.mem_cons_of_mem _ (List.mem_append_left _ (List.mem_append_right _ (List.mem_append_right _ (List.mem_append_left _ lm5))))), List.forall_mem_cons.mpr ⟨(List.mem_cons_of_mem _ (List.mem_append_left _ (List.mem_append_left _ lm0))), List.forall_mem_cons.mpr ⟨(List.mem_cons_of_mem _ (List.mem_append_left _ (List.mem_append_right _ (List.mem_append_right _ (List.mem_append_left _ lm6))))), List.forall_mem_cons.mpr ⟨(List.mem_cons_of_mem _ (List.mem_append_left _ (List.mem_append_right _ (List.mem_append_right _ (List.mem_append_left _ lm7))))), List.forall_mem_cons.mpr ⟨(List.mem_cons_of_mem _ (List.mem_append_left _ (List.mem_append_right _ (List.mem_append_right _ (List.mem_append_left _ lm8))))), List.forall_mem_cons.mpr ⟨(List.mem_cons_of_mem _ (List.mem_append_left _ (List.mem_append_right _ (List.mem_append_right _ (List.mem_append_left _ lm9))))), List.forall_mem_cons.mpr ⟨(List.mem_cons_of_mem _ (List.mem_append_left _ (List.mem_append_right _ (List.mem_append_right _ (List.mem_append_left _ lm10))))), List.forall_mem_cons.mpr ⟨(List.mem_cons_of_mem _ (List.mem_append_left _ (List.mem_append_right _ (List.mem_append_right _ (List.mem_append_left _ lm11))))), List.forall_mem_cons.mpr ⟨(List.mem_cons_of_mem _ (List.mem_append_left _ (List.mem_append_right _ (List.mem_append_right _ (List.mem_append_left _ lm12))))), List.forall_mem_cons.mpr ⟨(List.mem_cons_of_mem _ (List.mem_append_left _ (List.mem_append_right _ (List.mem_append_right _ (List.mem_append_left _ lm13))))), List.forall_mem_cons.mpr ⟨(List.mem_cons_of_mem _ (List.mem_append_left _ (List.mem_append_right _ (List.mem_append_right _ (List.mem_append_left _ lm14))))), List.forall_mem_cons.mpr ⟨(List.mem_cons_of_mem _ (List.mem_append_left _ (List.mem_append_right _ (List.mem_append_right _ (List.mem_append_left _ lm15))))), List.forall_mem_cons.mpr ⟨(List.mem_cons_of_mem _ (List.mem_append_left _ (List.mem_append_right _ (List.mem_append_right _ (List.mem_append_left _ lm16))))), List.forall_mem_cons.mpr ⟨(List.mem_cons_of_mem _ (List.mem_append_left _ (List.mem_append_left _ lm1))), (fun _ h => absurd h List.not_mem_nil)⟩⟩⟩⟩⟩⟩⟩⟩⟩⟩⟩⟩⟩⟩⟩⟩⟩⟩⟩⟩⟩, (fun _ h => (List.mem_cons_of_mem _ (List.mem_append_right _ h)))⟩⟩) gw_X12_load)
theorem gX12_step__X12_fitting : GoodIn wsX12_step_ (wsV RX12 363 RX12 yX12_fitting wsX12_fitting) := goodIn_app (goodIn_sub (List.forall_mem_cons.mpr ⟨(List.mem_cons_of_mem _ (List.mem_append_left _ (List.mem_append_right _ (List.mem_append_right _ (List.mem_append_left _ lm22))))), List.forall_mem_cons.mpr ⟨(List.mem_cons_of_mem _ (List.mem_append_left _ (List.mem_append_right _ (List.mem_append_right _ (List.mem_append_left _ lm23))))), List.forall_mem_cons.mpr ⟨(List.mem_cons_of_mem _ (List.mem_append_left _ (List.mem_append_right _ (List.mem_append_right _ (List.mem_append_right _ (List.mem_append_left _ lm0)))))), List.forall_mem_cons.mpr ⟨(List.mem_cons_of_mem _ (List.mem_append_left _ (List.mem_append_left _ lm8))), (fun _ h => absurd h List.not_mem_nil)⟩⟩⟩⟩) (by decide +kernel)) (goodIn_sub (by unfold wsX12_fitting; exact List.forall_mem_cons.mpr ⟨(List.mem_cons_of_mem _ (List.mem_append_left _ (List.mem_append_right _ (List.mem_append_right _ (List.mem_append_right _ (List.mem_append_left _ lm1)))))), List.forall_mem_append.mpr ⟨List.forall_mem_append.mpr ⟨List.forall_mem_cons.mpr ⟨(List.mem_cons_of_mem _ (List.mem_append_left _ (List.mem_append_right _ (List.mem_append_right _ (List.mem_append_left _ lm21))))), List.forall_mem_cons.mpr ⟨(List.mem_cons_of_mem _ (List.mem_append_left _ (List.mem_append_right _ (List.mem_append_right _ (List.mem_append_right _ (List.mem_append_left _ lm2)))))), List.forall_mem_cons.mpr ⟨(List.mem_cons_of_mem _ (List.mem_append_left _ (List.mem_append_right _ (List.mem_append_right _ (List.mem_append_right _ (List.mem_append_left _ lm3)))))), List.forall_mem_cons.mpr ⟨(List.mem_cons_of_mem _ (List.mem_append_left _ (List.mem_append_right _ (List.mem_append_right _ (List.mem_append_right _ (List.mem_append_left _ lm4)))))), List.forall_mem_cons.mpr ⟨(List.mem_cons_of_mem _ (List.mem_append_left _ (List.mem_append_left _ lm8))), List.forall_mem_cons.mpr ⟨(List.mem_cons_of_mem _ (List.mem_append_left _ (List.mem_append_right _ (List.mem_append_right _ (List.mem_append_right _ (List.mem_append_left _ lm5)))))), List.forall_mem_cons.mpr ⟨(List.mem_cons_of_mem _ (List.mem_append_left _ (List.mem_append_right _ (List.mem_append_right _ (List.mem_append_right _ (List.mem_append_left _ lm6)))))), List.forall_mem_cons.mpr ⟨(List.mem_cons_of_mem _ (List.mem_append_left _ (List.mem_append_right _ (List.mem_append_right _ (List.mem_append_right _ (List.mem_append_left _ lm7)))))), List.forall_mem_cons.mpr ⟨(List.mem_cons_of_mem _ (List.mem_append_left _ (List.mem_append_right _ (List.mem_append_right _ (List.mem_append_right _ (List.mem_append_left _ lm8)))))), List.forall_mem_cons.mpr ⟨(List.mem_cons_of_mem _ (List.mem_append_left _ (List.mem_append_right _ (List.mem_append_right _ (List.mem_append_right _ (List.mem_append_left _ lm9)))))), List.forall_mem_cons.mpr ⟨(List.mem_cons_of_mem _ (List.mem_append_left _ (List.mem_append_left _ lm0))), List.forall_mem_cons.mpr ⟨(List.mem_cons_of_mem _ (List.mem_append_left _ (List.mem_append_right _ (List.mem_append_right _ (List.mem_append_right _ (List.mem_append_left _ lm10)))))), List.forall_mem_cons.mpr ⟨(List.mem_cons_of_mem _ (List.mem_append_left _ (List.mem_append_right _ (List.mem_append_right _ (List.mem_append_right _ (List.mem_append_left _ lm11)))))), List.forall_mem_cons.mpr ⟨(List.mem_cons_of_mem _ (List.mem_append_left _ (List.mem_append_right _ (List.mem_append_right _ (List.mem_append_right _ (List.mem_append_left _ lm12)))))), List.forall_mem_cons.mpr ⟨(List.mem_cons_of_mem _ (List.mem_append_left _ (List.mem_append_right _ (List.mem_append_right _ (List.mem_append_right _ (List.mem_append_left _ lm13)))))), List.forall_mem_cons.mpr ⟨(List.mem_cons_of_mem _ (List.mem_append_left _ (List.mem_append_right _ (List.mem_append_right _ (List.mem_append_right _ (List.mem_append_left _ lm14)))))), List.forall_mem_cons.mpr ⟨(List.mem_cons_of_mem _ (List.mem_append_left _ (List.mem_append_right _ (List.mem_append_right _ (List.mem_append_right _ (List.mem_append_left _ lm15)))))), List.forall_mem_cons.mpr ⟨(List.mem_cons_of_mem _ (List.mem_append_left _ (List.mem_append_right _ (List.mem_append_right _ (List.mem_append_right _ (List.mem_append_left _ lm16)))))), List.forall_mem_cons.mpr ⟨(List.mem_cons_of_mem _ (List.mem_append_left _ (List.mem_append_right _ (List.mem_append_right _ (List.mem_append_right _ (List.mem_append_left _ lm17)))))), List.forall_mem_cons.mpr ⟨(List.mem_cons_of_mem _ (List.mem_append_left _ (List.mem_append_right _ (List.mem_append_right _ (List.mem_append_right _ (List.mem_append_left _ lm18)))))), List.forall_mem_cons.mpr ⟨(List.mem_cons_of_mem _ (List.mem_append_left _ (List.mem_append_right _ (List.mem_append_right _ (List.mem_append_right _ (List.mem_append_left _ lm19)))))), List.forall_mem_cons.mpr ⟨(List.mem_cons_of_mem _ (List.mem_append_left _ (List.mem_append_right _ (List.mem_append_right _ (List.mem_append_right _ (List.mem_append_left _ lm20)))))), List.forall_mem_cons.mpr ⟨(List.mem_cons_of_mem _ (List.mem_append_left _ (List.mem_append_right _ (List.mem_append_right _ (List.mem_append_right _ (List.mem_append_left _ lm21)))))), List.forall_mem_cons.mpr ⟨(List.mem_cons_of_mem _ (List.mem_append_left _ (List.mem_append_right _ (List.mem_append_right _ (List.mem_append_right _ (List.mem_append_left _ lm22)))))), (fun _ h => absurd h List.not_mem_nil)⟩⟩⟩⟩⟩⟩⟩⟩⟩⟩⟩⟩⟩⟩⟩⟩⟩⟩⟩⟩⟩⟩⟩⟩, List.forall_mem_append.mpr ⟨List.forall_mem_cons.mpr ⟨(List.mem_cons_of_mem _ (List.mem_append_left _ (List.mem_append_right _ (List.mem_append_right _ (List.mem_append_right _ (List.mem_append_left _ lm23)))))), List.forall_mem_cons.mpr ⟨(List.mem_cons_of_mem _ (List.mem_append_left _ (List.mem_append_right _ (List.mem_append_right _ (List.mem_append_right _ (List.mem_append_right _ (List.mem_append_left _ lm0))))))), List.forall_mem_cons.mpr ⟨(List.mem_cons_of_mem _ (List.mem_append_left _ (List.mem_append_right _ (List.mem_append_right _ (List.mem_append_right _ (List.mem_append_right _ (List.mem_append_left _ lm1))))))), List.forall_mem_cons.mpr ⟨(List.mem_cons_of_mem _ (List.mem_append_left _ (List.mem_append_right _ (List.mem_append_right _ (List.mem_append_right _ (List.mem_append_right _ (List.mem_append_left _ lm2))))))), List.forall_mem_cons.mpr ⟨(List.mem_cons_of_mem _ (List.mem_append_left _ (List.mem_append_right _ (List.mem_append_right _ (List.mem_append_right _ (List.mem_append_right _ (List.mem_append_left _ lm3))))))), List.forall_mem_cons.mpr ⟨(List.mem_cons_of_mem _ (List.mem_append_left _ (List.mem_append_right _ (List.mem_append_right _ (List.mem_append_right _ (List.mem_append_right _ (List.mem_append_left _ lm4))))))), List.forall_mem_cons.mpr ⟨(List.mem_cons_of_mem _ (List.mem_append_left _ (List.mem_append_right _ (List.mem_append_right _ (List.mem_append_right _ (List.mem_append_right _ (List.mem_append_left _ lm5))))))), List.forall_mem_cons.mpr ⟨(List.mem_cons_of_mem _ (List.mem_append_left _ (List.mem_append_right _ (List.mem_append_right _ (List.mem_append_right _ (List.mem_append_right _ (List.mem_append_left _ lm6))))))), List.forall_mem_cons.mpr ⟨(List.mem_cons_of_mem _ (List.mem_append_left _ (List.mem_append_right _ (List.mem_append_right _ (List.mem_append_right _ (List.mem_append_right _ (List.mem_append_left _ lm7))))))), List.forall_mem_cons.mpr ⟨(List.mem_cons_of_mem _ (List.mem_append_left _ (List.mem_append_right _ (List.mem_append_right _ (List.mem_append_right _ (List.mem_append_right _ (List.mem_append_left _ lm8))))))), List.forall_mem_cons.mpr ⟨(List.mem_cons_of_mem _ (List.mem_append_left _ (List.mem_append_right _ (List.mem_append_right _ (List.mem_append_right _ (List.mem_append_right _ (List.mem_append_left _ lm9))))))), List.forall_mem_cons.mpr ⟨(List.mem_cons_of_mem _ (List.mem_append_left _ (List.mem_append_right _ (List.mem_append_right _ (List.mem_append_right _ (List.mem_append_right _ (List.mem_append_left _ lm10))))))), List.forall_mem_cons.mpr ⟨(List.mem_cons_of_mem _ (List.mem_append_left _ (List.mem_append_right _ (List.mem_append_right _ (List.mem_append_right _ (List.mem_append_right _ (List.mem_append_left _ lm11))))))), List.forall_mem_cons.mpr ⟨(List.mem_cons_of_mem _ (List.mem_append_left _ (List.mem_append_right _ (List.mem_append_right _ (List.mem_append_right _ (List.mem_append_right _ (List.mem_append_left _ lm12))))))), List.forall_mem_cons.mpr ⟨(List.mem_cons_of_mem _ (List.mem_append_left _ (List.mem_append_right _ (List.mem_append_right _ (List.mem_append_right _ (List.mem_append_right _ (List.mem_append_left _ lm13))))))), List.forall_mem_cons.mpr ⟨(List.mem_cons_of_mem _ (List.mem_append_left _ (List.mem_append_right _ (List.mem_append_right _ (List.mem_append_right _ (List.mem_append_right _ (List.mem_append_left _ lm14))))))), List.forall_mem_cons.mpr ⟨(List.mem_cons_of_mem _ (List.mem_append_left _ (List.mem_append_right _ (List.mem_append_right _ (List.mem_append_right _ (List.mem_append_right _ (List.mem_append_left _ lm15))))))), List.forall_mem_cons.mpr ⟨(List.mem_cons_of_mem _ (List.mem_append_left _ (List.mem_append_right _ (List.mem_append_right _ (List.mem_append_right _ (List.mem_append_right _ (List.mem_append_left _ lm16))))))), List.forall_mem_cons.mpr ⟨(List.mem_cons_of_mem _ (List.mem_append_left _ (List.mem_append_right _ (List.mem_append_right _ (List.mem_append_right _ (List.mem_append_right _ (List.mem_append_left _ lm17))))))), List.forall_mem_cons.mpr ⟨(List.mem_cons_of_mem _ (List.mem_append_left _ (List.mem_append_right _ (List.mem_append_right _ (List.mem_append_right _ (List.mem_append_right _ (List.mem_append_left _ lm18))))))), List.forall_mem_cons.mpr ⟨(List.mem_cons_of_mem _ (List.mem_append_left _ (List.mem_append_right _ (List.mem_append_right _ (List.mem_append_right _ (List.mem_append_right _ (List.mem_append_left _ lm19))))))), List.forall_mem_cons.mpr ⟨(List.mem_cons_of_mem _ (List.mem_append_left _ (List.mem_append_right _ (List.mem_append_right _ (List.mem_append_right _ (List.mem_append_right _ (List.mem_append_left _ lm20))))))), List.forall_mem_cons.mpr ⟨(List.mem_cons_of_mem _ (List.mem_append_left _ (List.mem_append_right _ (List.mem_append_right _ (List.mem_append_right _ (List.mem_append_right _ (List.mem_append_left _ lm21))))))), List.forall_mem_cons.mpr ⟨(List.mem_cons_of_mem _ (List.mem_append_left _ (List.mem_append_right _ (List.mem_append_right _ (List.mem_append_right _ (List.mem_append_right _ (List.mem_append_left _ lm22))))))), (fun _ h => absurd h List.not_mem_nil)⟩⟩⟩⟩⟩⟩⟩⟩⟩⟩⟩⟩⟩⟩⟩⟩⟩⟩⟩⟩⟩⟩⟩⟩, List.forall_mem_append.mpr ⟨List.forall_mem_cons.mpr ⟨(List.mem_cons_of_mem _ (List.mem_append_left _ (List.mem_append_right _ (List.mem_append_right _ (List.mem_append_right _ (List.mem_append_right _ (List.mem_append_left _ lm23))))))), List.forall_mem_cons.mpr ⟨(List.mem_cons_of_mem _ (List.mem_append_left _ (List.mem_append_right _ (List.mem_append_right _ (List.mem_append_right _ (List.mem_append_right _ (List.mem_append_right _ (List.mem_append_left _ lm0)))))))), List.forall_mem_cons.mpr ⟨(List.mem_cons_of_mem _ (List.mem_append_left _ (List.mem_append_right _ (List.mem_append_right _ (List.mem_append_right _ (List.mem_append_right _ (List.mem_append_right _ (List.mem_append_left _ lm1)))))))), List.forall_mem_cons.mpr ⟨(List.mem_cons_of_mem _ (List.mem_append_left _ (List.mem_append_right _ (List.mem_append_right _ (List.mem_append_right _ (List.mem_append_right _ (List.mem_append_right _ (List.mem_append_left _ lm2)))))))), List.forall_mem_cons.mpr ⟨(List.mem_cons_of_mem _ (List.mem_append_left _ (List.mem_append_right _ (List.mem_append_right _ (List.mem_append_right _ (List.mem_append_right _ (List.mem_append_right _ (List.mem_append_left _ lm3)))))))), List.forall_mem_cons.mpr ⟨(List.mem_cons_of_mem _ (List.mem_append_left _ (List.mem_append_right _ (List.mem_append_right _ (List.mem_append_right _ (List.mem_append_right _ (List.mem_append_right _ (List.mem_append_left _ lm4)))))))), List.forall_mem_cons.mpr ⟨(List.mem_cons_of_mem _ (List.mem_append_left _ (List.mem_append_right _ (List.mem_append_right _ (List.mem_append_right _ (List.mem_append_right _ (List.mem_append_right _ (List.mem_append_left _ lm5)))))))), List.forall_mem_cons.mpr ⟨(List.mem_cons_of_mem _ (List.mem_append_left _ (List.mem_append_right _ (List.mem_append_right _ (List.mem_append_right _ (List.mem_append_right _ (List.mem_append_right _ (List.mem_append_left _ lm6)))))))), List.forall_mem_cons.mpr ⟨(List.mem_cons_of_mem _ (List.mem_append_left _ (List.mem_append_right _ (List.mem_append_right _ (List.mem_append_right _ (List.mem_append_right _ (List.mem_append_right _ (List.mem_append_left _ lm7)))))))), List.forall_mem_cons.mpr ⟨(List.mem_cons_of_mem _ (List.mem_append_left _ (List.mem_append_right _ (List.mem_append_right _ (List.mem_append_right _ (List.mem_append_right _ (List.mem_append_right _ (List.mem_append_left _ lm8)))))))), List.forall_mem_cons.mpr ⟨(List.mem_cons_of_mem _ (List.mem_append_left _ (List.mem_append_right _ (List.mem_append_right _ (List.mem_append_right _ (List.mem_append_right _ (List.mem_append_right _ (List.mem_append_left _ lm9)))))))), List.forall_mem_cons.mpr ⟨(List.mem_cons_of_mem _ (List.mem_append_left _ (List.mem_append_right _ (List.mem_append_right _ (List.mem_append_right _ (List.mem_append_right _ (List.mem_append_right _ (List.mem_append_left _ lm10)))))))), List.forall_mem_cons.mpr ⟨(List.mem_cons_of_mem _ (List.mem_append_left _ (List.mem_append_right _ (List.mem_append_right _ (List.mem_append_right _ (List.mem_append_right _ (List.mem_append_right _ (List.mem_append_left _ lm11)))))))), List.forall_mem_cons.mpr ⟨(List.mem_cons_of_mem _ (List.mem_append_left _ (List.mem_append_right _ (List.mem_append_right _ (List.mem_append_right _ (List.mem_append_right _ (List.mem_append_right _ (List.mem_append_left _ lm12)))))))), List.forall_mem_cons.mpr ⟨(List.mem_cons_of_mem _ (List.mem_append_left _ (List.mem_append_right _ (List.mem_append_right _ (List.mem_append_right _ (List.mem_append_right _ (List.mem_append_right _ (List.mem_append_left _ lm13)))))))), List.forall_mem_cons.mpr ⟨(List.mem_cons_of_mem _ (List.mem_append_left _ (List.mem_append_right _ (List.mem_append_right _ (List.mem_append_right _ (List.mem_append_right _ (List.mem_append_right _ (List.mem_append_left _ lm14)))))))), List.forall_mem_cons.mpr ⟨(List.mem_cons_of_mem _ (List.mem_append_left _ (List.mem_append_right _ (List.mem_append_right _ (List.mem_append_right _ (List.mem_append_right _ (List.mem_append_right _ (List.mem_append_left _ lm15)))))))), List.forall_mem_cons.mpr ⟨(List.mem_cons_of_mem _ (List.mem_append_left _ (List.mem_append_right _ (List.mem_append_right _ (List.mem_append_right _ (List.mem_append_right _ (List.mem_append_right _ (List.mem_append_left _ lm16)))))))), List.forall_mem_cons.mpr ⟨(List.mem_cons_of_mem _ (List.mem_append_left _ (List.mem_append_right _ (List.mem_append_right _ (List.mem_append_right _ (List.mem_append_right _ (List.mem_append_right _ (List.mem_append_left _ lm17)))))))), List.forall_mem_cons.mpr ⟨(List.mem_cons_of_mem _ (List.mem_append_left _ (List.mem_append_right _ (List.mem_append_right _ (List.mem_append_right _ (List.mem_append_right _ (List.mem_append_right _ (List.mem_append_left _ lm18)))))))), List.forall_mem_cons.mpr ⟨(List.mem_cons_of_mem _ (List.mem_append_left _ (List.mem_append_right _ (List.mem_append_right _ (List.mem_append_right _ (List.mem_append_right _ (List.mem_append_right _ (List.mem_append_left _ lm19)))))))), List.forall_mem_cons.mpr ⟨(List.mem_cons_of_mem _ (List.mem_append_left _ (List.mem_append_right _ (List.mem_append_right _ (List.mem_append_right _ (List.mem_append_right _ (List.mem_append_right _ (List.mem_append_left _ lm20)))))))), List.forall_mem_cons.mpr ⟨(List.mem_cons_of_mem _ (List.mem_append_left _ (List.mem_append_right _ (List.mem_append_right _ (List.mem_append_right _ (List.mem_append_right _ (List.mem_append_right _ (List.mem_append_left _ lm21)))))))), List.forall_mem_cons.mpr ⟨(List.mem_cons_of_mem _ (List.mem_append_left _ (List.mem_append_right _ (List.mem_append_right _ (List.mem_append_right _ (List.mem_append_right _ (List.mem_append_right _ (List.mem_append_left _ lm22)))))))), (fun _ h => absurd h List.not_mem_nil)⟩⟩⟩⟩⟩⟩⟩⟩⟩⟩⟩⟩⟩⟩⟩⟩⟩⟩⟩⟩⟩⟩⟩⟩, List.forall_mem_cons.mpr ⟨(List.mem_cons_of_mem _ (List.mem_append_left _ (List.mem_append_left _ lm1))), List.forall_mem_cons.mpr ⟨(List.mem_cons_of_mem _ (List.mem_append_left _ (List.mem_append_right _ (List.mem_append_right _ (List.mem_append_right _ (List.mem_append_right _ (List.mem_append_right _ (List.mem_append_left _ lm23)))))))), List.forall_mem_cons.mpr ⟨(List.mem_cons_of_mem _ (List.mem_append_left _ (List.mem_append_right _ (List.mem_append_right _ (List.mem_append_right _ (List.mem_append_right _ (List.mem_append_right _ (List.mem_append_right _ lm0)))))))), List.forall_mem_cons.mpr ⟨(List.mem_cons_of_mem _ (List.mem_append_left _ (List.mem_append_right _ (List.mem_append_right _ (List.mem_append_right _ (List.mem_append_right _ (List.mem_append_right _ (List.mem_append_right _ lm1)))))))), List.forall_mem_cons.mpr ⟨(List.mem_cons_of_mem _ (List.mem_append_left _ (List.mem_append_right _ (List.mem_append_right _ (List.mem_append_right _ (List.mem_append_right _ (List.mem_append_right _ (List.mem_append_right _ lm2)))))))), List.forall_mem_cons.mpr ⟨(List.mem_cons_of_mem _ (List.mem_append_left _ (List.mem_append_right _ (List.mem_append_right _ (List.mem_append_right _ (List.mem_append_right _ (List.mem_append_right _ (List.mem_append_right _ lm3)))))))), List.forall_mem_cons.mpr ⟨(List.mem_cons_of_mem _ (List.mem_append_left _ (List.mem_append_right _ (List.mem_append_right _ (List.mem_append_right _ (List.mem_append_right _ (List.mem_append_right _ (List.mem_append_right _ lm4)))))))), List.forall_mem_cons.mpr ⟨(List.mem_cons_of_mem _ (List.mem_append_left _ (List.mem_append_right _ (List.mem_append_right _ (List.mem_append_right _ (List.mem_append_right _ (List.mem_append_right _ (List.mem_append_right _ lm5)))))))), List.forall_mem_cons.mpr ⟨(List.mem_cons_of_mem _ (List.mem_append_left _ (List.mem_append_right _ (List.mem_append_right _ (List.mem_append_right _ (List.mem_append_right _ (List.mem_append_right _ (List.mem_append_right _ lm6)))))))), List.forall_mem_cons.mpr ⟨(List.mem_cons_of_mem _ (List.mem_append_left _ (List.mem_append_right _ (List.mem_append_right _ (List.mem_append_right _ (List.mem_append_right _ (List.mem_append_right _ (List.mem_append_right _ lm7)))))))), List.forall_mem_cons.mpr ⟨(List.mem_cons_of_mem _ (List.mem_append_left _ (List.mem_append_right _ (List.mem_append_right _ (List.mem_append_right _ (List.mem_append_right _ (List.mem_append_right _ (List.mem_append_right _ lm8)))))))), List.forall_mem_cons.mpr ⟨(List.mem_cons_of_mem _ (List.mem_append_left _ (List.mem_append_right _ (List.mem_append_right _ (List.mem_append_right _ (List.mem_append_right _ (List.mem_append_right _ (List.mem_append_right _ lm9)))))))), List.forall_mem_cons.mpr ⟨(List.mem_cons_of_mem _ (List.mem_append_left _ (List.mem_append_right _ (List.mem_append_right _ (List.mem_append_right _ (List.mem_append_right _ (List.mem_append_right _ (List.mem_append_right _ lm10)))))))), List.forall_mem_cons.mpr ⟨(List.mem_cons_of_mem _ (List.mem_append_left _ (List.mem_append_right _ (List.mem_append_right _ (List.mem_append_right _ (List.mem_append_right _ (List.mem_append_right _ (List.mem_append_right _ lm11)))))))), List.forall_mem_cons.mpr ⟨(List.mem_cons_of_mem _ (List.mem_append_left _ (List.mem_append_right _ (List.mem_append_right _ (List.mem_append_right _ (List.mem_append_right _ (List.mem_append_right _ (List.mem_append_right _ lm12)))))))), List.forall_mem_cons.mpr ⟨(List.mem_cons_of_mem _ (List.mem_append_left _ (List.mem_append_right _ (List.mem_append_right _ (List.mem_append_right _ (List.mem_append_right _ (List.mem_append_right _ (List.mem_append_right _ lm13)))))))), List.forall_mem_cons.mpr ⟨(List.mem_cons_of_mem _ (List.mem_append_left _ (List.mem_append_right _ (List.mem_append_right _ (List.mem_append_right _ (List.mem_append_right _ (List.mem_append_right _ (List.mem_append_right _ lm14)))))))), (fun _ h => absurd h List.not_mem_nil)⟩⟩⟩⟩⟩⟩⟩⟩⟩⟩⟩⟩⟩⟩⟩⟩⟩⟩⟩⟩, (fun _ h => (List.mem_cons_of_mem _ (List.mem_append_right _ h)))⟩⟩) gw_X12_fitting)
theorem gX12_step__X12_bound : GoodIn wsX12_step_ (wsV RX12 539 RX12 yX12_bound wsX12_bound) := goodIn_app (goodIn_sub (List.forall_mem_cons.mpr ⟨(List.mem_cons_of_mem _ (List.mem_append_left _ (List.mem_append_right _ (List.mem_append_right _ (List.mem_append_left _ lm17))))), List.forall_mem_cons.mpr ⟨(List.mem_cons_of_mem _ (List.mem_append_left _ (List.mem_append_right _ (List.mem_append_right _ (List.mem_append_left _ lm18))))), List.forall_mem_cons.mpr ⟨(List.mem_cons_of_mem _ (List.mem_append_left _ (List.mem_append_right _ (List.mem_append_right _ (List.mem_append_left _ lm19))))), List.forall_mem_cons.mpr ⟨(List.mem_cons_of_mem _ (List.mem_append_left _ (List.mem_append_left _ lm8))), (fun _ h => absurd h List.not_mem_nil)⟩⟩⟩⟩) (by decide +kernel)) (goodIn_sub (by unfold wsX12_bound; exact List.forall_mem_cons.mpr ⟨(List.mem_cons_of_mem _ (List.mem_append_left _ (List.mem_append_right _ (List.mem_append_right _ (List.mem_append_left _ lm20))))), List.forall_mem_append.mpr ⟨List.forall_mem_append.mpr ⟨List.forall_mem_cons.mpr ⟨(List.mem_cons_of_mem _ (List.mem_append_left _ (List.mem_append_right _ (List.mem_append_right _ (List.mem_append_left _ lm21))))), List.forall_mem_cons.mpr ⟨(List.mem_cons_of_mem _ (List.mem_append_left _ (List.mem_append_right _ (List.mem_append_right _ (List.mem_append_left _ lm22))))), List.forall_mem_cons.mpr ⟨(List.mem_cons_of_mem _ (List.mem_append_left _ (List.mem_append_right _ (List.mem_append_right _ (List.mem_append_left _ lm23))))), List.forall_mem_cons.mpr ⟨(List.mem_cons_of_mem _ (List.mem_append_left _ (List.mem_append_right _ (List.mem_append_right _ (List.mem_append_right _ (List.mem_append_left _ lm0)))))), List.forall_mem_cons.mpr ⟨(List.mem_cons_of_mem _ (List.mem_append_left _ (List.mem_append_left _ lm8))), List.forall_mem_cons.mpr ⟨(List.mem_cons_of_mem _ (List.mem_append_left _ (List.mem_append_right _ (List.mem_append_right _ (List.mem_append_right _ (List.mem_append_left _ lm1)))))), List.forall_mem_cons.mpr ⟨(List.mem_cons_of_mem _ (List.mem_append_left _ (List.mem_append_right _ (List.mem_append_right _ (List.mem_append_right _ (List.mem_append_left _ lm2)))))), List.forall_mem_cons.mpr ⟨(List.mem_cons_of_mem _ (List.mem_append_left _ (List.mem_append_right _ (List.mem_append_right _ (List.mem_append_right _ (List.mem_append_left _ lm3)))))), List.forall_mem_cons.mpr ⟨(List.mem_cons_of_mem _ (List.mem_append_left _ (List.mem_append_right _ (List.mem_append_right _ (List.mem_append_right _ (List.mem_append_left _ lm4)))))), List.forall_mem_cons.mpr ⟨(List.mem_cons_of_mem _ (List.mem_append_left _ (List.mem_append_right _ (List.mem_append_right _ (List.mem_append_right _ (List.mem_append_left _ lm5)))))), List.forall_mem_cons.mpr ⟨(List.mem_cons_of_mem _ (List.mem_append_left _ (List.mem_append_right _ (List.mem_append_right _ (List.mem_append_right _ (List.mem_append_left _ lm6)))))), List.forall_mem_cons.mpr ⟨(List.mem_cons_of_mem _ (List.mem_append_left _ (List.mem_append_right _ (List.mem_append_right _ (List.mem_append_right _ (List.mem_append_left _ lm7)))))), List.forall_mem_cons.mpr ⟨(List.mem_cons_of_mem _ (List.mem_append_left _ (List.mem_append_right _ (List.mem_append_right _ (List.mem_append_right _ (List.mem_append_left _ lm8)))))), List.forall_mem_cons.mpr ⟨(List.mem_cons_of_mem _ (List.mem_append_left _ (List.mem_append_right _ (List.mem_append_right _ (List.mem_append_right _ (List.mem_append_left _ lm9)))))), List.forall_mem_cons.mpr ⟨(List.mem_cons_of_mem _ (List.mem_append_left _ (List.mem_append_left _ lm0))), List.forall_mem_cons.mpr ⟨(List.mem_cons_of_mem _ (List.mem_append_left _ (List.mem_append_right _ (List.mem_append_right _ (List.mem_append_right _ (List.mem_append_left _ lm10)))))), List.forall_mem_cons.mpr ⟨(List.mem_cons_of_mem _ (List.mem_append_left _ (List.mem_append_right _ (List.mem_append_right _ (List.mem_append_right _ (List.mem_append_left _ lm11)))))), List.forall_mem_cons.mpr ⟨(List.mem_cons_of_mem _ (List.mem_append_left _ (List.mem_append_right _ (List.mem_append_right _ (List.mem_append_right _ (List.mem_append_left _ lm12)))))), List.forall_mem_cons.mpr ⟨(List.mem_cons_of_mem _ (List.mem_append_left _ (List.mem_append_right _ (List.mem_append_right _ (List.mem_append_right _ (List.mem_append_left _ lm13)))))), List.forall_mem_cons.mpr ⟨(List.mem_cons_of_mem _ (List.mem_append_left _ (List.mem_append_right _ (List.mem_append_right _ (List.mem_append_right _ (List.mem_append_left _ lm14)))))), List.forall_mem_cons.mpr ⟨(List.mem_cons_of_mem _ (List.mem_append_left _ (List.mem_append_right _ (List.mem_append_right _ (List.mem_append_right _ (List.mem_append_left _ lm15)))))), List.forall_mem_cons.mpr ⟨(List.mem_cons_of_mem _ (List.mem_append_left _ (List.mem_append_right _ (List.mem_append_right _ (List.mem_append_right _ (List.mem_append_left _ lm16)))))), List.forall_mem_cons.mpr ⟨(List.mem_cons_of_mem _ (List.mem_append_left _ (List.mem_append_right _ (List.mem_append_right _ (List.mem_append_right _ (List.mem_append_left _ lm17)))))), List.forall_mem_cons.mpr ⟨(List.mem_cons_of_mem _ (List.mem_append_left _ (List.mem_append_right _ (List.mem_append_right _ (List.mem_append_right _ (List.mem_append_left _ lm18)))))), (fun _ h => absurd h List.not_mem_nil)⟩⟩⟩⟩⟩⟩⟩⟩⟩⟩⟩⟩⟩⟩⟩⟩⟩⟩⟩⟩⟩⟩⟩⟩, List.forall_mem_append.mpr ⟨List.forall_mem_cons.mpr ⟨(List.mem_cons_of_mem _ (List.mem_append_left _ (List.mem_append_right _ (List.mem_append_right _ (List.mem_append_right _ (List.mem_append_left _ lm19)))))), List.forall_mem_cons.mpr ⟨(List.mem_cons_of_mem _ (List.mem_append_left _ (List.mem_append_right _ (List.mem_append_right _ (List.mem_append_right _ (List.mem_append_left _ lm20)))))), List.forall_mem_cons.mpr ⟨(List.mem_cons_of_mem _ (List.mem_append_left _ (List.mem_append_right _ (List.mem_append_right _ (List.mem_append_right _ (List.mem_append_left _ lm21)))))), List.forall_mem_cons.mpr ⟨(List.mem_cons_of_mem _ (List.mem_append_left _ (List.mem_append_right _ (List.mem_append_right _ (List.mem_append_right _ (List.mem_append_left _ lm22)))))), List.forall_mem_cons.mpr ⟨(List.mem_cons_of_mem _ (List.mem_append_left _ (List.mem_append_right _ (List.mem_append_right _ (List.mem_append_right _ (List.mem_append_left _ lm23)))))), List.forall_mem_cons.mpr ⟨(List.mem_cons_of_mem _ (List.mem_append_left _ (List.mem_append_right _ (List.mem_append_right _ (List.mem_append_right _ (List.mem_append_right _ (List.mem_append_left _ lm0))))))), List.forall_mem_cons.mpr ⟨(List.mem_cons_of_mem _ (List.mem_append_left _ (List.mem_append_right _ (List.mem_append_right _ (List.mem_append_right _ (List.mem_append_right _ (List.mem_append_left _ lm1))))))), List.forall_mem_cons.mpr ⟨(List.mem_cons_of_mem _ (List.mem_append_left _ (List.mem_append_right _ (List.mem_append_right _ (List.mem_append_right _ (List.mem_append_right _ (List.mem_append_left _ lm2))))))), List.forall_mem_cons.mpr ⟨(List.mem_cons_of_mem _ (List.mem_append_left _ (List.mem_append_right _ (List.mem_append_right _ (List.mem_append_right _ (List.mem_append_right _ (List.mem_append_left _ lm3))))))), List.forall_mem_cons.mpr ⟨(List.mem_cons_of_mem _ (List.mem_append_left _ (List.mem_append_right _ (List.mem_append_right _ (List.mem_append_right _ (List.mem_append_right _ (List.mem_append_left _ lm4))))))), List.forall_mem_cons.mpr ⟨(List.mem_cons_of_mem _ (List.mem_append_left _ (List.mem_append_right _ (List.mem_append_right _ (List.mem_append_right _ (List.mem_append_right _ (List.mem_append_left _ lm5))))))), List.forall_mem_cons.mpr ⟨(List.mem_cons_of_mem _ (List.mem_append_left _ (List.mem_append_right _ (List.mem_append_right _ (List.mem_append_right _ (List.mem_append_right _ (List.mem_append_left _ lm6))))))), List.forall_mem_cons.mpr ⟨(List.mem_cons_of_mem _ (List.mem_append_left _ (List.mem_append_right _ (List.mem_append_right _ (List.mem_append_right _ (List.mem_append_right _ (List.mem_append_left _ lm7))))))), List.forall_mem_cons.mpr ⟨(List.mem_cons_of_mem _ (List.mem_append_left _ (List.mem_append_right _ (List.mem_append_right _ (List.mem_append_right _ (List.mem_append_right _ (List.mem_append_left _ lm8))))))), List.forall_mem_cons.mpr ⟨(List.mem_cons_of_mem _ (List.mem_append_left _ (List.mem_append_right _ (List.mem_append_right _ (List.mem_append_right _ (List.mem_append_right _ (List.mem_append_left _ lm9))))))), List.forall_mem_cons.mpr ⟨(List.mem_cons_of_mem _ (List.mem_append_left _ (List.mem_append_right _ (List.mem_append_right _ (List.mem_append_right _ (List.mem_append_right _ (List.mem_append_left _ lm10))))))), List.forall_mem_cons.mpr ⟨(List.mem_cons_of_mem _ (List.mem_append_left _ (List.mem_append_right _ (List.mem_append_right _ (List.mem_append_right _ (List.mem_append_right _ (List.mem_append_left _ lm11))))))), List.forall_mem_cons.mpr ⟨(List.mem_cons_of_mem _ (List.mem_append_left _ (List.mem_append_right _ (List.mem_append_right _ (List.mem_append_right _ (List.mem_append_right _ (List.mem_append_left _ lm12))))))), List.forall_mem_cons.mpr ⟨(List.mem_cons_of_mem _ (List.mem_append_left _ (List.mem_append_right _ (List.mem_append_right _ (List.mem_append_right _ (List.mem_append_right _ (List.mem_append_left _ lm13))))))), List.forall_mem_cons.mpr ⟨(List.mem_cons_of_mem _ (List.mem_append_left _ (List.mem_append_right _ (List.mem_append_right _ (List.mem_append_right _ (List.mem_append_right _ (List.mem_append_left _ lm14))))))), List.forall_mem_cons.mpr ⟨(List.mem_cons_of_mem _ (List.mem_append_left _ (List.mem_append_right _ (List.mem_append_right _ (List.mem_append_right _ (List.mem_append_right _ (List.mem_append_left _ lm15))))))), List.forall_mem_cons.mpr ⟨(List.mem_cons_of_mem _ (List.mem_append_left _ (List.mem_append_right _ (List.mem_append_right _ (List.mem_append_right _ (List.mem_append_right _ (List.mem_append_left _ lm16))))))), List.forall_mem_cons.mpr ⟨(List.mem_cons_of_mem _ (List.mem_append_left _ (List.mem_append_right _ (List.mem_append_right _ (List.mem_append_right _ (List.mem_append_right _ (List.mem_append_left _ lm17))))))), List.forall_mem_cons.mpr ⟨(List.mem_cons_of_mem _ (List.mem_append_left _ (List.mem_append_right _ (List.mem_append_right _ (List.mem_append_right _ (List.mem_append_right _ (List.mem_append_left _ lm18))))))), (fun _ h => absurd h List.not_mem_nil)⟩⟩⟩⟩⟩⟩⟩⟩⟩⟩⟩⟩⟩⟩⟩⟩⟩⟩⟩⟩⟩⟩⟩⟩, List.forall_mem_append.mpr ⟨List.forall_mem_cons.mpr ⟨(List.mem_cons_of_mem _ (List.mem_append_left _ (List.mem_append_right _ (List.mem_append_right _ (List.mem_append_right _ (List.mem_append_right _ (List.mem_append_left _ lm19))))))), List.forall_mem_cons.mpr ⟨(List.mem_cons_of_mem _ (List.mem_append_left _ (List.mem_append_right _ (List.mem_append_right _ (List.mem_append_right _ (List.mem_append_right _ (List.mem_append_left _ lm20))))))), List.forall_mem_cons.mpr ⟨(List.mem_cons_of_mem _ (List.mem_append_left _ (List.mem_append_right _ (List.mem_append_right _ (List.mem_append_right _ (List.mem_append_right _ (List.mem_append_left _ lm21))))))), List.forall_mem_cons.mpr ⟨(List.mem_cons_of_mem _ (List.mem_append_left _ (List.mem_append_right _ (List.mem_append_right _ (List.mem_append_right _ (List.mem_append_right _ (List.mem_append_left _ lm22))))))), List.forall_mem_cons.mpr ⟨(List.mem_cons_of_mem _ (List.mem_append_left _ (List.mem_append_right _ (List.mem_append_right _ (List.mem_append_right _ (List.mem_append_right _ (List.mem_append_left _ lm23))))))), List.forall_mem_cons.mpr ⟨(List.mem_cons_of_mem _ (List.mem_append_left _ (List.mem_append_right _ (List.mem_append_right _ (List.mem_append_right _ (List.mem_append_right _ (List.mem_append_right _ (List.mem_append_left _ lm0)))))))), List.forall_mem_cons.mpr ⟨(List.mem_cons_of_mem _ (List.mem_append_left _ (List.mem_append_right _ (List.mem_append_right _ (List.mem_append_right _ (List.mem_append_right _ (List.mem_append_right _ (List.mem_append_left _ lm1)))))))), List.forall_mem_cons.mpr ⟨(List.mem_cons_of_mem _ (List.mem_append_left _ (List.mem_append_right _ (List.mem_append_right _ (List.mem_append_right _ (List.mem_append_right _ (List.mem_append_right _ (List.mem_append_left _ lm2)))))))), List.forall_mem_cons.mpr ⟨(List.mem_cons_of_mem _ (List.mem_append_left _ (List.mem_append_right _ (List.mem_append_right _ (List.mem_append_right _ (List.mem_append_right _ (List.mem_append_right _ (List.mem_append_left _ lm3)))))))), List.forall_mem_cons.mpr ⟨(List.mem_cons_of_mem _ (List.mem_append_left _ (List.mem_append_right _ (List.mem_append_right _ (List.mem_append_right _ (List.mem_append_right _ (List.mem_append_right _ (List.mem_append_left _ lm4)))))))), List.forall_mem_cons.mpr ⟨(List.mem_cons_of_mem _ (List.mem_append_left _ (List.mem_append_right _ (List.mem_append_right _ (List.mem_append_right _ (List.mem_append_right _ (List.mem_append_right _ (List.mem_append_left _ lm5)))))))), List.forall_mem_cons.mpr ⟨(List.mem_cons_of_mem _ (List.mem_append_left _ (List.mem_append_right _ (List.mem_append_right _ (List.mem_append_right _ (List.mem_append_right _ (List.mem_append_right _ (List.mem_append_left _ lm6)))))))), List.forall_mem_cons.mpr ⟨(List.mem_cons_of_mem _ (List.mem_append_left _ (List.mem_append_right _ (List.mem_append_right _ (List.mem_append_right _ (List.mem_append_right _ (List.mem_append_right _ (List.mem_append_left _ lm7)))))))), List.forall_mem_cons.mpr ⟨(List.mem_cons_of_mem _ (List.mem_append_left _ (List.mem_append_right _ (List.mem_append_right _ (List.mem_append_right _ (List.mem_append_right _ (List.mem_append_right _ (List.mem_append_left _ lm8)))))))), List.forall_mem_cons.mpr ⟨(List.mem_cons_of_mem _ (List.mem_append_left _ (List.mem_append_right _ (List.mem_append_right _ (List.mem_append_right _ (List.mem_append_right _ (List.mem_append_right _ (List.mem_append_left _ lm9)))))))), List.forall_mem_cons.mpr ⟨(List.mem_cons_of_mem _ (List.mem_append_left _ (List.mem_append_right _ (List.mem_append_right _ (List.mem_append_right _ (List.mem_append_right _ (List.mem_append_right _ (List.mem_append_left _ lm10)))))))), List.forall_mem_cons.mpr ⟨(List.mem_cons_of_mem _ (List.mem_append_left _ (List.mem_append_right _ (List.mem_append_right _ (List.mem_append_right _ (List.mem_append_right _ (List.mem_append_right _ (List.mem_append_left _ lm11)))))))), List.forall_mem_cons.mpr ⟨(List.mem_cons_of_mem _ (List.mem_append_left _ (List.mem_append_right _ (List.mem_append_right _ (List.mem_append_right _ (List.mem_append_right _ (List.mem_append_right _ (List.mem_append_left _ lm12)))))))), List.forall_mem_cons.mpr ⟨(List.mem_cons_of_mem _ (List.mem_append_left _ (List.mem_append_right _ (List.mem_append_right _ (List.mem_append_right _ (List.mem_append_right _ (List.mem_append_right _ (List.mem_append_left _ lm13)))))))), List.forall_mem_cons.mpr ⟨(List.mem_cons_of_mem _ (List.mem_append_left _ (List.mem_append_right _ (List.mem_append_right _ (List.mem_append_right _ (List.mem_append_right _ (List.mem_append_right _ (List.mem_append_left _ lm14)))))))), List.forall_mem_cons.mpr ⟨(List.mem_cons_of_mem _ (List.mem_append_left _ (List.mem_append_right _ (List.mem_append_right _ (List.mem_append_right _ (List.mem_append_right _ (List.mem_append_right _ (List.mem_append_left _ lm15)))))))), List.forall_mem_cons.mpr ⟨(List.mem_cons_of_mem _ (List.mem_append_left _ (List.mem_append_right _ (List.mem_append_right _ (List.mem_append_right _ (List.mem_append_right _ (List.mem_append_right _ (List.mem_append_left _ lm16)))))))), List.forall_mem_cons.mpr ⟨(List.mem_cons_of_mem _ (List.mem_append_left _ (List.mem_append_right _ (List.mem_append_right _ (List.mem_append_right _ (List.mem_append_right _ (List.mem_append_right _ (List.mem_append_left _ lm17)))))))), List.forall_mem_cons.mpr ⟨(List.mem_cons_of_mem _ (List.mem_append_left _ (List.mem_append_right _ (List.mem_append_right _ (List.mem_append_right _ (List.mem_append_right _ (List.mem_append_right _ (List.mem_append_left _ lm18)))))))), (fun _ h => absurd h List.not_mem_nil)⟩⟩⟩⟩⟩⟩⟩⟩⟩⟩⟩⟩⟩⟩⟩⟩⟩⟩⟩⟩⟩⟩⟩⟩, List.forall_mem_cons.mpr ⟨(List.mem_cons_of_mem _ (List.mem_append_left _ (List.mem_append_right _ (List.mem_append_right _ (List.mem_append_right _ (List.mem_append_right _ (List.mem_append_right _ (List.mem_append_left _ lm19)))))))), List.forall_mem_cons.mpr ⟨(List.mem_cons_of_mem _ (List.mem_append_left _ (List.mem_append_right _ (List.mem_append_right _ (List.mem_append_right _ (List.mem_append_right _ (List.mem_append_right _ (List.mem_append_left _ lm20)))))))), List.forall_mem_cons.mpr ⟨(List.mem_cons_of_mem _ (List.mem_append_left _ (List.mem_append_right _ (List.mem_append_right _ (List.mem_append_right _ (List.mem_append_right _ (List.mem_append_right _ (List.mem_append_left _ lm21)))))))), List.forall_mem_cons.mpr ⟨(List.mem_cons_of_mem _ (List.mem_append_left _ (List.mem_append_right _ (List.mem_append_right _ (List.mem_append_right _ (List.mem_append_right _ (List.mem_append_right _ (List.mem_append_left _ lm22)))))))), List.forall_mem_cons.mpr ⟨(List.mem_cons_of_mem _ (List.mem_append_left _ (List.mem_append_left _ lm1))), List.forall_mem_cons.mpr ⟨(List.mem_cons_of_mem _ (List.mem_append_left _ (List.mem_append_right _ (List.mem_append_right _ (List.mem_append_right _ (List.mem_append_right _ (List.mem_append_right _ (List.mem_append_left _ lm23)))))))), List.forall_mem_cons.mpr ⟨(List.mem_cons_of_mem _ (List.mem_append_left _ (List.mem_append_right _ (List.mem_append_right _ (List.mem_append_right _ (List.mem_append_right _ (List.mem_append_right _ (List.mem_append_right _ lm0)))))))), List.forall_mem_cons.mpr ⟨(List.mem_cons_of_mem _ (List.mem_append_left _ (List.mem_append_right _ (List.mem_append_right _ (List.mem_append_right _ (List.mem_append_right _ (List.mem_append_right _ (List.mem_append_right _ lm1)))))))), List.forall_mem_cons.mpr ⟨(List.mem_cons_of_mem _ (List.mem_append_left _ (List.mem_append_right _ (List.mem_append_right _ (List.mem_append_right _ (List.mem_append_right _ (List.mem_append_right _ (List.mem_append_right _ lm2)))))))), List.forall_mem_cons.mpr ⟨(List.mem_cons_of_mem _ (List.mem_append_left _ (List.mem_append_right _ (List.mem_append_right _ (List.mem_append_right _ (List.mem_append_right _ (List.mem_append_right _ (List.mem_append_right _ lm3)))))))), List.forall_mem_cons.mpr ⟨(List.mem_cons_of_mem _ (List.mem_append_left _ (List.mem_append_right _ (List.mem_append_right _ (List.mem_append_right _ (List.mem_append_right _ (List.mem_append_right _ (List.mem_append_right _ lm4)))))))), List.forall_mem_cons.mpr ⟨(List.mem_cons_of_mem _ (List.mem_append_left _ (List.mem_append_right _ (List.mem_append_right _ (List.mem_append_right _ (List.mem_append_right _ (List.mem_append_right _ (List.mem_append_right _ lm5)))))))), List.forall_mem_cons.mpr ⟨(List.mem_cons_of_mem _ (List.mem_append_left _ (List.mem_append_right _ (List.mem_append_right _ (List.mem_append_right _ (List.mem_append_right _ (List.mem_append_right _ (List.mem_append_right _ lm6)))))))), List.forall_mem_cons.mpr ⟨(List.mem_cons_of_mem _ (List.mem_append_left _ (List.mem_append_right _ (List.mem_append_right _ (List.mem_append_right _ (List.mem_append_right _ (List.mem_append_right _ (List.mem_append_right _ lm7)))))))), List.forall_mem_cons.mpr ⟨(List.mem_cons_of_mem _ (List.mem_append_left _ (List.mem_append_right _ (List.mem_append_right _ (List.mem_append_right _ (List.mem_append_right _ (List.mem_append_right _ (List.mem_append_right _ lm8)))))))), List.forall_mem_cons.mpr ⟨(List.mem_cons_of_mem _ (List.mem_append_left _ (List.mem_append_right _ (List.mem_append_right _ (List.mem_append_right _ (List.mem_append_right _ (List.mem_append_right _ (List.mem_append_right _ lm9)))))))), List.forall_mem_cons.mpr ⟨(List.mem_cons_of_mem _ (List.mem_append_left _ (List.mem_append_right _ (List.mem_append_right _ (List.mem_append_right _ (List.mem_append_right _ (List.mem_append_right _ (List.mem_append_right _ lm10)))))))), List.forall_mem_cons.mpr ⟨(List.mem_cons_of_mem _ (List.mem_append_left _ (List.mem_append_right _ (List.mem_append_right _ (List.mem_append_right _ (List.mem_append_right _ (List.mem_append_right _ (List.mem_append_right _ lm11)))))))), List.forall_mem_cons.mpr ⟨(List.mem_cons_of_mem _ (List.mem_append_left _ (List.mem_append_right _ (List.mem_append_right _ (List.mem_append_right _ (List.mem_append_right _ (List.mem_append_right _ (List.mem_append_right _ lm12)))))))), List.forall_mem_cons.mpr ⟨(List.mem_cons_of_mem _ (List.mem_append_left _ (List.mem_append_right _ (List.mem_append_right _ (List.mem_append_right _ (List.mem_append_right _ (List.mem_append_right _ (List.mem_append_right _ lm13)))))))), List.forall_mem_cons.mpr ⟨(List.mem_cons_of_mem _ (List.mem_append_left _ (List.mem_append_right _ (List.mem_append_right _ (List.mem_append_right _ (List.mem_append_right _ (List.mem_append_right _ (List.mem_append_right _ lm14)))))))), (fun _ h => absurd h List.not_mem_nil)⟩⟩⟩⟩⟩⟩⟩⟩⟩⟩⟩⟩⟩⟩⟩⟩⟩⟩⟩⟩⟩⟩⟩⟩, (fun _ h => (List.mem_cons_of_mem _ (List.mem_append_right _ h)))⟩⟩) gw_X12_bound)
theorem gX12_step__X12_count : GoodIn wsX12_step_ (va_wsS RX12 214 yX12_count wsX12_count) := goodIn_app (goodIn_sub (List.forall_mem_cons.mpr ⟨(List.mem_cons_of_mem _ (List.mem_append_left _ (List.mem_append_left _ lm23))), List.forall_mem_cons.mpr ⟨(List.mem_cons_of_mem _ (List.mem_append_left _ (List.mem_append_right _ (List.mem_append_left _ lm0)))), List.forall_mem_cons.mpr ⟨(List.mem_cons_of_mem _ (List.mem_append_left _ (List.mem_append_left _ lm8))), (fun _ h => absurd h List.not_mem_nil)⟩⟩⟩) (by decide +kernel)) (goodIn_sub (by unfold wsX12_count; exact List.forall_mem_cons.mpr ⟨(List.mem_cons_of_mem _ (List.mem_append_left _ (List.mem_append_right _ (List.mem_append_left _ lm1)))), (fun _ h => absurd h List.not_mem_nil)⟩) gw_X12_count)
theorem gX12_argument_X12_isStep : GoodIn wsX12_argument (wsV RX12 554 RX12 yX12_isStep wsX12_isStep) := goodIn_app (goodIn_sub (List.forall_mem_cons.mpr ⟨(List.mem_cons_of_mem _ (List.mem_append_left _ (List.mem_append_left _ lm3))), List.forall_mem_cons.mpr ⟨(List.mem_cons_of_mem _ (List.mem_append_left _ (List.mem_append_left _ lm4))), List.forall_mem_cons.mpr ⟨(List.mem_cons_of_mem _ (List.mem_append_left _ (List.mem_append_left _ lm5))), List.forall_mem_cons.mpr ⟨(List.mem_cons_of_mem _ (List.mem_append_left _ (List.mem_append_left _ lm6))), (fun _ h => absurd h List.not_mem_nil)⟩⟩⟩⟩) (by decide +kernel)) (goodIn_sub (by unfold wsX12_isStep; exact List.forall_mem_cons.mpr ⟨(List.mem_cons_of_mem _ (List.mem_append_left _ (List.mem_append_left _ lm7))), List.forall_mem_append.mpr ⟨List.forall_mem_cons.mpr ⟨(List.mem_cons_of_mem _ (List.mem_append_left _ (List.mem_append_left _ lm8))), List.forall_mem_cons.mpr ⟨(List.mem_cons_of_mem _ (List.mem_append_left _ (List.mem_append_left _ lm9))), List.forall_mem_cons.mpr ⟨(List.mem_cons_of_mem _ (List.mem_append_left _ (List.mem_append_left _ lm10))), List.forall_mem_cons.mpr ⟨(List.mem_cons_of_mem _ (List.mem_append_left _ (List.mem_append_left _ lm11))), List.forall_mem_cons.mpr ⟨(List.mem_cons_of_mem _ (List.mem_append_left _ (List.mem_append_left _ lm6))), List.forall_mem_cons.mpr ⟨(List.mem_cons_of_mem _ (List.mem_append_left _ (List.mem_append_left _ lm12))), List.forall_mem_cons.mpr ⟨(List.mem_cons_of_mem _ (List.mem_append_left _ (List.mem_append_left _ lm13))), List.forall_mem_cons.mpr ⟨(List.mem_cons_of_mem _ (List.mem_append_left _ (List.mem_append_left _ lm14))), List.forall_mem_cons.mpr ⟨(List.mem_cons_of_mem _ (List.mem_append_left _ (List.mem_append_left _ lm15))), List.forall_mem_cons.mpr ⟨(List.mem_cons_of_mem _ (List.mem_append_left _ (List.mem_append_left _ lm16))), List.forall_mem_cons.mpr ⟨(List.mem_cons_of_mem _ (List.mem_append_left _ (List.mem_append_left _ lm17))), List.forall_mem_cons.mpr ⟨(List.mem_cons_of_mem _ (List.mem_append_left _ (List.mem_append_left _ lm18))), List.forall_mem_cons.mpr ⟨(List.mem_cons_of_mem _ (List.mem_append_left _ (List.mem_append_left _ lm19))), List.forall_mem_cons.mpr ⟨(List.mem_cons_of_mem _ (List.mem_append_left _ (List.mem_append_left _ lm20))), List.forall_mem_cons.mpr ⟨(List.mem_cons_of_mem _ (List.mem_append_left _ (List.mem_append_left _ lm21))), List.forall_mem_cons.mpr ⟨(List.mem_cons_of_mem _ (List.mem_append_left _ (List.mem_append_left _ lm22))), List.forall_mem_cons.mpr ⟨(List.mem_cons_of_mem _ (List.mem_append_left _ (List.mem_append_left _ lm23))), (fun _ h => absurd h List.not_mem_nil)⟩⟩⟩⟩⟩⟩⟩⟩⟩⟩⟩⟩⟩⟩⟩⟩⟩, (fun _ h => (List.mem_cons_of_mem _ (List.mem_append_right _ h)))⟩⟩) gw_X12_isStep)
theorem gX12_argument_X12_throwsNow : GoodIn wsX12_argument (wsV RX12 171 RX12 yX12_throwsNow wsX12_throwsNow) := goodIn_app (goodIn_sub (List.forall_mem_cons.mpr ⟨(List.mem_cons_of_mem _ (List.mem_append_left _ (List.mem_append_right _ (List.mem_append_left _ lm0)))), List.forall_mem_cons.mpr ⟨(List.mem_cons_of_mem _ (List.mem_append_left _ (List.mem_append_right _ (List.mem_append_left _ lm1)))), List.forall_mem_cons.mpr ⟨(List.mem_cons_of_mem _ (List.mem_append_left _ (List.mem_append_right _ (List.mem_append_left _ lm2)))), List.forall_mem_cons.mpr ⟨(List.mem_cons_of_mem _ (List.mem_append_left _ (List.mem_append_left _ lm6))), (fun _ h => absurd h List.not_mem_nil)⟩⟩⟩⟩) (by decide +kernel)) (goodIn_sub (by unfold wsX12_throwsNow; exact List.forall_mem_cons.mpr ⟨(List.mem_cons_of_mem _ (List.mem_append_left _ (List.mem_append_right _ (List.mem_append_left _ lm3)))), List.forall_mem_append.mpr ⟨List.forall_mem_cons.mpr ⟨(List.mem_cons_of_mem _ (List.mem_append_left _ (List.mem_append_right _ (List.mem_append_left _ lm4)))), (fun _ h => absurd h List.not_mem_nil)⟩, (fun _ h => (List.mem_cons_of_mem _ (List.mem_append_right _ h)))⟩⟩) gw_X12_throwsNow)
theorem gX12_argument_X12_load : GoodIn wsX12_argument (wsV RX12 477 RX12 yX12_load wsX12_load) := goodIn_app (goodIn_sub (List.forall_mem_cons.mpr ⟨(List.mem_cons_of_mem _ (List.mem_append_left _ (List.mem_append_right _ (List.mem_append_left _ lm5)))), List.forall_mem_cons.mpr ⟨(List.mem_cons_of_mem _ (List.mem_append_left _ (List.mem_append_right _ (List.mem_append_left _ lm6)))), List.forall_mem_cons.mpr ⟨(List.mem_cons_of_mem _ (List.mem_append_left _ (List.mem_append_right _ (List.mem_append_left _ lm7)))), List.forall_mem_cons.mpr ⟨(List.mem_cons_of_mem _ (List.mem_append_left _ (List.mem_append_left _ lm6))), (fun _ h => absurd h List.not_mem_nil)⟩⟩⟩⟩) (by decide +kernel)) (goodIn_sub (by unfold wsX12_load; exact List.forall_mem_cons.mpr ⟨(List.mem_cons_of_mem _ (List.mem_append_left _ (List.mem_append_right _ (List.mem_append_left _ lm8)))), List.forall_mem_append.mpr ⟨List.forall_mem_append.mpr ⟨List.forall_mem_cons.mpr ⟨(List.mem_cons_of_mem _ (List.mem_append_left _ (List.mem_append_left _ lm19))), List.forall_mem_cons.mpr ⟨(List.mem_cons_of_mem _ (List.mem_append_left _ (List.mem_append_left _ lm13))), List.forall_mem_cons.mpr ⟨(List.mem_cons_of_mem _ (List.mem_append_left _ (List.mem_append_right _ (List.mem_append_left _ lm9)))), List.forall_mem_cons.mpr ⟨(List.mem_cons_of_mem _ (List.mem_append_left _ (List.mem_append_right _ (List.mem_append_left _ lm10)))), List.forall_mem_cons.mpr ⟨(List.mem_cons_of_mem _ (List.mem_append_left _ (List.mem_append_right _ (List.mem_append_left _ lm11)))), List.forall_mem_cons.mpr ⟨(List.mem_cons_of_mem _ (List.mem_append_left _ (List.mem_append_right _ (List.mem_append_left _ lm12)))), List.forall_mem_cons.mpr ⟨(List.mem_cons_of_mem _ (List.mem_append_left _ (List.mem_append_right _ (List.mem_append_left _ lm13)))), List.forall_mem_cons.mpr ⟨(List.mem_cons_of_mem _ (List.mem_append_left _ (List.mem_append_right _ (List.mem_append_left _ lm14)))), List.forall_mem_cons.mpr ⟨(List.mem_cons_of_mem _ (List.mem_append_left _ (List.mem_append_right _ (List.mem_append_left _ lm15)))), List.forall_mem_cons.mpr ⟨(List.mem_cons_of_mem _ (List.mem_append_left _ (List.mem_append_left _ lm6))), List.forall_mem_cons.mpr ⟨(List.mem_cons_of_mem _ (List.mem_append_left _ (List.mem_append_right _ (List.mem_append_left _ lm16)))), List.forall_mem_cons.mpr ⟨(List.mem_cons_of_mem _ (List.mem_append_left _ (List.mem_append_left _ lm14))), List.forall_mem_cons.mpr ⟨(List.mem_cons_of_mem _ (List.mem_append_left _ (List.mem_append_left _ lm15))), List.forall_mem_cons.mpr ⟨(List.mem_cons_of_mem _ (List.mem_append_left _ (List.mem_append_left _ lm16))), List.forall_mem_cons.mpr ⟨(List.mem_cons_of_mem _ (List.mem_append_left _ (List.mem_append_left _ lm17))), List.forall_mem_cons.mpr ⟨(List.mem_cons_of_mem _ (List.mem_append_left _ (List.mem_append_left _ lm18))), List.forall_mem_cons.mpr ⟨(List.mem_cons_of_mem _ (List.mem_append_left _ (List.mem_append_left _ lm20))), List.forall_mem_cons.mpr ⟨(List.mem_cons_of_mem _ (List.mem_append_left _ (List.mem_append_left _ lm21))), List.forall_mem_cons.mpr ⟨(List.mem_cons_of_mem _ (List.mem_append_left _ (List.mem_append_left _ lm22))), List.forall_mem_cons.mpr ⟨(List.mem_cons_of_mem _ (List.mem_append_left _ (List.mem_append_left _ lm23))), List.forall_mem_cons.mpr ⟨(List.mem_cons_of_mem _ (List.mem_append_left _ (List.mem_append_right _ (List.mem_append_left _ lm17)))), List.forall_mem_cons.mpr ⟨(List.mem_cons_of_mem _ (List.mem_append_left _ (List.mem_append_right _ (List.mem_append_left _ lm18)))), List.forall_mem_cons.mpr ⟨(List.mem_cons_of_mem _ (List.mem_append_left _ (List.mem_append_right _ (List.mem_append_left _ lm19)))), List.forall_mem_cons.mpr ⟨(List.mem_cons_of_mem _ (List.mem_append_left _ (List.mem_append_right _ (List.mem_append_left _ lm20)))), (fun _ h => absurd h List.not_mem_nil)⟩⟩⟩⟩⟩⟩⟩⟩⟩⟩⟩⟩⟩⟩⟩⟩⟩⟩⟩⟩⟩⟩⟩⟩, List.forall_mem_cons.mpr ⟨(List.mem_cons_of_mem _ (List.mem_append_left _ (List.mem_append_right _ (List.mem_append_left _ lm21)))), List.forall_mem_cons.mpr ⟨(List.mem_cons_of_mem _ (List.mem_append_left _ (List.mem_append_right _ (List.mem_append_left _ lm22)))), List.forall_mem_cons.mpr ⟨(List.mem_cons_of_mem _ (List.mem_append_left _ (List.mem_append_right _ (List.mem_append_left _ lm23)))), List.forall_mem_cons.mpr ⟨(List.mem_cons_of_mem _ (List.mem_append_left _ (List.mem_append_right _ (List.mem_append_right _ (List.mem_append_left _ lm0))))), List.forall_mem_cons.mpr ⟨(List.mem_cons_of_mem _ (List.mem_append_left _ (List.mem_append_right _ (List.mem_append_right _ (List.mem_append_left _ lm1))))), List.forall_mem_cons.mpr ⟨(List.mem_cons_of_mem _ (List.mem_append_left _ (List.mem_append_right _ (List.mem_append_right _ (List.mem_append_left _ lm2))))), List.forall_mem_cons.mpr ⟨(List.mem_cons_of_mem _ (List.mem_append_left _ (List.mem_append_right _ (List.mem_append_right _ (List.mem_append_left _ lm3))))), List.forall_mem_cons.mpr ⟨(List.mem_cons_of_mem _ (List.mem_append_left _ (List.mem_append_right _ (List.mem_append_right _ (List.mem_append_left _ lm4))))), List.forall_mem_cons.mpr ⟨(List.mem_cons_of_mem _ (List.mem_append_left _ (List.mem_append_right _ (List.mem_append_right _ (List.mem_append_left _ lm5))))), List.forall_mem_cons.mpr ⟨(List.mem_cons_of_mem _ (List.mem_append_left _ (List.mem_append_right _ (List.mem_append_right _ (List.mem_append_left _ lm6))))), List.forall_mem_cons.mpr ⟨(List.mem_cons_of_mem _ (List.mem_append_left _ (List.mem_append_right _ (List.mem_append_right _ (List.mem_append_left _ lm7))))), List.forall_mem_cons.mpr ⟨(List.mem_cons_of_mem _ (List.mem_append_left _ (List.mem_append_right _ (List.mem_append_right _ (List.mem_append_left _ lm8))))), List.forall_mem_cons.mpr ⟨(List.mem_cons_of_mem _ (List.mem_append_left _ (List.mem_append_right _ (List.mem_append_right _ (List.mem_append_left _ lm9))))), List.forall_mem_cons.mpr ⟨(List.mem_cons_of_mem _ (List.mem_append_left _ (List.mem_append_right _ (List.mem_append_right _ (List.mem_append_left _ lm10))))), List.forall_mem_cons.mpr ⟨(List.mem_cons_of_mem _ (List.mem_append_left _ (List.mem_append_right _ (List.mem_append_right _ (List.mem_append_left _ lm11))))), List.forall_mem_cons.mpr ⟨(List.mem_cons_of_mem _ (List.mem_append_left _ (List.mem_append_right _ (List.mem_append_right _ (List.mem_append_left _ lm12))))), List.forall_mem_cons.mpr ⟨(List.mem_cons_of_mem _ (List.mem_append_left _ (List.mem_append_right _ (List.mem_append_right _ (List.mem_append_left _ lm13))))), List.forall_mem_cons.mpr ⟨(List.mem_cons_of_mem _ (List.mem_append_left _ (List.mem_append_right _ (List.mem_append_right _ (List.mem_append_left _ lm14))))), List.forall_mem_cons.mpr ⟨(List.mem_cons_of_mem _ (List.mem_append_left _ (List.mem_append_right _ (List.mem_append_right _ (List.mem_append_left _ lm15))))), List.forall_mem_cons.mpr ⟨(List.mem_cons_of_mem _ (List.mem_append_left _ (List.mem_append_right _ (List.mem_append_right _ (List.mem_append_left _ lm16))))), (fun _ h => absurd h List.not_mem_nil)⟩⟩⟩⟩⟩⟩⟩⟩⟩⟩⟩⟩⟩⟩⟩⟩⟩⟩⟩⟩⟩, (fun _ h => (List.mem_cons_of_mem _ (List.mem_append_right _ h)))⟩⟩) gw_X12_load)
theorem gX12_argument_X12_bound : GoodIn wsX12_argument (wsV RX12 539 RX12 yX12_bound wsX12_bound) := goodIn_app (goodIn_sub (List.forall_mem_cons.mpr ⟨(List.mem_cons_of_mem _ (List.mem_append_left _ (List.mem_append_right _ (List.mem_append_right _ (List.mem_append_left _ lm17))))), List.forall_mem_cons.mpr ⟨(List.mem_cons_of_mem _ (List.mem_append_left _ (List.mem_append_right _ (List.mem_append_right _ (List.mem_append_left _ lm18))))), List.forall_mem_cons.mpr ⟨(List.mem_cons_of_mem _ (List.mem_append_left _ (List.mem_append_right _ (List.mem_append_right _ (List.mem_append_left _ lm19))))), List.forall_mem_cons.mpr ⟨(List.mem_cons_of_mem _ (List.mem_append_left _ (List.mem_append_left _ lm6))), (fun _ h => absurd h List.not_mem_nil)⟩⟩⟩⟩) (by decide +kernel)) (goodIn_sub (by unfold wsX12_bound; exact List.forall_mem_cons.mpr ⟨(List.mem_cons_of_mem _ (List.mem_append_left _ (List.mem_append_right _ (List.mem_append_right _ (List.mem_append_left _ lm20))))), List.forall_mem_append.mpr ⟨List.forall_mem_append.mpr ⟨List.forall_mem_cons.mpr ⟨(List.mem_cons_of_mem _ (List.mem_append_left _ (List.mem_append_right _ (List.mem_append_right _ (List.mem_append_left _ lm21))))), List.forall_mem_cons.mpr ⟨(List.mem_cons_of_mem _ (List.mem_append_left _ (List.mem_append_right _ (List.mem_append_right _ (List.mem_append_left _ lm22))))), List.forall_mem_cons.mpr ⟨(List.mem_cons_of_mem _ (List.mem_append_left _ (List.mem_append_right _ (List.mem_append_right _ (List.mem_append_left _ lm23))))), List.forall_mem_cons.mpr ⟨(List.mem_cons_of_mem _ (List.mem_append_left _ (List.mem_append_right _ (List.mem_append_right _ (List.mem_append_right _ (List.mem_append_left _ lm0)))))), List.forall_mem_cons.mpr ⟨(List.mem_cons_of_mem _ (List.mem_append_left _ (List.mem_append_left _ lm6))), List.forall_mem_cons.mpr ⟨(List.mem_cons_of_mem _ (List.mem_append_left _ (List.mem_append_right _ (List.mem_append_right _ (List.mem_append_right _ (List.mem_append_left _ lm1)))))), List.forall_mem_cons.mpr ⟨(List.mem_cons_of_mem _ (List.mem_append_left _ (List.mem_append_right _ (List.mem_append_right _ (List.mem_append_right _ (List.mem_append_left _ lm2)))))), List.forall_mem_cons.mpr ⟨(List.mem_cons_of_mem _ (List.mem_append_left _ (List.mem_append_right _ (List.mem_append_right _ (List.mem_append_right _ (List.mem_append_left _ lm3)))))), List.forall_mem_cons.mpr ⟨(List.mem_cons_of_mem _ (List.mem_append_left _ (List.mem_append_right _ (List.mem_append_right _ (List.mem_append_right _ (List.mem_append_left _ lm4)))))), List.forall_mem_cons.mpr ⟨(List.mem_cons_of_mem _ (List.mem_append_left _ (List.mem_append_right _ (List.mem_append_right _ (List.mem_append_right _ (List.mem_append_left _ lm5)))))), List.forall_mem_cons.mpr ⟨(List.mem_cons_of_mem _ (List.mem_append_left _ (List.mem_append_right _ (List.mem_append_right _ (List.mem_append_right _ (List.mem_append_left _ lm6)))))), List.forall_mem_cons.mpr ⟨(List.mem_cons_of_mem _ (List.mem_append_left _ (List.mem_append_right _ (List.mem_append_right _ (List.mem_append_right _ (List.mem_append_left _ lm7)))))), List.forall_mem_cons.mpr ⟨(List.mem_cons_of_mem _ (List.mem_append_left _ (List.mem_append_right _ (List.mem_append_right _ (List.mem_append_right _ (List.mem_append_left _ lm8)))))), List.forall_mem_cons.mpr ⟨(List.mem_cons_of_mem _ (List.mem_append_left _ (List.mem_append_right _ (List.mem_append_right _ (List.mem_append_right _ (List.mem_append_left _ lm9)))))), List.forall_mem_cons.mpr ⟨(List.mem_cons_of_mem _ (List.mem_append_left _ (List.mem_append_right _ (List.mem_append_right _ (List.mem_append_left _ lm4))))), List.forall_mem_cons.mpr ⟨(List.mem_cons_of_mem _ (List.mem_append_left _ (List.mem_append_left _ lm0))), List.forall_mem_cons.mpr ⟨(List.mem_cons_of_mem _ (List.mem_append_left _ (List.mem_append_right _ (List.mem_append_right _ (List.mem_append_right _ (List.mem_append_left _ lm10)))))), List.forall_mem_cons.mpr ⟨(List.mem_cons_of_mem _ (List.mem_append_left _ (List.mem_append_right _ (List.mem_append_right _ (List.mem_append_right _ (List.mem_append_left _ lm11)))))), List.forall_mem_cons.mpr ⟨(List.mem_cons_of_mem _ (List.mem_append_left _ (List.mem_append_right _ (List.mem_append_right _ (List.mem_append_right _ (List.mem_append_left _ lm12)))))), List.forall_mem_cons.mpr ⟨(List.mem_cons_of_mem _ (List.mem_append_left _ (List.mem_append_left _ lm1))), List.forall_mem_cons.mpr ⟨(List.mem_cons_of_mem _ (List.mem_append_left _ (List.mem_append_left _ lm2))), List.forall_mem_cons.mpr ⟨(List.mem_cons_of_mem _ (List.mem_append_left _ (List.mem_append_right _ (List.mem_append_right _ (List.mem_append_right _ (List.mem_append_left _ lm13)))))), List.forall_mem_cons.mpr ⟨(List.mem_cons_of_mem _ (List.mem_append_left _ (List.mem_append_right _ (List.mem_append_right _ (List.mem_append_right _ (List.mem_append_left _ lm14)))))), List.forall_mem_cons.mpr ⟨(List.mem_cons_of_mem _ (List.mem_append_left _ (List.mem_append_right _ (List.mem_append_right _ (List.mem_append_right _ (List.mem_append_left _ lm15)))))), (fun _ h => absurd h List.not_mem_nil)⟩⟩⟩⟩⟩⟩⟩⟩⟩⟩⟩⟩⟩⟩⟩⟩⟩⟩⟩⟩⟩⟩⟩⟩, List.forall_mem_append.mpr ⟨List.forall_mem_cons.mpr ⟨(List.mem_cons_of_mem _ (List.mem_append_left _ (List.mem_append_right _ (List.mem_append_right _ (List.mem_append_right _ (List.mem_append_left _ lm16)))))), List.forall_mem_cons.mpr ⟨(List.mem_cons_of_mem _ (List.mem_append_left _ (List.mem_append_right _ (List.mem_append_right _ (List.mem_append_right _ (List.mem_append_left _ lm17)))))), List.forall_mem_cons.mpr ⟨(List.mem_cons_of_mem _ (List.mem_append_left _ (List.mem_append_right _ (List.mem_append_right _ (List.mem_append_right _ (List.mem_append_left _ lm18)))))), List.forall_mem_cons.mpr ⟨(List.mem_cons_of_mem _ (List.mem_append_left _ (List.mem_append_right _ (List.mem_append_right _ (List.mem_append_right _ (List.mem_append_left _ lm19)))))), List.forall_mem_cons.mpr ⟨(List.mem_cons_of_mem _ (List.mem_append_left _ (List.mem_append_right _ (List.mem_append_right _ (List.mem_append_right _ (List.mem_append_left _ lm20)))))), List.forall_mem_cons.mpr ⟨(List.mem_cons_of_mem _ (List.mem_append_left _ (List.mem_append_right _ (List.mem_append_right _ (List.mem_append_right _ (List.mem_append_left _ lm21)))))), List.forall_mem_cons.mpr ⟨(List.mem_cons_of_mem _ (List.mem_append_left _ (List.mem_append_right _ (List.mem_append_right _ (List.mem_append_right _ (List.mem_append_left _ lm22)))))), List.forall_mem_cons.mpr ⟨(List.mem_cons_of_mem _ (List.mem_append_left _ (List.mem_append_right _ (List.mem_append_right _ (List.mem_append_right _ (List.mem_append_left _ lm23)))))), List.forall_mem_cons.mpr ⟨(List.mem_cons_of_mem _ (List.mem_append_left _ (List.mem_append_right _ (List.mem_append_right _ (List.mem_append_right _ (List.mem_append_right _ (List.mem_append_left _ lm0))))))), List.forall_mem_cons.mpr ⟨(List.mem_cons_of_mem _ (List.mem_append_left _ (List.mem_append_right _ (List.mem_append_right _ (List.mem_append_right _ (List.mem_append_right _ (List.mem_append_left _ lm1))))))), List.forall_mem_cons.mpr ⟨(List.mem_cons_of_mem _ (List.mem_append_left _ (List.mem_append_right _ (List.mem_append_right _ (List.mem_append_right _ (List.mem_append_right _ (List.mem_append_left _ lm2))))))), List.forall_mem_cons.mpr ⟨(List.mem_cons_of_mem _ (List.mem_append_left _ (List.mem_append_right _ (List.mem_append_right _ (List.mem_append_right _ (List.mem_append_right _ (List.mem_append_left _ lm3))))))), List.forall_mem_cons.mpr ⟨(List.mem_cons_of_mem _ (List.mem_append_left _ (List.mem_append_right _ (List.mem_append_right _ (List.mem_append_right _ (List.mem_append_right _ (List.mem_append_left _ lm4))))))), List.forall_mem_cons.mpr ⟨(List.mem_cons_of_mem _ (List.mem_append_left _ (List.mem_append_right _ (List.mem_append_right _ (List.mem_append_right _ (List.mem_append_right _ (List.mem_append_left _ lm5))))))), List.forall_mem_cons.mpr ⟨(List.mem_cons_of_mem _ (List.mem_append_left _ (List.mem_append_right _ (List.mem_append_right _ (List.mem_append_right _ (List.mem_append_right _ (List.mem_append_left _ lm6))))))), List.forall_mem_cons.mpr ⟨(List.mem_cons_of_mem _ (List.mem_append_left _ (List.mem_append_right _ (List.mem_append_right _ (List.mem_append_right _ (List.mem_append_right _ (List.mem_append_left _ lm7))))))), List.forall_mem_cons.mpr ⟨(List.mem_cons_of_mem _ (List.mem_append_left _ (List.mem_append_right _ (List.mem_append_right _ (List.mem_append_right _ (List.mem_append_right _ (List.mem_append_left _ lm8))))))), List.forall_mem_cons.mpr ⟨(List.mem_cons_of_mem _ (List.mem_append_left _ (List.mem_append_right _ (List.mem_append_right _ (List.mem_append_right _ (List.mem_append_right _ (List.mem_append_left _ lm9))))))), List.forall_mem_cons.mpr ⟨(List.mem_cons_of_mem _ (List.mem_append_left _ (List.mem_append_right _ (List.mem_append_right _ (List.mem_append_right _ (List.mem_append_right _ (List.mem_append_left _ lm10))))))), List.forall_mem_cons.mpr ⟨(List.mem_cons_of_mem _ (List.mem_append_left _ (List.mem_append_right _ (List.mem_append_right _ (List.mem_append_right _ (List.mem_append_right _ (List.mem_append_left _ lm11))))))), List.forall_mem_cons.mpr ⟨(List.mem_cons_of_mem _ (List.mem_append_left _ (List.mem_append_right _ (List.mem_append_right _ (List.mem_append_right _ (List.mem_append_right _ (List.mem_append_left _ lm12))))))), List.forall_mem_cons.mpr ⟨(List.mem_cons_of_mem _ (List.mem_append_left _ (List.mem_append_right _ (List.mem_append_right _ (List.mem_append_right _ (List.mem_append_right _ (List.mem_append_left _ lm13))))))), List.forall_mem_cons.mpr ⟨(List.mem_cons_of_mem _ (List.mem_append_left _ (List.mem_append_right _ (List.mem_append_right _ (List.mem_append_right _ (List.mem_append_right _ (List.mem_append_left _ lm14))))))), List.forall_mem_cons.mpr ⟨(List.mem_cons_of_mem _ (List.mem_append_left _ (List.mem_append_right _ (List.mem_append_right _ (List.mem_append_right _ (List.mem_append_right _ (List.mem_append_left _ lm15))))))), (fun _ h => absurd h List.not_mem_nil)⟩⟩⟩⟩⟩⟩⟩⟩⟩⟩⟩⟩⟩⟩⟩⟩⟩⟩⟩⟩⟩⟩⟩⟩, List.forall_mem_append.mpr ⟨List.forall_mem_cons.mpr ⟨(List.mem_cons_of_mem _ (List.mem_append_left _ (List.mem_append_right _ (List.mem_append_right _ (List.mem_append_right _ (List.mem_append_right _ (List.mem_append_left _ lm16))))))), List.forall_mem_cons.mpr ⟨(List.mem_cons_of_mem _ (List.mem_append_left _ (List.mem_append_right _ (List.mem_append_right _ (List.mem_append_right _ (List.mem_append_right _ (List.mem_append_left _ lm17))))))), List.forall_mem_cons.mpr ⟨(List.mem_cons_of_mem _ (List.mem_append_left _ (List.mem_append_right _ (List.mem_append_right _ (List.mem_append_right _ (List.mem_append_right _ (List.mem_append_left _ lm18))))))), List.forall_mem_cons.mpr ⟨(List.mem_cons_of_mem _ (List.mem_append_left _ (List.mem_append_right _ (List.mem_append_right _ (List.mem_append_right _ (List.mem_append_right _ (List.mem_append_left _ lm19))))))), List.forall_mem_cons.mpr ⟨(List.mem_cons_of_mem _ (List.mem_append_left _ (List.mem_append_right _ (List.mem_append_right _ (List.mem_append_right _ (List.mem_append_right _ (List.mem_append_left _ lm20))))))), List.forall_mem_cons.mpr ⟨(List.mem_cons_of_mem _ (List.mem_append_left _ (List.mem_append_right _ (List.mem_append_right _ (List.mem_append_right _ (List.mem_append_right _ (List.mem_append_left _ lm21))))))), List.forall_mem_cons.mpr ⟨(List.mem_cons_of_mem _ (List.mem_append_left _ (List.mem_append_right _ (List.mem_append_right _ (List.mem_append_right _ (List.mem_append_right _ (List.mem_append_left _ lm22))))))), List.forall_mem_cons.mpr ⟨(List.mem_cons_of_mem _ (List.mem_append_left _ (List.mem_append_right _ (List.mem_append_right _ (List.mem_append_right _ (List.mem_append_right _ (List.mem_append_left _ lm23))))))), List.forall_mem_cons.mpr ⟨(List.mem_cons_of_mem _ (List.mem_append_left _ (List.mem_append_right _ (List.mem_append_right _ (List.mem_append_right _ (List.mem_append_right _ (List.mem_append_right _ (List.mem_append_left _ lm0)))))))), List.forall_mem_cons.mpr ⟨(List.mem_cons_of_mem _ (List.mem_append_left _ (List.mem_append_right _ (List.mem_append_right _ (List.mem_append_right _ (List.mem_append_right _ (List.mem_append_right _ (List.mem_append_left _ lm1)))))))), List.forall_mem_cons.mpr ⟨(List.mem_cons_of_mem _ (List.mem_append_left _ (List.mem_append_right _ (List.mem_append_right _ (List.mem_append_right _ (List.mem_append_right _ (List.mem_append_right _ (List.mem_append_left _ lm2)))))))), List.forall_mem_cons.mpr ⟨(List.mem_cons_of_mem _ (List.mem_append_left _ (List.mem_append_right _ (List.mem_append_right _ (List.mem_append_right _ (List.mem_append_right _ (List.mem_append_right _ (List.mem_append_left _ lm3)))))))), List.forall_mem_cons.mpr ⟨(List.mem_cons_of_mem _ (List.mem_append_left _ (List.mem_append_right _ (List.mem_append_right _ (List.mem_append_right _ (List.mem_append_right _ (List.mem_append_right _ (List.mem_append_left _ lm4)))))))), List.forall_mem_cons.mpr ⟨(List.mem_cons_of_mem _ (List.mem_append_left _ (List.mem_append_right _ (List.mem_append_right _ (List.mem_append_right _ (List.mem_append_right _ (List.mem_append_right _ (List.mem_append_left _ lm5)))))))), List.forall_mem_cons.mpr ⟨(List.mem_cons_of_mem _ (List.mem_append_left _ (List.mem_append_right _ (List.mem_append_right _ (List.mem_append_right _ (List.mem_append_right _ (List.mem_append_right _ (List.mem_append_left _ lm6)))))))), List.forall_mem_cons.mpr ⟨(List.mem_cons_of_mem _ (List.mem_append_left _ (List.mem_append_right _ (List.mem_append_right _ (List.mem_append_right _ (List.mem_append_right _ (List.mem_append_right _ (List.mem_append_left _ lm7)))))))), List.forall_mem_cons.mpr ⟨(List.mem_cons_of_mem _ (List.mem_append_left _ (List.mem_append_right _ (List.mem_append_right _ (List.mem_append_right _ (List.mem_append_right _ (List.mem_append_right _ (List.mem_append_left _ lm8)))))))), List.forall_mem_cons.mpr ⟨(List.mem_cons_of_mem _ (List.mem_append_left _ (List.mem_append_right _ (List.mem_append_right _ (List.mem_append_right _ (List.mem_append_right _ (List.mem_append_right _ (List.mem_append_left _ lm9)))))))), List.forall_mem_cons.mpr ⟨(List.mem_cons_of_mem _ (List.mem_append_left _ (List.mem_append_right _ (List.mem_append_right _ (List.mem_append_right _ (List.mem_append_right _ (List.mem_append_right _ (List.mem_append_left _ lm10)))))))), List.forall_mem_cons.mpr ⟨(List.mem_cons_of_mem _ (List.mem_append_left _ (List.mem_append_right _ (List.mem_append_right _ (List.mem_append_right _ (List.mem_append_right _ (List.mem_append_right _ (List.mem_append_left _ lm11)))))))), List.forall_mem_cons.mpr ⟨(List.mem_cons_of_mem _ (List.mem_append_left _ (List.mem_append_right _ (List.mem_append_right _ (List.mem_append_right _ (List.mem_append_right _ (List.mem_append_right _ (List.mem_append_left _ lm12)))))))), List.forall_mem_cons.mpr ⟨(List.mem_cons_of_mem _ (List.mem_append_left _ (List.mem_append_right _ (List.mem_append_right _ (List.mem_append_right _ (List.mem_append_right _ (List.mem_append_right _ (List.mem_append_left _ lm13)))))))), List.forall_mem_cons.mpr ⟨(List.mem_cons_of_mem _ (List.mem_append_left _ (List.mem_append_right _ (List.mem_append_right _ (List.mem_append_right _ (List.mem_append_right _ (List.mem_append_right _ (List.mem_append_left _ lm14)))))))), List.forall_mem_cons.mpr ⟨(List.mem_cons_of_mem _ (List.mem_append_left _ (List.mem_append_right _ (List.mem_append_right _ (List.mem_append_right _ (List.mem_append_right _ (List.mem_append_right _ (List.mem_append_left _ lm15)))))))), (fun _ h => absurd h List.not_mem_nil)⟩⟩⟩⟩⟩⟩⟩⟩⟩⟩⟩⟩⟩⟩⟩⟩⟩⟩⟩⟩⟩⟩⟩⟩, List.forall_mem_cons.mpr ⟨(List.mem_cons_of_mem _ (List.mem_append_left _ (List.mem_append_right _ (List.mem_append_right _ (List.mem_append_right _ (List.mem_append_right _ (List.mem_append_right _ (List.mem_append_left _ lm16)))))))), List.forall_mem_cons.mpr ⟨(List.mem_cons_of_mem _ (List.mem_append_left _ (List.mem_append_right _ (List.mem_append_right _ (List.mem_append_right _ (List.mem_append_right _ (List.mem_append_right _ (List.mem_append_left _ lm17)))))))), List.forall_mem_cons.mpr ⟨(List.mem_cons_of_mem _ (List.mem_append_left _ (List.mem_append_right _ (List.mem_append_right _ (List.mem_append_right _ (List.mem_append_right _ (List.mem_append_right _ (List.mem_append_left _ lm18)))))))), List.forall_mem_cons.mpr ⟨(List.mem_cons_of_mem _ (List.mem_append_left _ (List.mem_append_right _ (List.mem_append_right _ (List.mem_append_right _ (List.mem_append_right _ (List.mem_append_right _ (List.mem_append_left _ lm19)))))))), List.forall_mem_cons.mpr ⟨(List.mem_cons_of_mem _ (List.mem_append_left _ (List.mem_append_right _ (List.mem_append_right _ (List.mem_append_left _ lm16))))), List.forall_mem_cons.mpr ⟨(List.mem_cons_of_mem _ (List.mem_append_left _ (List.mem_append_right _ (List.mem_append_right _ (List.mem_append_right _ (List.mem_append_right _ (List.mem_append_right _ (List.mem_append_left _ lm20)))))))), List.forall_mem_cons.mpr ⟨(List.mem_cons_of_mem _ (List.mem_append_left _ (List.mem_append_right _ (List.mem_append_right _ (List.mem_append_right _ (List.mem_append_right _ (List.mem_append_right _ (List.mem_append_left _ lm21)))))))), List.forall_mem_cons.mpr ⟨(List.mem_cons_of_mem _ (List.mem_append_left _ (List.mem_append_right _ (List.mem_append_right _ (List.mem_append_right _ (List.mem_append_right _ (List.mem_append_right _ (List.mem_append_left _ lm22)))))))), List.forall_mem_cons.mpr ⟨(List.mem_cons_of_mem _ (List.mem_append_left _ (List.mem_append_right _ (List.mem_append_right _ (List.mem_append_right _ (List.mem_append_right _ (List.mem_append_right _ (List.mem_append_left _ lm23)))))))), List.forall_mem_cons.mpr ⟨(List.mem_cons_of_mem _ (List.mem_append_left _ (List.mem_append_right _ (List.mem_append_right _ (List.mem_append_right _ (List.mem_append_right _ (List.mem_append_right _ (List.mem_append_right _ lm0)))))))), List.forall_mem_cons.mpr ⟨(List.mem_cons_of_mem _ (List.mem_append_left _ (List.mem_append_right _ (List.mem_append_right _ (List.mem_append_right _ (List.mem_append_right _ (List.mem_append_right _ (List.mem_append_right _ lm1)))))))), List.forall_mem_cons.mpr ⟨(List.mem_cons_of_mem _ (List.mem_append_left _ (List.mem_append_right _ (List.mem_append_right _ (List.mem_append_right _ (List.mem_append_right _ (List.mem_append_right _ (List.mem_append_right _ lm2)))))))), List.forall_mem_cons.mpr ⟨(List.mem_cons_of_mem _ (List.mem_append_left _ (List.mem_append_right _ (List.mem_append_right _ (List.mem_append_right _ (List.mem_append_right _ (List.mem_append_right _ (List.mem_append_right _ lm3)))))))), List.forall_mem_cons.mpr ⟨(List.mem_cons_of_mem _ (List.mem_append_left _ (List.mem_append_right _ (List.mem_append_right _ (List.mem_append_right _ (List.mem_append_right _ (List.mem_append_right _ (List.mem_append_right _ lm4)))))))), List.forall_mem_cons.mpr ⟨(List.mem_cons_of_mem _ (List.mem_append_left _ (List.mem_append_right _ (List.mem_append_right _ (List.mem_append_right _ (List.mem_append_right _ (List.mem_append_right _ (List.mem_append_right _ lm5)))))))), List.forall_mem_cons.mpr ⟨(List.mem_cons_of_mem _ (List.mem_append_left _ (List.mem_append_right _ (List.mem_append_right _ (List.mem_append_right _ (List.mem_append_right _ (List.mem_append_right _ (List.mem_append_right _ lm6)))))))), List.forall_mem_cons.mpr ⟨(List.mem_cons_of_mem _ (List.mem_append_left _ (List.mem_append_right _ (List.mem_append_right _ (List.mem_append_right _ (List.mem_append_right _ (List.mem_append_right _ (List.mem_append_right _ lm7)))))))), List.forall_mem_cons.mpr ⟨(List.mem_cons_of_mem _ (List.mem_append_left _ (List.mem_append_right _ (List.mem_append_right _ (List.mem_append_right _ (List.mem_append_right _ (List.mem_append_right _ (List.mem_append_right _ lm8)))))))), List.forall_mem_cons.mpr ⟨(List.mem_cons_of_mem _ (List.mem_append_left _ (List.mem_append_right _ (List.mem_append_right _ (List.mem_append_right _ (List.mem_append_right _ (List.mem_append_right _ (List.mem_append_right _ lm9)))))))), List.forall_mem_cons.mpr ⟨(List.mem_cons_of_mem _ (List.mem_append_left _ (List.mem_append_right _ (List.mem_append_right _ (List.mem_append_right _ (List.mem_append_right _ (List.mem_append_right _ (List.mem_append_right _ lm10)))))))), List.forall_mem_cons.mpr ⟨(List.mem_cons_of_mem _ (List.mem_append_left _ (List.mem_append_right _ (List.mem_append_right _ (List.mem_append_right _ (List.mem_append_right _ (List.mem_append_right _ (List.mem_append_right _ lm11)))))))), (fun _ h => absurd h List.not_mem_nil)⟩⟩⟩⟩⟩⟩⟩⟩⟩⟩⟩⟩⟩⟩⟩⟩⟩⟩⟩⟩⟩⟩⟩⟩, (fun _ h => (List.mem_cons_of_mem _ (List.mem_append_right _ h)))⟩⟩) gw_X12_bound)
theorem gX12_cell_X12_isStep : GoodIn wsX12_cell (wsV RX12 554 RX12 yX12_isStep wsX12_isStep) := goodIn_app (goodIn_sub (List.forall_mem_cons.mpr ⟨(List.mem_cons_of_mem _ (List.mem_append_left _ (List.mem_append_left _ lm5))), List.forall_mem_cons.mpr ⟨(List.mem_cons_of_mem _ (List.mem_append_left _ (List.mem_append_left _ lm6))), List.forall_mem_cons.mpr ⟨(List.mem_cons_of_mem _ (List.mem_append_left _ (List.mem_append_left _ lm7))), List.forall_mem_cons.mpr ⟨(List.mem_cons_of_mem _ (List.mem_append_left _ (List.mem_append_left _ lm8))), (fun _ h => absurd h List.not_mem_nil)⟩⟩⟩⟩) (by decide +kernel)) (goodIn_sub (by unfold wsX12_isStep; exact List.forall_mem_cons.mpr ⟨(List.mem_cons_of_mem _ (List.mem_append_left _ (List.mem_append_left _ lm9))), List.forall_mem_append.mpr ⟨List.forall_mem_cons.mpr ⟨(List.mem_cons_of_mem _ (List.mem_append_left _ (List.mem_append_left _ lm10))), List.forall_mem_cons.mpr ⟨(List.mem_cons_of_mem _ (List.mem_append_left _ (List.mem_append_left _ lm11))), List.forall_mem_cons.mpr ⟨(List.mem_cons_of_mem _ (List.mem_append_left _ (List.mem_append_left _ lm12))), List.forall_mem_cons.mpr ⟨(List.mem_cons_of_mem _ (List.mem_append_left _ (List.mem_append_left _ lm13))), List.forall_mem_cons.mpr ⟨(List.mem_cons_of_mem _ (List.mem_append_left _ (List.mem_append_left _ lm8))), List.forall_mem_cons.mpr ⟨(List.mem_cons_of_mem _ (List.mem_append_left _ (List.mem_append_left _ lm14))), List.forall_mem_cons.mpr ⟨(List.mem_cons_of_mem _ (List.mem_append_left _ (List.mem_append_left _ lm15))), List.forall_mem_cons.mpr ⟨(List.mem_cons_of_mem _ (List.mem_append_left _ (List.mem_append_left _ lm16))), List.forall_mem_cons.mpr ⟨(List.mem_cons_of_mem _ (List.mem_append_left _ (List.mem_append_left _ lm17))), List.forall_mem_cons.mpr ⟨(List.mem_cons_of_mem _ (List.mem_append_left _ (List.mem_append_left _ lm18))), List.forall_mem_cons.mpr ⟨(List.mem_cons_of_mem _ (List.mem_append_left _ (List.mem_append_left _ lm19))), List.forall_mem_cons.mpr ⟨(List.mem_cons_of_mem _ (List.mem_append_left _ (List.mem_append_left _ lm20))), List.forall_mem_cons.mpr ⟨(List.mem_cons_of_mem _ (List.mem_append_left _ (List.mem_append_left _ lm21))), List.forall_mem_cons.mpr ⟨(List.mem_cons_of_mem _ (List.mem_append_left _ (List.mem_append_left _ lm22))), List.forall_mem_cons.mpr ⟨(List.mem_cons_of_mem _ (List.mem_append_left _ (List.mem_append_left _ lm23))), List.forall_mem_cons.mpr ⟨(List.mem_cons_of_mem _ (List.mem_append_left _ (List.mem_append_right _ (List.mem_append_left _ lm0)))), List.forall_mem_cons.mpr ⟨(List.mem_cons_of_mem _ (List.mem_append_left _ (List.mem_append_right _ (List.mem_append_left _ lm1)))), (fun _ h => absurd h List.not_mem_nil)⟩⟩⟩⟩⟩⟩⟩⟩⟩⟩⟩⟩⟩⟩⟩⟩⟩, (fun _ h => (List.mem_cons_of_mem _ (List.mem_append_right _ h)))⟩⟩) gw_X12_isStep)
theorem gX12_cell_X12_throwsNow : GoodIn wsX12_cell (wsV RX12 171 RX12 yX12_throwsNow wsX12_throwsNow) := goodIn_app (goodIn_sub (List.forall_mem_cons.mpr ⟨(List.mem_cons_of_mem _ (List.mem_append_left _ (List.mem_append_right _ (List.mem_append_left _ lm2)))), List.forall_mem_cons.mpr ⟨(List.mem_cons_of_mem _ (List.mem_append_left _ (List.mem_append_right _ (List.mem_append_left _ lm3)))), List.forall_mem_cons.mpr ⟨(List.mem_cons_of_mem _ (List.mem_append_left _ (List.mem_append_right _ (List.mem_append_left _ lm4)))), List.forall_mem_cons.mpr ⟨(List.mem_cons_of_mem _ (List.mem_append_left _ (List.mem_append_left _ lm8))), (fun _ h => absurd h List.not_mem_nil)⟩⟩⟩⟩) (by decide +kernel)) (goodIn_sub (by unfold wsX12_throwsNow; exact List.forall_mem_cons.mpr ⟨(List.mem_cons_of_mem _ (List.mem_append_left _ (List.mem_append_right _ (List.mem_append_left _ lm5)))), List.forall_mem_append.mpr ⟨List.forall_mem_cons.mpr ⟨(List.mem_cons_of_mem _ (List.mem_append_left _ (List.mem_append_right _ (List.mem_append_left _ lm6)))), (fun _ h => absurd h List.not_mem_nil)⟩, (fun _ h => (List.mem_cons_of_mem _ (List.mem_append_right _ h)))⟩⟩) gw_X12_throwsNow)
theorem gX12_cell_X12_caseStep : GoodIn wsX12_cell (wsV RX12 238 RX12 yX12_caseStep wsX12_caseStep) := goodIn_app (goodIn_sub (List.forall_mem_cons.mpr ⟨(List.mem_cons_of_mem _ (List.mem_append_left _ (List.mem_append_right _ (List.mem_append_left _ lm7)))), List.forall_mem_cons.mpr ⟨(List.mem_cons_of_mem _ (List.mem_append_left _ (List.mem_append_right _ (List.mem_append_left _ lm8)))), List.forall_mem_cons.mpr ⟨(List.mem_cons_of_mem _ (List.mem_append_left _ (List.mem_append_right _ (List.mem_append_left _ lm9)))), List.forall_mem_cons.mpr ⟨(List.mem_cons_of_mem _ (List.mem_append_left _ (List.mem_append_left _ lm8))), (fun _ h => absurd h List.not_mem_nil)⟩⟩⟩⟩) (by decide +kernel)) (goodIn_sub (by unfold wsX12_caseStep; exact List.forall_mem_cons.mpr ⟨(List.mem_cons_of_mem _ (List.mem_append_left _ (List.mem_append_right _ (List.mem_append_left _ lm10)))), List.forall_mem_append.mpr ⟨List.forall_mem_cons.mpr ⟨(List.mem_cons_of_mem _ (List.mem_append_left _ (List.mem_append_left _ lm15))), List.forall_mem_cons.mpr ⟨(List.mem_cons_of_mem _ (List.mem_append_left _ (List.mem_append_left _ lm16))), List.forall_mem_cons.mpr ⟨(List.mem_cons_of_mem _ (List.mem_append_left _ (List.mem_append_left _ lm17))), List.forall_mem_cons.mpr ⟨(List.mem_cons_of_mem _ (List.mem_append_left _ (List.mem_append_left _ lm18))), List.forall_mem_cons.mpr ⟨(List.mem_cons_of_mem _ (List.mem_append_left _ (List.mem_append_left _ lm19))), List.forall_mem_cons.mpr ⟨(List.mem_cons_of_mem _ (List.mem_append_left _ (List.mem_append_left _ lm8))), List.forall_mem_cons.mpr ⟨(List.mem_cons_of_mem _ (List.mem_append_left _ (List.mem_append_left _ lm20))), List.forall_mem_cons.mpr ⟨(List.mem_cons_of_mem _ (List.mem_append_left _ (List.mem_append_left _ lm21))), List.forall_mem_cons.mpr ⟨(List.mem_cons_of_mem _ (List.mem_append_left _ (List.mem_append_left _ lm22))), List.forall_mem_cons.mpr ⟨(List.mem_cons_of_mem _ (List.mem_append_left _ (List.mem_append_left _ lm23))), List.forall_mem_cons.mpr ⟨(List.mem_cons_of_mem _ (List.mem_append_left _ (List.mem_append_right _ (List.mem_append_left _ lm0)))), List.forall_mem_cons.mpr ⟨(List.mem_cons_of_mem _ (List.mem_append_left _ (List.mem_append_right _ (List.mem_append_left _ lm1)))), List.forall_mem_cons.mpr ⟨(List.mem_cons_of_mem _ (List.mem_append_left _ (List.mem_append_right _ (List.mem_append_left _ lm11)))), List.forall_mem_cons.mpr ⟨(List.mem_cons_of_mem _ (List.mem_append_left _ (List.mem_append_right _ (List.mem_append_left _ lm12)))), List.forall_mem_cons.mpr ⟨(List.mem_cons_of_mem _ (List.mem_append_left _ (List.mem_append_right _ (List.mem_append_left _ lm13)))), List.forall_mem_cons.mpr ⟨(List.mem_cons_of_mem _ (List.mem_append_left _ (List.mem_append_right _ (List.mem_append_left _ lm14)))), List.forall_mem_cons.mpr ⟨(List.mem_cons_of_mem _ (List.mem_append_left _ (List.mem_append_right _ (List.mem_append_left _ lm15)))), List.forall_mem_cons.mpr ⟨(List.mem_cons_of_mem _ (List.mem_append_left _ (List.mem_append_right _ (List.mem_append_left _ lm16)))), List.forall_mem_cons.mpr ⟨(List.mem_cons_of_mem _ (List.mem_append_left _ (List.mem_append_right _ (List.mem_append_left _ lm17)))), (fun _ h => absurd h List.not_mem_nil)⟩⟩⟩⟩⟩⟩⟩⟩⟩⟩⟩⟩⟩⟩⟩⟩⟩⟩⟩, (fun _ h => (List.mem_cons_of_mem _ (List.mem_append_right _ h)))⟩⟩) gw_X12_caseStep)
theorem gX12_cell_X12_find : GoodIn wsX12_cell (va_wsS RX12 73 yX12_find wsX12_find) := goodIn_app (goodIn_sub (List.forall_mem_cons.mpr ⟨(List.mem_cons_of_mem _ (List.mem_append_left _ (List.mem_append_right _ (List.mem_append_left _ lm15)))), List.forall_mem_cons.mpr ⟨(List.mem_cons_of_mem _ (List.mem_append_left _ (List.mem_append_right _ (List.mem_append_left _ lm16)))), List.forall_mem_cons.mpr ⟨(List.mem_cons_of_mem _ (List.mem_append_left _ (List.mem_append_left _ lm8))), (fun _ h => absurd h List.not_mem_nil)⟩⟩⟩) (by decide +kernel)) (goodIn_sub (by unfold wsX12_find; exact List.forall_mem_cons.mpr ⟨(List.mem_cons_of_mem _ (List.mem_append_left _ (List.mem_append_right _ (List.mem_append_left _ lm17)))), (fun _ h => absurd h List.not_mem_nil)⟩) gw_X12_find)
theorem gX12_cell_X12_loadCell : GoodIn wsX12_cell (wsV RX12 450 RX12 yX12_loadCell wsX12_loadCell) := goodIn_app (goodIn_sub (List.forall_mem_cons.mpr ⟨(List.mem_cons_of_mem _ (List.mem_append_left _ (List.mem_append_right _ (List.mem_append_left _ lm18)))), List.forall_mem_cons.mpr ⟨(List.mem_cons_of_mem _ (List.mem_append_left _ (List.mem_append_right _ (List.mem_append_left _ lm19)))), List.forall_mem_cons.mpr ⟨(List.mem_cons_of_mem _ (List.mem_append_left _ (List.mem_append_right _ (List.mem_append_left _ lm20)))), List.forall_mem_cons.mpr ⟨(List.mem_cons_of_mem _ (List.mem_append_left _ (List.mem_append_left _ lm8))), (fun _ h => absurd h List.not_mem_nil)⟩⟩⟩⟩) (by decide +kernel)) (goodIn_sub (by unfold wsX12_loadCell; exact List.forall_mem_cons.mpr ⟨(List.mem_cons_of_mem _ (List.mem_append_left _ (List.mem_append_right _ (List.mem_append_left _ lm21)))), List.forall_mem_append.mpr ⟨List.forall_mem_cons.mpr ⟨(List.mem_cons_of_mem _ (List.mem_append_left _ (List.mem_append_left _ lm21))), List.forall_mem_cons.mpr ⟨(List.mem_cons_of_mem _ (List.mem_append_left _ (List.mem_append_left _ lm15))), List.forall_mem_cons.mpr ⟨(List.mem_cons_of_mem _ (List.mem_append_left _ (List.mem_append_right _ (List.mem_append_left _ lm22)))), List.forall_mem_cons.mpr ⟨(List.mem_cons_of_mem _ (List.mem_append_left _ (List.mem_append_right _ (List.mem_append_left _ lm23)))), List.forall_mem_cons.mpr ⟨(List.mem_cons_of_mem _ (List.mem_append_left _ (List.mem_append_right _ (List.mem_append_right _ lm0)))), List.forall_mem_cons.mpr ⟨(List.mem_cons_of_mem _ (List.mem_append_left _ (List.mem_append_right _ (List.mem_append_right _ lm1)))), List.forall_mem_cons.mpr ⟨(List.mem_cons_of_mem _ (List.mem_append_left _ (List.mem_append_right _ (List.mem_append_right _ lm2)))), List.forall_mem_cons.mpr ⟨(List.mem_cons_of_mem _ (List.mem_append_left _ (List.mem_append_right _ (List.mem_append_right _ lm3)))), List.forall_mem_cons.mpr ⟨(List.mem_cons_of_mem _ (List.mem_append_left _ (List.mem_append_right _ (List.mem_append_right _ lm4)))), List.forall_mem_cons.mpr ⟨(List.mem_cons_of_mem _ (List.mem_append_left _ (List.mem_append_left _ lm8))), List.forall_mem_cons.mpr ⟨(List.mem_cons_of_mem _ (List.mem_append_left _ (List.mem_append_right _ (List.mem_append_right _ lm5)))), List.forall_mem_cons.mpr ⟨(List.mem_cons_of_mem _ (List.mem_append_left _ (List.mem_append_left _ lm3))), List.forall_mem_cons.mpr ⟨(List.mem_cons_of_mem _ (List.mem_append_left _ (List.mem_append_right _ (List.mem_append_right _ lm6)))), List.forall_mem_cons.mpr ⟨(List.mem_cons_of_mem _ (List.mem_append_left _ (List.mem_append_right _ (List.mem_append_right _ lm7)))), List.forall_mem_cons.mpr ⟨(List.mem_cons_of_mem _ (List.mem_append_left _ (List.mem_append_right _ (List.mem_append_right _ lm8)))), List.forall_mem_cons.mpr ⟨(List.mem_cons_of_mem _ (List.mem_append_left _ (List.mem_append_right _ (List.mem_append_right _ lm9)))), List.forall_mem_cons.mpr ⟨(List.mem_cons_of_mem _ (List.mem_append_left _ (List.mem_append_left _ lm2))), List.forall_mem_cons.mpr ⟨(List.mem_cons_of_mem _ (List.mem_append_left _ (List.mem_append_right _ (List.mem_append_right _ lm10)))), List.forall_mem_cons.mpr ⟨(List.mem_cons_of_mem _ (List.mem_append_left _ (List.mem_append_right _ (List.mem_append_right _ lm11)))), List.forall_mem_cons.mpr ⟨(List.mem_cons_of_mem _ (List.mem_append_left _ (List.mem_append_right _ (List.mem_append_right _ lm12)))), List.forall_mem_cons.mpr ⟨(List.mem_cons_of_mem _ (List.mem_append_left _ (List.mem_append_right _ (List.mem_append_right _ lm13)))), List.forall_mem_cons.mpr ⟨(List.mem_cons_of_mem _ (List.mem_append_left _ (List.mem_append_left _ lm4))), (fun _ h => absurd h List.not_mem_nil)⟩⟩⟩⟩⟩⟩⟩⟩⟩⟩⟩⟩⟩⟩⟩⟩⟩⟩⟩⟩⟩⟩, (fun _ h => (List.mem_cons_of_mem _ (List.mem_append_right _ h)))⟩⟩) gw_X12_loadCell)
set_option maxHeartbeats 2000000 in
set_option maxRecDepth 100000 in
theorem m_isStep (l : Launch) (D : va_G) (g : Nat → Nat) (ka : Nat → ClassId) (ad : Nat → Nat) (i : Nat → Nat → Int32) (r : Nat → Nat → Nat) (L : Nat → Nat → Int64) (d : Nat → Nat → UInt64) (x : Int32) (y : Int32) (hO : OkI i) (hR : RS r) (sz : Nat)  : Met l yX12_isStep wsX12_isStep ({ frames := 3, cells := 0, slots := 0, locals := 69 }) (va_Pc [.ref (g 36), .int x, .int y] (sj_B D (hwc g ka i r L d) (hT ka) sz (gx ad (va_A (hwc g ka i r L d) sz)))) (sj_Qi (S := Unit) D (fun v u => ((0 : Int) ≤ v.toInt ∧ v.toInt ≤ 1) ∧ ((v.toInt = 1 ∧ (0 ≤ x.toInt ∧ x.toInt < (i 36 33).toInt) ∧ 0 ≤ y.toInt ∧ y.toInt < mcs i x.toInt.toNat) ∨ v.toInt = 0)) (fun _ => hwc g ka i r L d) (fun _ => []) (va_A (hwc g ka i r L d) sz)) 0 0 (va_A (hwc g ka i r L d) sz) := by
  refine x_met (Ex := gx ad) (cc := cX12_isStep) (maxL := 3) (ret := (some .boolean)) (by decide) rfl (Nat.le_of_ble_eq_true rfl) ?_
  intro p e s m below meth c A ls hx hb hr hml hts hown hlocks hA hS hH hK hE hl
  have hown : s.vm.findClass RX12 = some m.cls := hown
  have in12 : ∀ w ∈ wsX120, w ∈ wsX12_isStep := (fun _ h => (List.mem_cons_of_mem _ (List.mem_append_right _ h)))
  have wd0 := hts (.fieldLink RX12 165 "StoryDeskModel" "cases" "I") (List.mem_cons_of_mem _ (List.mem_append_left _ lm0))
  have hl : lv_has ls 3 [(0, .ref (g 36)), (1, .int x), (2, .int y)] := hl
  have hK : va_K D vwCl (hT ka) s := hK
  have hg_1 := s_rng x
  have hg_2 := s_rng y
  have hb33 : (0 : Int) ≤ (i 36 33).toInt ∧ (i 36 33).toInt ≤ 24 := hO 36 33
  refine lv_iload_n hx hb dX12_isStep_0 rfl (lv_at hl 1 rfl) ?_
  refine lv_if_lt (tgt := 45) hx hb dX12_isStep_1 (by decide) (fun c_3 => ?_) (fun c_3 => ?_)
  · skip
    have h_4 := s_lt (rfl : x.toInt = _) (show (0 : Int32).toInt = 0 from rfl) c_3
    refine lv_iconst (v := 0) hx hb dX12_isStep_45 (by decide) ?_
    have hlv_5 : (0 : Int32).toInt = 0 := rfl
    exact sj_zret hx hb hr hlocks (by decide +kernel) hS () ⟨⟨by decide, by decide⟩, (by omega)⟩ hH (sj_Knil hK) (Nat.le_of_ble_eq_true rfl) (Nat.le_of_ble_eq_true rfl) dX12_isStep_46
  · skip
    have h_6 := s_nlt (rfl : x.toInt = _) (show (0 : Int32).toInt = 0 from rfl) c_3
    refine lv_iload_n hx hb dX12_isStep_4 rfl (lv_at hl 1 rfl) ?_
    refine lv_aload_n hx hb dX12_isStep_5 rfl (lv_at hl 0 rfl) ?_
    have bx_7 : (0 : Int) ≤ (i 36 33).toInt ∧ (i 36 33).toInt ≤ 24 := hO 36 33
    refine h_geti (ci := 12) (C := RX12) (F := TX12) (N := 86) hx hb hts in12 hown hK hH (by decide) (rfl : kd 36 = 12) (by decide) rfl 33 (by decide) wd0 (fun _ h9 => h9) (by decide) rfl dX12_isStep_6 ?_
    refine lv_icmp_ge (tgt := 45) hx hb dX12_isStep_9 (by decide) (fun c_8 => ?_) (fun c_8 => ?_)
    · skip
      have h_9 := s_le (rfl : (i 36 33).toInt = _) (rfl : x.toInt = _) c_8
      refine lv_iconst (v := 0) hx hb dX12_isStep_45 (by decide) ?_
      have hlv_10 : (0 : Int32).toInt = 0 := rfl
      exact sj_zret hx hb hr hlocks (by decide +kernel) hS () ⟨⟨by decide, by decide⟩, (by omega)⟩ hH (sj_Knil hK) (Nat.le_of_ble_eq_true rfl) (Nat.le_of_ble_eq_true rfl) dX12_isStep_46
    · skip
      have h_11 := s_nle (rfl : (i 36 33).toInt = _) (rfl : x.toInt = _) c_8
      refine lv_iload_n hx hb dX12_isStep_12 rfl (lv_at hl 2 rfl) ?_
      refine lv_if_lt (tgt := 45) hx hb dX12_isStep_13 (by decide) (fun c_12 => ?_) (fun c_12 => ?_)
      · skip
        have h_13 := s_lt (rfl : y.toInt = _) (show (0 : Int32).toInt = 0 from rfl) c_12
        refine lv_iconst (v := 0) hx hb dX12_isStep_45 (by decide) ?_
        have hlv_14 : (0 : Int32).toInt = 0 := rfl
        exact sj_zret hx hb hr hlocks (by decide +kernel) hS () ⟨⟨by decide, by decide⟩, (by omega)⟩ hH (sj_Knil hK) (Nat.le_of_ble_eq_true rfl) (Nat.le_of_ble_eq_true rfl) dX12_isStep_46
      · skip
        have h_15 := s_nlt (rfl : y.toInt = _) (show (0 : Int32).toInt = 0 from rfl) c_12
        refine lv_iload_n hx hb dX12_isStep_16 rfl (lv_at hl 2 rfl) ?_
        refine lv_aload_n hx hb dX12_isStep_17 rfl (lv_at hl 0 rfl) ?_
        refine lv_iload_n hx hb dX12_isStep_18 rfl (lv_at hl 1 rfl) ?_
        refine lv_if_lt (tgt := 30) hx hb dX12_isStep_19 (by decide) (fun h => absurd h (p_nlt (rfl : x.toInt = _) (show (0 : Int32).toInt = 0 from rfl) (by omega))) (fun _ => ?_)
        refine lv_iload_n hx hb dX12_isStep_22 rfl (lv_at hl 1 rfl) ?_
        refine lv_aload_n hx hb dX12_isStep_23 rfl (lv_at hl 0 rfl) ?_
        refine h_geti (ci := 12) (C := RX12) (F := TX12) (N := 86) hx hb hts in12 hown hK hH (by decide) (rfl : kd 36 = 12) (by decide) rfl 33 (by decide) wd0 (fun _ h9 => h9) (by decide) rfl dX12_isStep_24 ?_
        refine lv_icmp_lt (tgt := 34) hx hb dX12_isStep_27 (by decide) (fun c_16 => ?_) (fun c_16 => ?_)
        · skip
          have h_17 := s_lt (rfl : x.toInt = _) (rfl : (i 36 33).toInt = _) c_16
          refine lv_iload_n hx hb dX12_isStep_34 rfl (lv_at hl 1 rfl) ?_
          refine x_calli (va_runV (As := [.int x]) (rest := [.int y]) ⟨hx, hb, hml, hown, hts⟩ (m_caseSteps l D g ka ad i r L d x hO hR s.heap.size (by first | omega | decide) (by first | omega | decide)) (cwV 1 hts gX12_isStep_X12_caseSteps rfl rfl rfl (by decide +kernel) ⟨(Nat.le_of_ble_eq_true rfl), (Nat.le_of_ble_eq_true rfl)⟩) (x_preV (q := (RX12, TX12, 86)) hH hK (q_obj (by decide) (rfl : kd 36 = 12) (by decide)) rfl gxb (gxw hE hS (x_F hH hS hA))) rfl rfl hl.1 rfl (lv_room (Nat.le_of_ble_eq_true rfl)) dX12_isStep_35 ⟨(Nat.le_of_ble_eq_true rfl), (Nat.le_of_ble_eq_true rfl)⟩) hH hS hA rfl rfl (fun r_18 _ H locs hw_19 hH hS => ?_)
          obtain ⟨hr_21, he_22⟩ := hw_19
          have hr_21 : (0 : Int) ≤ r_18.toInt ∧ r_18.toInt ≤ 30 := hr_21
          refine lv_icmp_ge (tgt := 45) hx hb dX12_isStep_38 (by decide) (fun c_23 => ?_) (fun c_23 => ?_)
          · skip
            have h_24 := s_le (rfl : r_18.toInt = _) (rfl : y.toInt = _) c_23
            refine lv_iconst (v := 0) hx hb dX12_isStep_45 (by decide) ?_
            have hlv_25 : (0 : Int32).toInt = 0 := rfl
            exact sj_zret hx hb hr hlocks (by decide +kernel) hS () ⟨⟨by decide, by decide⟩, (by omega)⟩ hH (sj_Knil hK) (Nat.le_of_ble_eq_true rfl) (Nat.le_of_ble_eq_true rfl) dX12_isStep_46
          · skip
            have h_26 := s_nle (rfl : r_18.toInt = _) (rfl : y.toInt = _) c_23
            refine lv_iconst (v := 1) hx hb dX12_isStep_41 (by decide) ?_
            refine lv_goto (tgt := 46) hx hb dX12_isStep_42 (by decide) ?_
            have hlv_27 : (1 : Int32).toInt = 1 := rfl
            exact sj_zret hx hb hr hlocks (by decide +kernel) hS () ⟨⟨by decide, by decide⟩, (by omega)⟩ hH (sj_Knil hK) (Nat.le_of_ble_eq_true rfl) (Nat.le_of_ble_eq_true rfl) dX12_isStep_46
        · skip
          have h_28 := s_nlt (rfl : x.toInt = _) (rfl : (i 36 33).toInt = _) c_16
          refine lv_iconst (v := 0) hx hb dX12_isStep_30 (by decide) ?_
          refine lv_goto (tgt := 35) hx hb dX12_isStep_31 (by decide) ?_
          have hl_29 : (0 : Int32).toInt = 0 := rfl
          refine x_calli (va_runV (As := [.int 0]) (rest := [.int y]) ⟨hx, hb, hml, hown, hts⟩ (m_caseSteps l D g ka ad i r L d 0 hO hR s.heap.size (by first | omega | decide) (by first | omega | decide)) (cwV 1 hts gX12_isStep_X12_caseSteps rfl rfl rfl (by decide +kernel) ⟨(Nat.le_of_ble_eq_true rfl), (Nat.le_of_ble_eq_true rfl)⟩) (x_preV (q := (RX12, TX12, 86)) hH hK (q_obj (by decide) (rfl : kd 36 = 12) (by decide)) rfl gxb (gxw hE hS (x_F hH hS hA))) rfl rfl hl.1 rfl (lv_room (Nat.le_of_ble_eq_true rfl)) dX12_isStep_35 ⟨(Nat.le_of_ble_eq_true rfl), (Nat.le_of_ble_eq_true rfl)⟩) hH hS hA rfl rfl (fun r_30 _ H locs hw_31 hH hS => ?_)
          obtain ⟨hr_33, he_34⟩ := hw_31
          have hr_33 : (0 : Int) ≤ r_30.toInt ∧ r_30.toInt ≤ 30 := hr_33
          refine lv_icmp_ge (tgt := 45) hx hb dX12_isStep_38 (by decide) (fun c_35 => ?_) (fun c_35 => ?_)
          · skip
            have h_36 := s_le (rfl : r_30.toInt = _) (rfl : y.toInt = _) c_35
            refine lv_iconst (v := 0) hx hb dX12_isStep_45 (by decide) ?_
            have hlv_37 : (0 : Int32).toInt = 0 := rfl
            exact sj_zret hx hb hr hlocks (by decide +kernel) hS () ⟨⟨by decide, by decide⟩, (by omega)⟩ hH (sj_Knil hK) (Nat.le_of_ble_eq_true rfl) (Nat.le_of_ble_eq_true rfl) dX12_isStep_46
          · skip
            have h_38 := s_nle (rfl : r_30.toInt = _) (rfl : y.toInt = _) c_35
            refine lv_iconst (v := 1) hx hb dX12_isStep_41 (by decide) ?_
            refine lv_goto (tgt := 46) hx hb dX12_isStep_42 (by decide) ?_
            have hlv_39 : (1 : Int32).toInt = 1 := rfl
            exact sj_zret hx hb hr hlocks (by decide +kernel) hS () ⟨⟨by decide, by decide⟩, (by omega)⟩ hH (sj_Knil hK) (Nat.le_of_ble_eq_true rfl) (Nat.le_of_ble_eq_true rfl) dX12_isStep_46
set_option maxHeartbeats 2000000 in
set_option maxRecDepth 100000 in
theorem m_error (l : Launch) (D : va_G) (g : Nat → Nat) (ka : Nat → ClassId) (ad : Nat → Nat) (i : Nat → Nat → Int32) (r : Nat → Nat → Nat) (L : Nat → Nat → Int64) (d : Nat → Nat → UInt64) (x : Int32) (y : Int32) (hO : OkI i) (hR : RS r) (sz : Nat)  : Met l yX12_error wsX12_error ({ frames := 1, cells := 0, slots := 0, locals := 21 }) (va_Pc [.ref (g 36), .int x, .int y] (sj_B D (hwc g ka i r L d) (hT ka) sz (gx ad (va_A (hwc g ka i r L d) sz)))) (sj_Qi (S := (Nat → Nat → Int32)) D (fun v u => OkI u ∧ (∀ a b, ¬ ((a = 36 ∧ (b = 0))) → u a b = i a b)) (fun u => hwc g ka u r L d) (fun _ => []) (va_A (hwc g ka i r L d) sz)) 0 0 (va_A (hwc g ka i r L d) sz) := by
  refine x_met (Ex := gx ad) (cc := cX12_error) (maxL := 3) (ret := (some .int)) (by decide) rfl (Nat.le_of_ble_eq_true rfl) ?_
  intro p e s m below meth c A ls hx hb hr hml hts hown hlocks hA hS hH hK hE hl
  have hown : s.vm.findClass RX12 = some m.cls := hown
  have in12 : ∀ w ∈ wsX120, w ∈ wsX12_error := (fun _ h => (List.mem_cons_of_mem _ (List.mem_append_right _ h)))
  have wd0 := hts (.fieldLink RX12 57 "StoryDeskModel" "wrongs" "I") (List.mem_cons_of_mem _ (List.mem_append_left _ lm0))
  have wd1 := hts (.fieldLink RX12 60 "StoryDeskModel" "errors" "[I") (List.mem_cons_of_mem _ (List.mem_append_left _ lm1))
  have hl : lv_has ls 3 [(0, .ref (g 36)), (1, .int x), (2, .int y)] := hl
  have hK : va_K D vwCl (hT ka) s := hK
  have hg_1 := s_rng x
  have hg_2 := s_rng y
  have hb6 : (0 : Int) ≤ (i 36 6).toInt ∧ (i 36 6).toInt ≤ 20 := hO 36 6
  refine lv_aload_n hx hb dX12_error_0 rfl (lv_at hl 0 rfl) ?_
  refine lv_iload_n hx hb dX12_error_1 rfl (lv_at hl 1 rfl) ?_
  refine lv_if_lt (tgt := 22) hx hb dX12_error_2 (by decide) (fun c_3 => ?_) (fun c_3 => ?_)
  · skip
    have h_4 := s_lt (rfl : x.toInt = _) (show (0 : Int32).toInt = 0 from rfl) c_3
    refine lv_iconst (v := 1) hx hb dX12_error_22 (by decide) ?_
    refine lv_goto (tgt := 27) hx hb dX12_error_23 (by decide) ?_
    have hl_5 : (1 : Int32).toInt = 1 := rfl
    refine x_calli (va_runV (As := [.int 1]) (rest := []) ⟨hx, hb, hml, hown, hts⟩ (m_throwsNow l D g ka ad i r L d 1 hO hR s.heap.size (by first | omega | decide) (by first | omega | decide)) (cwV 1 hts gX12_error_X12_throwsNow rfl rfl rfl (by decide +kernel) ⟨(Nat.le_of_ble_eq_true rfl), (Nat.le_of_ble_eq_true rfl)⟩) (x_preV (q := (RX12, TX12, 86)) hH hK (q_obj (by decide) (rfl : kd 36 = 12) (by decide)) rfl gxb (gxw hE hS (x_F hH hS hA))) rfl rfl hl.1 rfl (lv_room (Nat.le_of_ble_eq_true rfl)) dX12_error_27 ⟨(Nat.le_of_ble_eq_true rfl), (Nat.le_of_ble_eq_true rfl)⟩) hH hS hA rfl rfl (fun r_6 im_8 H locs hw_7 hH hS => ?_)
    have hH : sj_H D A (hwc g ka im_8 r L d) H := hH
    obtain ⟨hO_10, hfr_9, hr_11, he_12⟩ := hw_7
    have hr_11 : (0 : Int) ≤ r_6.toInt ∧ r_6.toInt ≤ 1 := hr_11
    refine lv_if_eq (tgt := 37) hx hb dX12_error_30 (by decide) (fun c_13 => ?_) (fun c_13 => ?_)
    · skip
      have h_14 := s_eq (rfl : r_6.toInt = _) (show (0 : Int32).toInt = 0 from rfl) c_13
      exfalso; omega
    · skip
      have h_15 := s_ne (rfl : r_6.toInt = _) (show (0 : Int32).toInt = 0 from rfl) c_13
      refine lv_iconst (v := 0) hx hb dX12_error_33 (by decide) ?_
      refine lv_goto (tgt := 47) hx hb dX12_error_34 (by decide) ?_
      exact sj_zret hx hb hr hlocks rfl hS im_8 ⟨hO_10, (fun a b ha => (hfr_9 a b (by omega)))⟩ hH (sj_Knil hK) (Nat.le_of_ble_eq_true rfl) (Nat.le_of_ble_eq_true rfl) dX12_error_47
  · skip
    have h_16 := s_nlt (rfl : x.toInt = _) (show (0 : Int32).toInt = 0 from rfl) c_3
    refine lv_iload_n hx hb dX12_error_5 rfl (lv_at hl 1 rfl) ?_
    refine lv_aload_n hx hb dX12_error_6 rfl (lv_at hl 0 rfl) ?_
    have bx_17 : (0 : Int) ≤ (i 36 6).toInt ∧ (i 36 6).toInt ≤ 20 := hO 36 6
    refine h_geti (ci := 12) (C := RX12) (F := TX12) (N := 86) hx hb hts in12 hown hK hH (by decide) (rfl : kd 36 = 12) (by decide) rfl 6 (by decide) wd0 (fun _ h9 => h9) (by decide) rfl dX12_error_7 ?_
    refine lv_icmp_ge (tgt := 22) hx hb dX12_error_10 (by decide) (fun c_18 => ?_) (fun c_18 => ?_)
    · skip
      have h_19 := s_le (rfl : (i 36 6).toInt = _) (rfl : x.toInt = _) c_18
      refine lv_iconst (v := 1) hx hb dX12_error_22 (by decide) ?_
      refine lv_goto (tgt := 27) hx hb dX12_error_23 (by decide) ?_
      have hl_20 : (1 : Int32).toInt = 1 := rfl
      refine x_calli (va_runV (As := [.int 1]) (rest := []) ⟨hx, hb, hml, hown, hts⟩ (m_throwsNow l D g ka ad i r L d 1 hO hR s.heap.size (by first | omega | decide) (by first | omega | decide)) (cwV 1 hts gX12_error_X12_throwsNow rfl rfl rfl (by decide +kernel) ⟨(Nat.le_of_ble_eq_true rfl), (Nat.le_of_ble_eq_true rfl)⟩) (x_preV (q := (RX12, TX12, 86)) hH hK (q_obj (by decide) (rfl : kd 36 = 12) (by decide)) rfl gxb (gxw hE hS (x_F hH hS hA))) rfl rfl hl.1 rfl (lv_room (Nat.le_of_ble_eq_true rfl)) dX12_error_27 ⟨(Nat.le_of_ble_eq_true rfl), (Nat.le_of_ble_eq_true rfl)⟩) hH hS hA rfl rfl (fun r_21 im_23 H locs hw_22 hH hS => ?_)
      have hH : sj_H D A (hwc g ka im_23 r L d) H := hH
      obtain ⟨hO_25, hfr_24, hr_26, he_27⟩ := hw_22
      have hr_26 : (0 : Int) ≤ r_21.toInt ∧ r_21.toInt ≤ 1 := hr_26
      refine lv_if_eq (tgt := 37) hx hb dX12_error_30 (by decide) (fun c_28 => ?_) (fun c_28 => ?_)
      · skip
        have h_29 := s_eq (rfl : r_21.toInt = _) (show (0 : Int32).toInt = 0 from rfl) c_28
        exfalso; omega
      · skip
        have h_30 := s_ne (rfl : r_21.toInt = _) (show (0 : Int32).toInt = 0 from rfl) c_28
        refine lv_iconst (v := 0) hx hb dX12_error_33 (by decide) ?_
        refine lv_goto (tgt := 47) hx hb dX12_error_34 (by decide) ?_
        exact sj_zret hx hb hr hlocks rfl hS im_23 ⟨hO_25, (fun a b ha => (hfr_24 a b (by omega)))⟩ hH (sj_Knil hK) (Nat.le_of_ble_eq_true rfl) (Nat.le_of_ble_eq_true rfl) dX12_error_47
    · skip
      have h_31 := s_nle (rfl : (i 36 6).toInt = _) (rfl : x.toInt = _) c_18
      refine lv_iload_n hx hb dX12_error_13 rfl (lv_at hl 2 rfl) ?_
      refine lv_if_lt (tgt := 22) hx hb dX12_error_14 (by decide) (fun c_32 => ?_) (fun c_32 => ?_)
      · skip
        have h_33 := s_lt (rfl : y.toInt = _) (show (0 : Int32).toInt = 0 from rfl) c_32
        refine lv_iconst (v := 1) hx hb dX12_error_22 (by decide) ?_
        refine lv_goto (tgt := 27) hx hb dX12_error_23 (by decide) ?_
        have hl_34 : (1 : Int32).toInt = 1 := rfl
        refine x_calli (va_runV (As := [.int 1]) (rest := []) ⟨hx, hb, hml, hown, hts⟩ (m_throwsNow l D g ka ad i r L d 1 hO hR s.heap.size (by first | omega | decide) (by first | omega | decide)) (cwV 1 hts gX12_error_X12_throwsNow rfl rfl rfl (by decide +kernel) ⟨(Nat.le_of_ble_eq_true rfl), (Nat.le_of_ble_eq_true rfl)⟩) (x_preV (q := (RX12, TX12, 86)) hH hK (q_obj (by decide) (rfl : kd 36 = 12) (by decide)) rfl gxb (gxw hE hS (x_F hH hS hA))) rfl rfl hl.1 rfl (lv_room (Nat.le_of_ble_eq_true rfl)) dX12_error_27 ⟨(Nat.le_of_ble_eq_true rfl), (Nat.le_of_ble_eq_true rfl)⟩) hH hS hA rfl rfl (fun r_35 im_37 H locs hw_36 hH hS => ?_)
        have hH : sj_H D A (hwc g ka im_37 r L d) H := hH
        obtain ⟨hO_39, hfr_38, hr_40, he_41⟩ := hw_36
        have hr_40 : (0 : Int) ≤ r_35.toInt ∧ r_35.toInt ≤ 1 := hr_40
        refine lv_if_eq (tgt := 37) hx hb dX12_error_30 (by decide) (fun c_42 => ?_) (fun c_42 => ?_)
        · skip
          have h_43 := s_eq (rfl : r_35.toInt = _) (show (0 : Int32).toInt = 0 from rfl) c_42
          exfalso; omega
        · skip
          have h_44 := s_ne (rfl : r_35.toInt = _) (show (0 : Int32).toInt = 0 from rfl) c_42
          refine lv_iconst (v := 0) hx hb dX12_error_33 (by decide) ?_
          refine lv_goto (tgt := 47) hx hb dX12_error_34 (by decide) ?_
          exact sj_zret hx hb hr hlocks rfl hS im_37 ⟨hO_39, (fun a b ha => (hfr_38 a b (by omega)))⟩ hH (sj_Knil hK) (Nat.le_of_ble_eq_true rfl) (Nat.le_of_ble_eq_true rfl) dX12_error_47
      · skip
        have h_45 := s_nlt (rfl : y.toInt = _) (show (0 : Int32).toInt = 0 from rfl) c_32
        refine lv_iload_n hx hb dX12_error_17 rfl (lv_at hl 2 rfl) ?_
        refine lv_iconst (v := 1) hx hb dX12_error_18 (by decide) ?_
        refine lv_icmp_le (tgt := 26) hx hb dX12_error_19 (by decide) (fun c_46 => ?_) (fun c_46 => ?_)
        · skip
          have h_47 := s_le (rfl : y.toInt = _) (show (1 : Int32).toInt = 1 from rfl) c_46
          refine lv_iconst (v := 0) hx hb dX12_error_26 (by decide) ?_
          have hl_48 : (0 : Int32).toInt = 0 := rfl
          refine x_calli (va_runV (As := [.int 0]) (rest := []) ⟨hx, hb, hml, hown, hts⟩ (m_throwsNow l D g ka ad i r L d 0 hO hR s.heap.size (by first | omega | decide) (by first | omega | decide)) (cwV 1 hts gX12_error_X12_throwsNow rfl rfl rfl (by decide +kernel) ⟨(Nat.le_of_ble_eq_true rfl), (Nat.le_of_ble_eq_true rfl)⟩) (x_preV (q := (RX12, TX12, 86)) hH hK (q_obj (by decide) (rfl : kd 36 = 12) (by decide)) rfl gxb (gxw hE hS (x_F hH hS hA))) rfl rfl hl.1 rfl (lv_room (Nat.le_of_ble_eq_true rfl)) dX12_error_27 ⟨(Nat.le_of_ble_eq_true rfl), (Nat.le_of_ble_eq_true rfl)⟩) hH hS hA rfl rfl (fun r_49 im_51 H locs hw_50 hH hS => ?_)
          have hH : sj_H D A (hwc g ka im_51 r L d) H := hH
          obtain ⟨hO_53, hfr_52, hr_54, he_55⟩ := hw_50
          have hr_54 : (0 : Int) ≤ r_49.toInt ∧ r_49.toInt ≤ 1 := hr_54
          refine lv_if_eq (tgt := 37) hx hb dX12_error_30 (by decide) (fun c_56 => ?_) (fun c_56 => ?_)
          · skip
            have h_57 := s_eq (rfl : r_49.toInt = _) (show (0 : Int32).toInt = 0 from rfl) c_56
            refine lv_aload_n hx hb dX12_error_37 rfl (lv_at hl 0 rfl) ?_
            refine h_getr (ci := 12) (C := RX12) (F := TX12) (N := 86) hx hb hts in12 hown hK hH (by decide) (rfl : kd 36 = 12) (by decide) rfl 5 (by decide) wd1 (fun _ h9 => h9) (by decide) rfl (t := 381) (hR 36 5 rfl) (by decide) dX12_error_38 ?_
            refine lv_iconst (v := 2) hx hb dX12_error_41 (by decide) ?_
            refine lv_iload_n hx hb dX12_error_42 rfl (lv_at hl 1 rfl) ?_
            refine lv_imul hx hb dX12_error_43 ?_
            obtain ⟨z_58, ez_58, hz_58⟩ := s_mul (show (2 : Int32).toInt = 2 from rfl) (rfl : x.toInt = _) (by omega) (by omega)
            refine sj_i ez_58 ?_
            refine lv_iload_n hx hb dX12_error_44 rfl (lv_at hl 2 rfl) ?_
            refine lv_iadd hx hb dX12_error_45 ?_
            obtain ⟨z_59, ez_59, hz_59⟩ := s_add (rfl : z_58.toInt = _) (rfl : y.toInt = _) (by omega) (by omega)
            refine sj_i ez_59 ?_
            refine h_iald hx hb hK hH (by decide) (rfl : kd 381 = 13) (s_vin (N := 40) (rfl : z_59.toInt = _) (rfl : ln 381 = 40) (by omega) (by omega)) dX12_error_46 ?_
            have ek_60 : z_59.toNatClampNeg = (2 * x.toInt + y.toInt).toNat := (s_cl (show z_59.toInt = 2 * x.toInt + y.toInt by omega))
            refine sj_i (y := (i 381 (2 * x.toInt + y.toInt).toNat)) (by rw [ek_60]; exact (hfr_52 381 (2 * x.toInt + y.toInt).toNat (by omega))) ?_
            exact sj_zret hx hb hr hlocks rfl hS im_51 ⟨hO_53, (fun a b ha => (hfr_52 a b (by omega)))⟩ hH (sj_Knil hK) (Nat.le_of_ble_eq_true rfl) (Nat.le_of_ble_eq_true rfl) dX12_error_47
          · skip
            have h_61 := s_ne (rfl : r_49.toInt = _) (show (0 : Int32).toInt = 0 from rfl) c_56
            exfalso; omega
        · skip
          have h_62 := s_nle (rfl : y.toInt = _) (show (1 : Int32).toInt = 1 from rfl) c_46
          refine lv_iconst (v := 1) hx hb dX12_error_22 (by decide) ?_
          refine lv_goto (tgt := 27) hx hb dX12_error_23 (by decide) ?_
          have hl_63 : (1 : Int32).toInt = 1 := rfl
          refine x_calli (va_runV (As := [.int 1]) (rest := []) ⟨hx, hb, hml, hown, hts⟩ (m_throwsNow l D g ka ad i r L d 1 hO hR s.heap.size (by first | omega | decide) (by first | omega | decide)) (cwV 1 hts gX12_error_X12_throwsNow rfl rfl rfl (by decide +kernel) ⟨(Nat.le_of_ble_eq_true rfl), (Nat.le_of_ble_eq_true rfl)⟩) (x_preV (q := (RX12, TX12, 86)) hH hK (q_obj (by decide) (rfl : kd 36 = 12) (by decide)) rfl gxb (gxw hE hS (x_F hH hS hA))) rfl rfl hl.1 rfl (lv_room (Nat.le_of_ble_eq_true rfl)) dX12_error_27 ⟨(Nat.le_of_ble_eq_true rfl), (Nat.le_of_ble_eq_true rfl)⟩) hH hS hA rfl rfl (fun r_64 im_66 H locs hw_65 hH hS => ?_)
          have hH : sj_H D A (hwc g ka im_66 r L d) H := hH
          obtain ⟨hO_68, hfr_67, hr_69, he_70⟩ := hw_65
          have hr_69 : (0 : Int) ≤ r_64.toInt ∧ r_64.toInt ≤ 1 := hr_69
          refine lv_if_eq (tgt := 37) hx hb dX12_error_30 (by decide) (fun c_71 => ?_) (fun c_71 => ?_)
          · skip
            have h_72 := s_eq (rfl : r_64.toInt = _) (show (0 : Int32).toInt = 0 from rfl) c_71
            exfalso; omega
          · skip
            have h_73 := s_ne (rfl : r_64.toInt = _) (show (0 : Int32).toInt = 0 from rfl) c_71
            refine lv_iconst (v := 0) hx hb dX12_error_33 (by decide) ?_
            refine lv_goto (tgt := 47) hx hb dX12_error_34 (by decide) ?_
            exact sj_zret hx hb hr hlocks rfl hS im_66 ⟨hO_68, (fun a b ha => (hfr_67 a b (by omega)))⟩ hH (sj_Knil hK) (Nat.le_of_ble_eq_true rfl) (Nat.le_of_ble_eq_true rfl) dX12_error_47
set_option maxHeartbeats 2000000 in
set_option maxRecDepth 100000 in
theorem m_story (l : Launch) (D : va_G) (g : Nat → Nat) (ka : Nat → ClassId) (ad : Nat → Nat) (i : Nat → Nat → Int32) (r : Nat → Nat → Nat) (L : Nat → Nat → Int64) (d : Nat → Nat → UInt64) (x : Int32) (y : Int32) (hO : OkI i) (hR : RS r) (sz : Nat)  : Met l yX12_story wsX12_story ({ frames := 3, cells := 0, slots := 0, locals := 69 }) (va_Pc [.ref (g 36), .int x, .int y] (sj_B D (hwc g ka i r L d) (hT ka) sz (gx ad (va_A (hwc g ka i r L d) sz)))) (sj_Qi (S := (Nat → Nat → Int32)) D (fun v u => OkI u ∧ (∀ a b, ¬ ((a = 36 ∧ (b = 0))) → u a b = i a b)) (fun u => hwc g ka u r L d) (fun _ => []) (va_A (hwc g ka i r L d) sz)) 0 0 (va_A (hwc g ka i r L d) sz) := by
  refine x_met (Ex := gx ad) (cc := cX12_story) (maxL := 3) (ret := (some .int)) (by decide) rfl (Nat.le_of_ble_eq_true rfl) ?_
  intro p e s m below meth c A ls hx hb hr hml hts hown hlocks hA hS hH hK hE hl
  have hown : s.vm.findClass RX12 = some m.cls := hown
  have in12 : ∀ w ∈ wsX120, w ∈ wsX12_story := (fun _ h => (List.mem_cons_of_mem _ (List.mem_append_right _ h)))
  have wd0 := hts (.fieldLink RX12 165 "StoryDeskModel" "cases" "I") (List.mem_cons_of_mem _ (List.mem_append_left _ (List.mem_append_left _ lm0)))
  have wd1 := hts (.fieldLink RX12 207 "StoryDeskModel" "caseStatus" "[I") (List.mem_cons_of_mem _ (List.mem_append_left _ (List.mem_append_left _ lm6)))
  have wd2 := hts (.fieldLink RX12 132 "StoryDeskModel" "scenarioLine" "[I") (List.mem_cons_of_mem _ (List.mem_append_left _ (List.mem_append_left _ lm4)))
  have wd3 := hts (.fieldLink RX12 195 "StoryDeskModel" "caseScenario" "[I") (List.mem_cons_of_mem _ (List.mem_append_left _ (List.mem_append_left _ lm5)))
  have wd4 := hts (.fieldLink RX12 204 "StoryDeskModel" "caseTags" "[I") (List.mem_cons_of_mem _ (List.mem_append_left _ (List.mem_append_left _ lm3)))
  have wd5 := hts (.fieldLink RX12 201 "StoryDeskModel" "caseRow" "[I") (List.mem_cons_of_mem _ (List.mem_append_left _ (List.mem_append_left _ lm1)))
  have wd6 := hts (.fieldLink RX12 86 "StoryDeskModel" "rowLine" "[I") (List.mem_cons_of_mem _ (List.mem_append_left _ (List.mem_append_left _ lm2)))
  have hl : lv_has ls 3 [(0, .ref (g 36)), (1, .int x), (2, .int y)] := hl
  have hK : va_K D vwCl (hT ka) s := hK
  have hg_1 := s_rng x
  have hg_2 := s_rng y
  have hb33 : (0 : Int) ≤ (i 36 33).toInt ∧ (i 36 33).toInt ≤ 24 := hO 36 33
  refine lv_aload_n hx hb dX12_story_0 rfl (lv_at hl 0 rfl) ?_
  refine lv_iload_n hx hb dX12_story_1 rfl (lv_at hl 1 rfl) ?_
  refine lv_if_lt (tgt := 22) hx hb dX12_story_2 (by decide) (fun c_3 => ?_) (fun c_3 => ?_)
  · skip
    have h_4 := s_lt (rfl : x.toInt = _) (show (0 : Int32).toInt = 0 from rfl) c_3
    refine lv_iconst (v := 1) hx hb dX12_story_22 (by decide) ?_
    refine lv_goto (tgt := 27) hx hb dX12_story_23 (by decide) ?_
    have hl_5 : (1 : Int32).toInt = 1 := rfl
    refine x_calli (va_runV (As := [.int 1]) (rest := []) ⟨hx, hb, hml, hown, hts⟩ (m_throwsNow l D g ka ad i r L d 1 hO hR s.heap.size (by first | omega | decide) (by first | omega | decide)) (cwV 1 hts gX12_story_X12_throwsNow rfl rfl rfl (by decide +kernel) ⟨(Nat.le_of_ble_eq_true rfl), (Nat.le_of_ble_eq_true rfl)⟩) (x_preV (q := (RX12, TX12, 86)) hH hK (q_obj (by decide) (rfl : kd 36 = 12) (by decide)) rfl gxb (gxw hE hS (x_F hH hS hA))) rfl rfl hl.1 rfl (lv_room (Nat.le_of_ble_eq_true rfl)) dX12_story_27 ⟨(Nat.le_of_ble_eq_true rfl), (Nat.le_of_ble_eq_true rfl)⟩) hH hS hA rfl rfl (fun r_6 im_8 H locs hw_7 hH hS => ?_)
    have hH : sj_H D A (hwc g ka im_8 r L d) H := hH
    obtain ⟨hO_10, hfr_9, hr_11, he_12⟩ := hw_7
    have hr_11 : (0 : Int) ≤ r_6.toInt ∧ r_6.toInt ≤ 1 := hr_11
    refine lv_if_eq (tgt := 35) hx hb dX12_story_30 (by decide) (fun c_13 => ?_) (fun c_13 => ?_)
    · skip
      have h_14 := s_eq (rfl : r_6.toInt = _) (show (0 : Int32).toInt = 0 from rfl) c_13
      exfalso; omega
    · skip
      have h_15 := s_ne (rfl : r_6.toInt = _) (show (0 : Int32).toInt = 0 from rfl) c_13
      refine lv_iconst (v := 0) hx hb dX12_story_33 (by decide) ?_
      exact sj_zret hx hb hr hlocks rfl hS im_8 ⟨hO_10, (fun a b ha => (hfr_9 a b (by omega)))⟩ hH (sj_Knil hK) (Nat.le_of_ble_eq_true rfl) (Nat.le_of_ble_eq_true rfl) dX12_story_34
  · skip
    have h_16 := s_nlt (rfl : x.toInt = _) (show (0 : Int32).toInt = 0 from rfl) c_3
    refine lv_iload_n hx hb dX12_story_5 rfl (lv_at hl 1 rfl) ?_
    refine lv_aload_n hx hb dX12_story_6 rfl (lv_at hl 0 rfl) ?_
    have bx_17 : (0 : Int) ≤ (i 36 33).toInt ∧ (i 36 33).toInt ≤ 24 := hO 36 33
    refine h_geti (ci := 12) (C := RX12) (F := TX12) (N := 86) hx hb hts in12 hown hK hH (by decide) (rfl : kd 36 = 12) (by decide) rfl 33 (by decide) wd0 (fun _ h9 => h9) (by decide) rfl dX12_story_7 ?_
    refine lv_icmp_ge (tgt := 22) hx hb dX12_story_10 (by decide) (fun c_18 => ?_) (fun c_18 => ?_)
    · skip
      have h_19 := s_le (rfl : (i 36 33).toInt = _) (rfl : x.toInt = _) c_18
      refine lv_iconst (v := 1) hx hb dX12_story_22 (by decide) ?_
      refine lv_goto (tgt := 27) hx hb dX12_story_23 (by decide) ?_
      have hl_20 : (1 : Int32).toInt = 1 := rfl
      refine x_calli (va_runV (As := [.int 1]) (rest := []) ⟨hx, hb, hml, hown, hts⟩ (m_throwsNow l D g ka ad i r L d 1 hO hR s.heap.size (by first | omega | decide) (by first | omega | decide)) (cwV 1 hts gX12_story_X12_throwsNow rfl rfl rfl (by decide +kernel) ⟨(Nat.le_of_ble_eq_true rfl), (Nat.le_of_ble_eq_true rfl)⟩) (x_preV (q := (RX12, TX12, 86)) hH hK (q_obj (by decide) (rfl : kd 36 = 12) (by decide)) rfl gxb (gxw hE hS (x_F hH hS hA))) rfl rfl hl.1 rfl (lv_room (Nat.le_of_ble_eq_true rfl)) dX12_story_27 ⟨(Nat.le_of_ble_eq_true rfl), (Nat.le_of_ble_eq_true rfl)⟩) hH hS hA rfl rfl (fun r_21 im_23 H locs hw_22 hH hS => ?_)
      have hH : sj_H D A (hwc g ka im_23 r L d) H := hH
      obtain ⟨hO_25, hfr_24, hr_26, he_27⟩ := hw_22
      have hr_26 : (0 : Int) ≤ r_21.toInt ∧ r_21.toInt ≤ 1 := hr_26
      refine lv_if_eq (tgt := 35) hx hb dX12_story_30 (by decide) (fun c_28 => ?_) (fun c_28 => ?_)
      · skip
        have h_29 := s_eq (rfl : r_21.toInt = _) (show (0 : Int32).toInt = 0 from rfl) c_28
        exfalso; omega
      · skip
        have h_30 := s_ne (rfl : r_21.toInt = _) (show (0 : Int32).toInt = 0 from rfl) c_28
        refine lv_iconst (v := 0) hx hb dX12_story_33 (by decide) ?_
        exact sj_zret hx hb hr hlocks rfl hS im_23 ⟨hO_25, (fun a b ha => (hfr_24 a b (by omega)))⟩ hH (sj_Knil hK) (Nat.le_of_ble_eq_true rfl) (Nat.le_of_ble_eq_true rfl) dX12_story_34
    · skip
      have h_31 := s_nle (rfl : (i 36 33).toInt = _) (rfl : x.toInt = _) c_18
      refine lv_iload_n hx hb dX12_story_13 rfl (lv_at hl 2 rfl) ?_
      refine lv_if_lt (tgt := 22) hx hb dX12_story_14 (by decide) (fun c_32 => ?_) (fun c_32 => ?_)
      · skip
        have h_33 := s_lt (rfl : y.toInt = _) (show (0 : Int32).toInt = 0 from rfl) c_32
        refine lv_iconst (v := 1) hx hb dX12_story_22 (by decide) ?_
        refine lv_goto (tgt := 27) hx hb dX12_story_23 (by decide) ?_
        have hl_34 : (1 : Int32).toInt = 1 := rfl
        refine x_calli (va_runV (As := [.int 1]) (rest := []) ⟨hx, hb, hml, hown, hts⟩ (m_throwsNow l D g ka ad i r L d 1 hO hR s.heap.size (by first | omega | decide) (by first | omega | decide)) (cwV 1 hts gX12_story_X12_throwsNow rfl rfl rfl (by decide +kernel) ⟨(Nat.le_of_ble_eq_true rfl), (Nat.le_of_ble_eq_true rfl)⟩) (x_preV (q := (RX12, TX12, 86)) hH hK (q_obj (by decide) (rfl : kd 36 = 12) (by decide)) rfl gxb (gxw hE hS (x_F hH hS hA))) rfl rfl hl.1 rfl (lv_room (Nat.le_of_ble_eq_true rfl)) dX12_story_27 ⟨(Nat.le_of_ble_eq_true rfl), (Nat.le_of_ble_eq_true rfl)⟩) hH hS hA rfl rfl (fun r_35 im_37 H locs hw_36 hH hS => ?_)
        have hH : sj_H D A (hwc g ka im_37 r L d) H := hH
        obtain ⟨hO_39, hfr_38, hr_40, he_41⟩ := hw_36
        have hr_40 : (0 : Int) ≤ r_35.toInt ∧ r_35.toInt ≤ 1 := hr_40
        refine lv_if_eq (tgt := 35) hx hb dX12_story_30 (by decide) (fun c_42 => ?_) (fun c_42 => ?_)
        · skip
          have h_43 := s_eq (rfl : r_35.toInt = _) (show (0 : Int32).toInt = 0 from rfl) c_42
          exfalso; omega
        · skip
          have h_44 := s_ne (rfl : r_35.toInt = _) (show (0 : Int32).toInt = 0 from rfl) c_42
          refine lv_iconst (v := 0) hx hb dX12_story_33 (by decide) ?_
          exact sj_zret hx hb hr hlocks rfl hS im_37 ⟨hO_39, (fun a b ha => (hfr_38 a b (by omega)))⟩ hH (sj_Knil hK) (Nat.le_of_ble_eq_true rfl) (Nat.le_of_ble_eq_true rfl) dX12_story_34
      · skip
        have h_45 := s_nlt (rfl : y.toInt = _) (show (0 : Int32).toInt = 0 from rfl) c_32
        refine lv_iload_n hx hb dX12_story_17 rfl (lv_at hl 2 rfl) ?_
        refine lv_iconst (v := 4) hx hb dX12_story_18 (by decide) ?_
        refine lv_icmp_le (tgt := 26) hx hb dX12_story_19 (by decide) (fun c_46 => ?_) (fun c_46 => ?_)
        · skip
          have h_47 := s_le (rfl : y.toInt = _) (show (4 : Int32).toInt = 4 from rfl) c_46
          refine lv_iconst (v := 0) hx hb dX12_story_26 (by decide) ?_
          have hl_48 : (0 : Int32).toInt = 0 := rfl
          refine x_calli (va_runV (As := [.int 0]) (rest := []) ⟨hx, hb, hml, hown, hts⟩ (m_throwsNow l D g ka ad i r L d 0 hO hR s.heap.size (by first | omega | decide) (by first | omega | decide)) (cwV 1 hts gX12_story_X12_throwsNow rfl rfl rfl (by decide +kernel) ⟨(Nat.le_of_ble_eq_true rfl), (Nat.le_of_ble_eq_true rfl)⟩) (x_preV (q := (RX12, TX12, 86)) hH hK (q_obj (by decide) (rfl : kd 36 = 12) (by decide)) rfl gxb (gxw hE hS (x_F hH hS hA))) rfl rfl hl.1 rfl (lv_room (Nat.le_of_ble_eq_true rfl)) dX12_story_27 ⟨(Nat.le_of_ble_eq_true rfl), (Nat.le_of_ble_eq_true rfl)⟩) hH hS hA rfl rfl (fun r_49 im_51 H locs hw_50 hH hS => ?_)
          have hH : sj_H D A (hwc g ka im_51 r L d) H := hH
          obtain ⟨hO_53, hfr_52, hr_54, he_55⟩ := hw_50
          have hr_54 : (0 : Int) ≤ r_49.toInt ∧ r_49.toInt ≤ 1 := hr_54
          refine lv_if_eq (tgt := 35) hx hb dX12_story_30 (by decide) (fun c_56 => ?_) (fun c_56 => ?_)
          · skip
            have h_57 := s_eq (rfl : r_49.toInt = _) (show (0 : Int32).toInt = 0 from rfl) c_56
            refine lv_iload_n hx hb dX12_story_35 rfl (lv_at hl 2 rfl) ?_
            refine lv_iconst (v := 3) hx hb dX12_story_36 (by decide) ?_
            refine lv_icmp_ne (tgt := 65) hx hb dX12_story_37 (by decide) (fun c_58 => ?_) (fun c_58 => ?_)
            · skip
              have h_59 := s_ne (rfl : y.toInt = _) (show (3 : Int32).toInt = 3 from rfl) c_58
              refine lv_iload_n hx hb dX12_story_65 rfl (lv_at hl 2 rfl) ?_
              refine lv_if_ne (tgt := 77) hx hb dX12_story_66 (by decide) (fun c_60 => ?_) (fun c_60 => ?_)
              · skip
                have h_61 := s_ne (rfl : y.toInt = _) (show (0 : Int32).toInt = 0 from rfl) c_60
                refine lv_iload_n hx hb dX12_story_77 rfl (lv_at hl 2 rfl) ?_
                refine lv_iconst (v := 1) hx hb dX12_story_78 (by decide) ?_
                refine lv_icmp_ne (tgt := 91) hx hb dX12_story_79 (by decide) (fun c_62 => ?_) (fun c_62 => ?_)
                · skip
                  have h_63 := s_ne (rfl : y.toInt = _) (show (1 : Int32).toInt = 1 from rfl) c_62
                  refine lv_iload_n hx hb dX12_story_91 rfl (lv_at hl 2 rfl) ?_
                  refine lv_iconst (v := 2) hx hb dX12_story_92 (by decide) ?_
                  refine lv_icmp_ne (tgt := 110) hx hb dX12_story_93 (by decide) (fun c_64 => ?_) (fun c_64 => ?_)
                  · skip
                    have h_65 := s_ne (rfl : y.toInt = _) (show (2 : Int32).toInt = 2 from rfl) c_64
                    refine lv_aload_n hx hb dX12_story_110 rfl (lv_at hl 0 rfl) ?_
                    refine h_getr (ci := 12) (C := RX12) (F := TX12) (N := 86) hx hb hts in12 hown hK hH (by decide) (rfl : kd 36 = 12) (by decide) rfl 38 (by decide) wd1 (fun _ h9 => h9) (by decide) rfl (t := 401) (hR 36 38 rfl) (by decide) dX12_story_111 ?_
                    refine lv_iload_n hx hb dX12_story_114 rfl (lv_at hl 1 rfl) ?_
                    have bx_66 : (-1 : Int) ≤ (i 401 (x.toInt).toNat).toInt ∧ (i 401 (x.toInt).toNat).toInt ≤ 5 := hO 401 (x.toInt).toNat
                    refine h_iald hx hb hK hH (by decide) (rfl : kd 401 = 13) (s_vin (N := 24) (rfl : x.toInt = _) (rfl : ln 401 = 24) (by omega) (by omega)) dX12_story_115 ?_
                    have ek_67 : x.toNatClampNeg = (x.toInt).toNat := (s_cl (show x.toInt = x.toInt by omega))
                    refine sj_i (y := (i 401 (x.toInt).toNat)) (by rw [ek_67]; exact (hfr_52 401 (x.toInt).toNat (by omega))) ?_
                    exact sj_zret hx hb hr hlocks rfl hS im_51 ⟨hO_53, (fun a b ha => (hfr_52 a b (by omega)))⟩ hH (sj_Knil hK) (Nat.le_of_ble_eq_true rfl) (Nat.le_of_ble_eq_true rfl) dX12_story_116
                  · skip
                    have h_68 := s_eq (rfl : y.toInt = _) (show (2 : Int32).toInt = 2 from rfl) c_64
                    refine lv_aload_n hx hb dX12_story_96 rfl (lv_at hl 0 rfl) ?_
                    refine h_getr (ci := 12) (C := RX12) (F := TX12) (N := 86) hx hb hts in12 hown hK hH (by decide) (rfl : kd 36 = 12) (by decide) rfl 15 (by decide) wd2 (fun _ h9 => h9) (by decide) rfl (t := 384) (hR 36 15 rfl) (by decide) dX12_story_97 ?_
                    refine lv_aload_n hx hb dX12_story_100 rfl (lv_at hl 0 rfl) ?_
                    refine h_getr (ci := 12) (C := RX12) (F := TX12) (N := 86) hx hb hts in12 hown hK hH (by decide) (rfl : kd 36 = 12) (by decide) rfl 34 (by decide) wd3 (fun _ h9 => h9) (by decide) rfl (t := 397) (hR 36 34 rfl) (by decide) dX12_story_101 ?_
                    refine lv_iload_n hx hb dX12_story_104 rfl (lv_at hl 1 rfl) ?_
                    have bx_69 : (0 : Int) ≤ (i 397 (x.toInt).toNat).toInt ∧ (i 397 (x.toInt).toNat).toInt ≤ 11 := hO 397 (x.toInt).toNat
                    refine h_iald hx hb hK hH (by decide) (rfl : kd 397 = 13) (s_vin (N := 24) (rfl : x.toInt = _) (rfl : ln 397 = 24) (by omega) (by omega)) dX12_story_105 ?_
                    have ek_70 : x.toNatClampNeg = (x.toInt).toNat := (s_cl (show x.toInt = x.toInt by omega))
                    refine sj_i (y := (i 397 (x.toInt).toNat)) (by rw [ek_70]; exact (hfr_52 397 (x.toInt).toNat (by omega))) ?_
                    refine h_iald hx hb hK hH (by decide) (rfl : kd 384 = 13) (s_vin (N := 12) (rfl : (i 397 (x.toInt).toNat).toInt = _) (rfl : ln 384 = 12) (by omega) (by omega)) dX12_story_106 ?_
                    have ek_71 : (i 397 (x.toInt).toNat).toNatClampNeg = ((i 397 (x.toInt).toNat).toInt).toNat := (s_cl (show (i 397 (x.toInt).toNat).toInt = (i 397 (x.toInt).toNat).toInt by omega))
                    refine sj_i (y := (i 384 ((i 397 (x.toInt).toNat).toInt).toNat)) (by rw [ek_71]; exact (hfr_52 384 ((i 397 (x.toInt).toNat).toInt).toNat (by omega))) ?_
                    refine lv_goto (tgt := 116) hx hb dX12_story_107 (by decide) ?_
                    exact sj_zret hx hb hr hlocks rfl hS im_51 ⟨hO_53, (fun a b ha => (hfr_52 a b (by omega)))⟩ hH (sj_Knil hK) (Nat.le_of_ble_eq_true rfl) (Nat.le_of_ble_eq_true rfl) dX12_story_116
                · skip
                  have h_72 := s_eq (rfl : y.toInt = _) (show (1 : Int32).toInt = 1 from rfl) c_62
                  refine lv_aload_n hx hb dX12_story_82 rfl (lv_at hl 0 rfl) ?_
                  refine h_getr (ci := 12) (C := RX12) (F := TX12) (N := 86) hx hb hts in12 hown hK hH (by decide) (rfl : kd 36 = 12) (by decide) rfl 37 (by decide) wd4 (fun _ h9 => h9) (by decide) rfl (t := 400) (hR 36 37 rfl) (by decide) dX12_story_83 ?_
                  refine lv_iload_n hx hb dX12_story_86 rfl (lv_at hl 1 rfl) ?_
                  have bx_73 : (0 : Int) ≤ (i 400 (x.toInt).toNat).toInt ∧ (i 400 (x.toInt).toNat).toInt ≤ 65535 := hO 400 (x.toInt).toNat
                  refine h_iald hx hb hK hH (by decide) (rfl : kd 400 = 13) (s_vin (N := 24) (rfl : x.toInt = _) (rfl : ln 400 = 24) (by omega) (by omega)) dX12_story_87 ?_
                  have ek_74 : x.toNatClampNeg = (x.toInt).toNat := (s_cl (show x.toInt = x.toInt by omega))
                  refine sj_i (y := (i 400 (x.toInt).toNat)) (by rw [ek_74]; exact (hfr_52 400 (x.toInt).toNat (by omega))) ?_
                  refine lv_goto (tgt := 116) hx hb dX12_story_88 (by decide) ?_
                  exact sj_zret hx hb hr hlocks rfl hS im_51 ⟨hO_53, (fun a b ha => (hfr_52 a b (by omega)))⟩ hH (sj_Knil hK) (Nat.le_of_ble_eq_true rfl) (Nat.le_of_ble_eq_true rfl) dX12_story_116
              · skip
                have h_75 := s_eq (rfl : y.toInt = _) (show (0 : Int32).toInt = 0 from rfl) c_60
                refine lv_aload_n hx hb dX12_story_69 rfl (lv_at hl 0 rfl) ?_
                refine lv_iload_n hx hb dX12_story_70 rfl (lv_at hl 1 rfl) ?_
                refine x_calli (va_runV (As := [.int x]) (rest := []) ⟨hx, hb, hml, hown, hts⟩ (m_caseSteps l D g ka ad im_51 r L d x hO_53 hR H.size (by first | omega | decide) (by first | omega | decide)) (cwV 1 hts gX12_story_X12_caseSteps rfl rfl rfl (by decide +kernel) ⟨(Nat.le_of_ble_eq_true rfl), (Nat.le_of_ble_eq_true rfl)⟩) (x_preV (q := (RX12, TX12, 86)) hH hK (q_obj (by decide) (rfl : kd 36 = 12) (by decide)) rfl gxb (gxw hE hS (x_F hH hS hA))) rfl rfl hl.1 rfl (lv_room (Nat.le_of_ble_eq_true rfl)) dX12_story_71 ⟨(Nat.le_of_ble_eq_true rfl), (Nat.le_of_ble_eq_true rfl)⟩) hH hS hA rfl rfl (fun r_76 _ H locs hw_77 hH hS => ?_)
                obtain ⟨hr_79, he_80⟩ := hw_77
                have hr_79 : (0 : Int) ≤ r_76.toInt ∧ r_76.toInt ≤ 30 := hr_79
                refine lv_goto (tgt := 116) hx hb dX12_story_74 (by decide) ?_
                exact sj_zret hx hb hr hlocks rfl hS im_51 ⟨hO_53, (fun a b ha => (hfr_52 a b (by omega)))⟩ hH (sj_Knil hK) (Nat.le_of_ble_eq_true rfl) (Nat.le_of_ble_eq_true rfl) dX12_story_116
            · skip
              have h_81 := s_eq (rfl : y.toInt = _) (show (3 : Int32).toInt = 3 from rfl) c_58
              refine lv_aload_n hx hb dX12_story_40 rfl (lv_at hl 0 rfl) ?_
              refine h_getr (ci := 12) (C := RX12) (F := TX12) (N := 86) hx hb hts in12 hown hK hH (by decide) (rfl : kd 36 = 12) (by decide) rfl 35 (by decide) wd5 (fun _ h9 => h9) (by decide) rfl (t := 398) (hR 36 35 rfl) (by decide) dX12_story_41 ?_
              refine lv_iload_n hx hb dX12_story_44 rfl (lv_at hl 1 rfl) ?_
              have bx_82 : (-1 : Int) ≤ (i 398 (x.toInt).toNat).toInt ∧ (i 398 (x.toInt).toNat).toInt ≤ 39 := hO 398 (x.toInt).toNat
              refine h_iald hx hb hK hH (by decide) (rfl : kd 398 = 13) (s_vin (N := 24) (rfl : x.toInt = _) (rfl : ln 398 = 24) (by omega) (by omega)) dX12_story_45 ?_
              have ek_83 : x.toNatClampNeg = (x.toInt).toNat := (s_cl (show x.toInt = x.toInt by omega))
              refine sj_i (y := (i 398 (x.toInt).toNat)) (by rw [ek_83]; exact (hfr_52 398 (x.toInt).toNat (by omega))) ?_
              refine lv_if_ge (tgt := 53) hx hb dX12_story_46 (by decide) (fun c_84 => ?_) (fun c_84 => ?_)
              · skip
                have h_85 := s_le (show (0 : Int32).toInt = 0 from rfl) (rfl : (i 398 (x.toInt).toNat).toInt = _) c_84
                refine lv_aload_n hx hb dX12_story_53 rfl (lv_at hl 0 rfl) ?_
                refine h_getr (ci := 12) (C := RX12) (F := TX12) (N := 86) hx hb hts in12 hown hK hH (by decide) (rfl : kd 36 = 12) (by decide) rfl 29 (by decide) wd6 (fun _ h9 => h9) (by decide) rfl (t := 393) (hR 36 29 rfl) (by decide) dX12_story_54 ?_
                refine lv_aload_n hx hb dX12_story_57 rfl (lv_at hl 0 rfl) ?_
                refine h_getr (ci := 12) (C := RX12) (F := TX12) (N := 86) hx hb hts in12 hown hK hH (by decide) (rfl : kd 36 = 12) (by decide) rfl 35 (by decide) wd5 (fun _ h9 => h9) (by decide) rfl (t := 398) (hR 36 35 rfl) (by decide) dX12_story_58 ?_
                refine lv_iload_n hx hb dX12_story_61 rfl (lv_at hl 1 rfl) ?_
                refine h_iald hx hb hK hH (by decide) (rfl : kd 398 = 13) (s_vin (N := 24) (rfl : x.toInt = _) (rfl : ln 398 = 24) (by omega) (by omega)) dX12_story_62 ?_
                have ek_86 : x.toNatClampNeg = (x.toInt).toNat := (s_cl (show x.toInt = x.toInt by omega))
                refine sj_i (y := (i 398 (x.toInt).toNat)) (by rw [ek_86]; exact (hfr_52 398 (x.toInt).toNat (by omega))) ?_
                refine h_iald hx hb hK hH (by decide) (rfl : kd 393 = 13) (s_vin (N := 40) (rfl : (i 398 (x.toInt).toNat).toInt = _) (rfl : ln 393 = 40) (by omega) (by omega)) dX12_story_63 ?_
                have ek_87 : (i 398 (x.toInt).toNat).toNatClampNeg = ((i 398 (x.toInt).toNat).toInt).toNat := (s_cl (show (i 398 (x.toInt).toNat).toInt = (i 398 (x.toInt).toNat).toInt by omega))
                refine sj_i (y := (i 393 ((i 398 (x.toInt).toNat).toInt).toNat)) (by rw [ek_87]; exact (hfr_52 393 ((i 398 (x.toInt).toNat).toInt).toNat (by omega))) ?_
                exact sj_zret hx hb hr hlocks rfl hS im_51 ⟨hO_53, (fun a b ha => (hfr_52 a b (by omega)))⟩ hH (sj_Knil hK) (Nat.le_of_ble_eq_true rfl) (Nat.le_of_ble_eq_true rfl) dX12_story_64
              · skip
                have h_88 := s_nle (show (0 : Int32).toInt = 0 from rfl) (rfl : (i 398 (x.toInt).toNat).toInt = _) c_84
                refine lv_iconst (v := 0) hx hb dX12_story_49 (by decide) ?_
                refine lv_goto (tgt := 64) hx hb dX12_story_50 (by decide) ?_
                exact sj_zret hx hb hr hlocks rfl hS im_51 ⟨hO_53, (fun a b ha => (hfr_52 a b (by omega)))⟩ hH (sj_Knil hK) (Nat.le_of_ble_eq_true rfl) (Nat.le_of_ble_eq_true rfl) dX12_story_64
          · skip
            have h_89 := s_ne (rfl : r_49.toInt = _) (show (0 : Int32).toInt = 0 from rfl) c_56
            exfalso; omega
        · skip
          have h_90 := s_nle (rfl : y.toInt = _) (show (4 : Int32).toInt = 4 from rfl) c_46
          refine lv_iconst (v := 1) hx hb dX12_story_22 (by decide) ?_
          refine lv_goto (tgt := 27) hx hb dX12_story_23 (by decide) ?_
          have hl_91 : (1 : Int32).toInt = 1 := rfl
          refine x_calli (va_runV (As := [.int 1]) (rest := []) ⟨hx, hb, hml, hown, hts⟩ (m_throwsNow l D g ka ad i r L d 1 hO hR s.heap.size (by first | omega | decide) (by first | omega | decide)) (cwV 1 hts gX12_story_X12_throwsNow rfl rfl rfl (by decide +kernel) ⟨(Nat.le_of_ble_eq_true rfl), (Nat.le_of_ble_eq_true rfl)⟩) (x_preV (q := (RX12, TX12, 86)) hH hK (q_obj (by decide) (rfl : kd 36 = 12) (by decide)) rfl gxb (gxw hE hS (x_F hH hS hA))) rfl rfl hl.1 rfl (lv_room (Nat.le_of_ble_eq_true rfl)) dX12_story_27 ⟨(Nat.le_of_ble_eq_true rfl), (Nat.le_of_ble_eq_true rfl)⟩) hH hS hA rfl rfl (fun r_92 im_94 H locs hw_93 hH hS => ?_)
          have hH : sj_H D A (hwc g ka im_94 r L d) H := hH
          obtain ⟨hO_96, hfr_95, hr_97, he_98⟩ := hw_93
          have hr_97 : (0 : Int) ≤ r_92.toInt ∧ r_92.toInt ≤ 1 := hr_97
          refine lv_if_eq (tgt := 35) hx hb dX12_story_30 (by decide) (fun c_99 => ?_) (fun c_99 => ?_)
          · skip
            have h_100 := s_eq (rfl : r_92.toInt = _) (show (0 : Int32).toInt = 0 from rfl) c_99
            exfalso; omega
          · skip
            have h_101 := s_ne (rfl : r_92.toInt = _) (show (0 : Int32).toInt = 0 from rfl) c_99
            refine lv_iconst (v := 0) hx hb dX12_story_33 (by decide) ?_
            exact sj_zret hx hb hr hlocks rfl hS im_94 ⟨hO_96, (fun a b ha => (hfr_95 a b (by omega)))⟩ hH (sj_Knil hK) (Nat.le_of_ble_eq_true rfl) (Nat.le_of_ble_eq_true rfl) dX12_story_34
set_option maxHeartbeats 2000000 in
set_option maxRecDepth 100000 in
theorem m_step_ (l : Launch) (D : va_G) (g : Nat → Nat) (ka : Nat → ClassId) (ad : Nat → Nat) (i : Nat → Nat → Int32) (r : Nat → Nat → Nat) (L : Nat → Nat → Int64) (d : Nat → Nat → UInt64) (x : Int32) (y : Int32) (z : Int32) (hO : OkI i) (hR : RS r) (sz : Nat) (hnr : NR i) (hdi : DI i) : Met l yX12_step_ wsX12_step_ ({ frames := 8, cells := 0, slots := 0, locals := 187 }) (va_Pc [.ref (g 36), .int x, .int y, .int z] (sj_B D (hwc g ka i r L d) (hT ka) sz (gx ad (va_A (hwc g ka i r L d) sz)))) (sj_Qi (S := (Nat → Nat → Int32) × (Nat → Nat → Int64)) D (fun v u => OkI u.1 ∧ (∀ a b, ¬ ((a = 36 ∧ (b = 0 ∨ b = 40 ∨ b = 45 ∨ b = 49 ∨ b = 52 ∨ b = 54 ∨ b = 55 ∨ b = 57)) ∨ a = 402 ∨ a = 406 ∨ a = 407 ∨ a = 408 ∨ a = 409 ∨ a = 410 ∨ a = 411 ∨ a = 413 ∨ a = 414 ∨ a = 415) → u.1 a b = i a b)) (fun u => hwc g ka u.1 r u.2 d) (fun _ => []) (va_A (hwc g ka i r L d) sz)) 0 0 (va_A (hwc g ka i r L d) sz) := by
  refine x_met (Ex := gx ad) (cc := cX12_step_) (maxL := 5) (ret := (some .int)) (by decide) rfl (Nat.le_of_ble_eq_true rfl) ?_
  intro p e s m below meth c A ls hx hb hr hml hts hown hlocks hA hS hH hK hE hl
  have hown : s.vm.findClass RX12 = some m.cls := hown
  have in12 : ∀ w ∈ wsX120, w ∈ wsX12_step_ := (fun _ h => (List.mem_cons_of_mem _ (List.mem_append_right _ h)))
  have wd0 := hts (.fieldLink RX12 67 "StoryDeskModel" "rowOwner" "[I") (List.mem_cons_of_mem _ (List.mem_append_left _ (List.mem_append_left _ lm3)))
  have wd1 := hts (.fieldLink RX12 70 "StoryDeskModel" "rows" "I") (List.mem_cons_of_mem _ (List.mem_append_left _ (List.mem_append_left _ lm4)))
  have wd2 := hts (.fieldLink RX12 108 "StoryDeskModel" "stepLine" "[I") (List.mem_cons_of_mem _ (List.mem_append_left _ (List.mem_append_left _ lm2)))
  have wd3 := hts (.fieldLink RX12 224 "StoryDeskModel" "filled" "I") (List.mem_cons_of_mem _ (List.mem_append_left _ (List.mem_append_left _ lm0)))
  have wd4 := hts (.fieldLink RX12 227 "StoryDeskModel" "buffer" "[C") (List.mem_cons_of_mem _ (List.mem_append_left _ (List.mem_append_left _ lm1)))
  have hl : lv_has ls 5 [(0, .ref (g 36)), (1, .int x), (2, .int y), (3, .int z)] := hl
  have hK : va_K D vwCl (hT ka) s := hK
  have hg_1 := s_rng x
  have hg_2 := s_rng y
  have hg_3 := s_rng z
  have hb33 : (0 : Int) ≤ (i 36 33).toInt ∧ (i 36 33).toInt ≤ 24 := hO 36 33
  refine lv_aload_n hx hb dX12_step__0 rfl (lv_at hl 0 rfl) ?_
  refine lv_aload_n hx hb dX12_step__1 rfl (lv_at hl 0 rfl) ?_
  refine lv_iload_n hx hb dX12_step__2 rfl (lv_at hl 1 rfl) ?_
  refine lv_iload_n hx hb dX12_step__3 rfl (lv_at hl 2 rfl) ?_
  refine x_calli (va_runV (As := [.int x, .int y]) (rest := [.ref (g 36)]) ⟨hx, hb, hml, hown, hts⟩ (m_isStep l D g ka ad i r L d x y hO hR s.heap.size ) (cwV 2 hts gX12_step__X12_isStep rfl rfl rfl (by decide +kernel) ⟨(Nat.le_of_ble_eq_true rfl), (Nat.le_of_ble_eq_true rfl)⟩) (x_preV (q := (RX12, TX12, 86)) hH hK (q_obj (by decide) (rfl : kd 36 = 12) (by decide)) rfl gxb (gxw hE hS (x_F hH hS hA))) rfl rfl hl.1 rfl (lv_room (Nat.le_of_ble_eq_true rfl)) dX12_step__4 ⟨(Nat.le_of_ble_eq_true rfl), (Nat.le_of_ble_eq_true rfl)⟩) hH hS hA rfl rfl (fun r_4 _ H locs hw_5 hH hS => ?_)
  obtain ⟨hr_7, he_8⟩ := hw_5
  have hr_7 : (0 : Int) ≤ r_4.toInt ∧ r_4.toInt ≤ 1 := hr_7
  refine lv_if_eq (tgt := 32) hx hb dX12_step__7 (by decide) (fun c_9 => ?_) (fun c_9 => ?_)
  · skip
    have h_10 := s_eq (rfl : r_4.toInt = _) (show (0 : Int32).toInt = 0 from rfl) c_9
    refine lv_iconst (v := 1) hx hb dX12_step__32 (by decide) ?_
    refine lv_goto (tgt := 37) hx hb dX12_step__33 (by decide) ?_
    have hl_11 : (1 : Int32).toInt = 1 := rfl
    refine x_calli (va_runV (As := [.int 1]) (rest := []) ⟨hx, hb, hml, hown, hts⟩ (m_throwsNow l D g ka ad i r L d 1 hO hR H.size (by first | omega | decide) (by first | omega | decide)) (cwV 1 hts gX12_step__X12_throwsNow rfl rfl rfl (by decide +kernel) ⟨(Nat.le_of_ble_eq_true rfl), (Nat.le_of_ble_eq_true rfl)⟩) (x_preV (q := (RX12, TX12, 86)) hH hK (q_obj (by decide) (rfl : kd 36 = 12) (by decide)) rfl gxb (gxw hE hS (x_F hH hS hA))) rfl rfl hl.1 rfl (lv_room (Nat.le_of_ble_eq_true rfl)) dX12_step__37 ⟨(Nat.le_of_ble_eq_true rfl), (Nat.le_of_ble_eq_true rfl)⟩) hH hS hA rfl rfl (fun r_12 im_14 H locs hw_13 hH hS => ?_)
    have hH : sj_H D A (hwc g ka im_14 r L d) H := hH
    obtain ⟨hO_16, hfr_15, hr_17, he_18⟩ := hw_13
    have hr_17 : (0 : Int) ≤ r_12.toInt ∧ r_12.toInt ≤ 1 := hr_17
    refine lv_if_eq (tgt := 45) hx hb dX12_step__40 (by decide) (fun c_19 => ?_) (fun c_19 => ?_)
    · skip
      have h_20 := s_eq (rfl : r_12.toInt = _) (show (0 : Int32).toInt = 0 from rfl) c_19
      exfalso; omega
    · skip
      have h_21 := s_ne (rfl : r_12.toInt = _) (show (0 : Int32).toInt = 0 from rfl) c_19
      refine lv_iconst (v := 0) hx hb dX12_step__43 (by decide) ?_
      exact sj_zret hx hb hr hlocks rfl hS (im_14, L) ⟨hO_16, (fun a b ha => (hfr_15 a b (by omega)))⟩ hH (sj_Knil hK) (Nat.le_of_ble_eq_true rfl) (Nat.le_of_ble_eq_true rfl) dX12_step__44
  · skip
    have h_22 := s_ne (rfl : r_4.toInt = _) (show (0 : Int32).toInt = 0 from rfl) c_9
    obtain ⟨hst1, hst2, hst3, hst4⟩ := he_8.resolve_right (fun q => by omega)
    refine lv_iload_n hx hb dX12_step__10 rfl (lv_at hl 3 rfl) ?_
    refine lv_if_lt (tgt := 32) hx hb dX12_step__11 (by decide) (fun c_23 => ?_) (fun c_23 => ?_)
    · skip
      have h_24 := s_lt (rfl : z.toInt = _) (show (0 : Int32).toInt = 0 from rfl) c_23
      refine lv_iconst (v := 1) hx hb dX12_step__32 (by decide) ?_
      refine lv_goto (tgt := 37) hx hb dX12_step__33 (by decide) ?_
      have hl_25 : (1 : Int32).toInt = 1 := rfl
      refine x_calli (va_runV (As := [.int 1]) (rest := []) ⟨hx, hb, hml, hown, hts⟩ (m_throwsNow l D g ka ad i r L d 1 hO hR H.size (by first | omega | decide) (by first | omega | decide)) (cwV 1 hts gX12_step__X12_throwsNow rfl rfl rfl (by decide +kernel) ⟨(Nat.le_of_ble_eq_true rfl), (Nat.le_of_ble_eq_true rfl)⟩) (x_preV (q := (RX12, TX12, 86)) hH hK (q_obj (by decide) (rfl : kd 36 = 12) (by decide)) rfl gxb (gxw hE hS (x_F hH hS hA))) rfl rfl hl.1 rfl (lv_room (Nat.le_of_ble_eq_true rfl)) dX12_step__37 ⟨(Nat.le_of_ble_eq_true rfl), (Nat.le_of_ble_eq_true rfl)⟩) hH hS hA rfl rfl (fun r_26 im_28 H locs hw_27 hH hS => ?_)
      have hH : sj_H D A (hwc g ka im_28 r L d) H := hH
      obtain ⟨hO_30, hfr_29, hr_31, he_32⟩ := hw_27
      have hr_31 : (0 : Int) ≤ r_26.toInt ∧ r_26.toInt ≤ 1 := hr_31
      refine lv_if_eq (tgt := 45) hx hb dX12_step__40 (by decide) (fun c_33 => ?_) (fun c_33 => ?_)
      · skip
        have h_34 := s_eq (rfl : r_26.toInt = _) (show (0 : Int32).toInt = 0 from rfl) c_33
        exfalso; omega
      · skip
        have h_35 := s_ne (rfl : r_26.toInt = _) (show (0 : Int32).toInt = 0 from rfl) c_33
        refine lv_iconst (v := 0) hx hb dX12_step__43 (by decide) ?_
        exact sj_zret hx hb hr hlocks rfl hS (im_28, L) ⟨hO_30, (fun a b ha => (hfr_29 a b (by omega)))⟩ hH (sj_Knil hK) (Nat.le_of_ble_eq_true rfl) (Nat.le_of_ble_eq_true rfl) dX12_step__44
    · skip
      have h_36 := s_nlt (rfl : z.toInt = _) (show (0 : Int32).toInt = 0 from rfl) c_23
      refine lv_iload_n hx hb dX12_step__14 rfl (lv_at hl 3 rfl) ?_
      refine lv_iconst (v := 3) hx hb dX12_step__15 (by decide) ?_
      refine lv_icmp_le (tgt := 25) hx hb dX12_step__16 (by decide) (fun c_37 => ?_) (fun c_37 => ?_)
      · skip
        have h_38 := s_le (rfl : z.toInt = _) (show (3 : Int32).toInt = 3 from rfl) c_37
        refine lv_iload_n hx hb dX12_step__25 rfl (lv_at hl 3 rfl) ?_
        refine lv_sipush (v := 160) hx hb dX12_step__26 (by decide) ?_
        refine lv_icmp_le (tgt := 36) hx hb dX12_step__29 (by decide) (fun _ => ?_) (fun h => absurd (p_le (rfl : z.toInt = _) (show (160 : Int32).toInt = 160 from rfl) (by omega)) h)
        refine lv_iconst (v := 0) hx hb dX12_step__36 (by decide) ?_
        have hl_39 : (0 : Int32).toInt = 0 := rfl
        refine x_calli (va_runV (As := [.int 0]) (rest := []) ⟨hx, hb, hml, hown, hts⟩ (m_throwsNow l D g ka ad i r L d 0 hO hR H.size (by first | omega | decide) (by first | omega | decide)) (cwV 1 hts gX12_step__X12_throwsNow rfl rfl rfl (by decide +kernel) ⟨(Nat.le_of_ble_eq_true rfl), (Nat.le_of_ble_eq_true rfl)⟩) (x_preV (q := (RX12, TX12, 86)) hH hK (q_obj (by decide) (rfl : kd 36 = 12) (by decide)) rfl gxb (gxw hE hS (x_F hH hS hA))) rfl rfl hl.1 rfl (lv_room (Nat.le_of_ble_eq_true rfl)) dX12_step__37 ⟨(Nat.le_of_ble_eq_true rfl), (Nat.le_of_ble_eq_true rfl)⟩) hH hS hA rfl rfl (fun r_40 im_42 H locs hw_41 hH hS => ?_)
        have hH : sj_H D A (hwc g ka im_42 r L d) H := hH
        obtain ⟨hO_44, hfr_43, hr_45, he_46⟩ := hw_41
        have hr_45 : (0 : Int) ≤ r_40.toInt ∧ r_40.toInt ≤ 1 := hr_45
        refine lv_if_eq (tgt := 45) hx hb dX12_step__40 (by decide) (fun c_47 => ?_) (fun c_47 => ?_)
        · skip
          have h_48 := s_eq (rfl : r_40.toInt = _) (show (0 : Int32).toInt = 0 from rfl) c_47
          refine lv_aload_n hx hb dX12_step__45 rfl (lv_at hl 0 rfl) ?_
          refine lv_iload_n hx hb dX12_step__46 rfl (lv_at hl 1 rfl) ?_
          refine lv_iload_n hx hb dX12_step__47 rfl (lv_at hl 2 rfl) ?_
          refine x_calli (va_runV (As := [.int x, .int y]) (rest := []) ⟨hx, hb, hml, hown, hts⟩ (m_caseStep l D g ka ad im_42 r L d x y hO_44 hR H.size (by first | omega | decide) (by first | omega | decide) (by first | omega | decide) (by rw [mcs_ld (show ldE i im_42 from ⟨(hfr_43 36 17 (by omega)), fun a h1 h2 => funext fun b9 => (hfr_43 a b9 (by omega))⟩)]; omega)) (cwV 2 hts gX12_step__X12_caseStep rfl rfl rfl (by decide +kernel) ⟨(Nat.le_of_ble_eq_true rfl), (Nat.le_of_ble_eq_true rfl)⟩) (x_preV (q := (RX12, TX12, 86)) hH hK (q_obj (by decide) (rfl : kd 36 = 12) (by decide)) rfl gxb (gxw hE hS (x_F hH hS hA))) rfl rfl hl.1 rfl (lv_room (Nat.le_of_ble_eq_true rfl)) dX12_step__48 ⟨(Nat.le_of_ble_eq_true rfl), (Nat.le_of_ble_eq_true rfl)⟩) hH hS hA rfl rfl (fun r_49 _ H locs hw_50 hH hS => ?_)
          obtain ⟨hr_52, he_53, hx2_54⟩ := hw_50
          have hr_52 : (0 : Int) ≤ r_49.toInt ∧ r_49.toInt ≤ 29 := hr_52
          refine lv_istore (lv' := [(4, .int r_49), (0, .ref (g 36)), (1, .int x), (2, .int y), (3, .int z)]) hx hb dX12_step__51 hl (by decide) rfl (fun ls hl => ?_)
          refine lv_aload_n hx hb dX12_step__53 rfl (lv_at hl 1 rfl) ?_
          refine lv_iload_n hx hb dX12_step__54 rfl (lv_at hl 2 rfl) ?_
          refine lv_iload_n hx hb dX12_step__55 rfl (lv_at hl 3 rfl) ?_
          refine x_callv (va_runV (As := [.int x, .int y]) (rest := []) ⟨hx, hb, hml, hown, hts⟩ (m_load l D g ka ad im_42 r L d x y hO_44 hR H.size (by first | omega | decide) (by first | omega | decide) (by first | omega | decide) (by rw [mcs_ld (show ldE i im_42 from ⟨(hfr_43 36 17 (by omega)), fun a h1 h2 => funext fun b9 => (hfr_43 a b9 (by omega))⟩)]; omega) (NR_fr hnr (funext fun b9 => (hfr_43 399 b9 (by omega))) (funext fun b9 => (hfr_43 398 b9 (by omega))))) (cwV 2 hts gX12_step__X12_load rfl rfl rfl (by decide +kernel) ⟨(Nat.le_of_ble_eq_true rfl), (Nat.le_of_ble_eq_true rfl)⟩) (x_preV (q := (RX12, TX12, 86)) hH hK (q_obj (by decide) (rfl : kd 36 = 12) (by decide)) rfl gxb (gxw hE hS (x_F hH hS hA))) rfl rfl hl.1 rfl (lv_room (Nat.le_of_ble_eq_true rfl)) dX12_step__56 ⟨(Nat.le_of_ble_eq_true rfl), (Nat.le_of_ble_eq_true rfl)⟩) hH hS hA rfl rfl (fun im_57 H locs hw_56 hH hS => ?_)
          have hH : sj_H D A (hwc g ka im_57 r L d) H := hH
          obtain ⟨hO_59, hfr_58, hx2_60⟩ := hw_56
          refine lv_iload_n hx hb dX12_step__59 rfl (lv_at hl 4 rfl) ?_
          refine lv_bipush (v := 100) hx hb dX12_step__60 (by decide) ?_
          refine lv_icmp_lt (tgt := 90) hx hb dX12_step__62 (by decide) (fun _ => ?_) (fun h => absurd (p_lt (rfl : z.toInt = _) (show (100 : Int32).toInt = 100 from rfl) (by omega)) h)
          refine lv_iload_n hx hb dX12_step__90 rfl (lv_at hl 4 rfl) ?_
          refine lv_if_ne (tgt := 104) hx hb dX12_step__91 (by decide) (fun c_61 => ?_) (fun c_61 => ?_)
          · skip
            have h_62 := s_ne (rfl : z.toInt = _) (show (0 : Int32).toInt = 0 from rfl) c_61
            refine lv_iload_n hx hb dX12_step__104 rfl (lv_at hl 4 rfl) ?_
            refine lv_iconst (v := 1) hx hb dX12_step__105 (by decide) ?_
            refine lv_icmp_ne (tgt := 125) hx hb dX12_step__106 (by decide) (fun c_63 => ?_) (fun c_63 => ?_)
            · skip
              have h_64 := s_ne (rfl : z.toInt = _) (show (1 : Int32).toInt = 1 from rfl) c_63
              refine lv_iload_n hx hb dX12_step__125 rfl (lv_at hl 4 rfl) ?_
              refine lv_iconst (v := 2) hx hb dX12_step__126 (by decide) ?_
              refine lv_icmp_ne (tgt := 137) hx hb dX12_step__127 (by decide) (fun c_65 => ?_) (fun c_65 => ?_)
              · skip
                have h_66 := s_ne (rfl : z.toInt = _) (show (2 : Int32).toInt = 2 from rfl) c_65
                refine lv_aload_n hx hb dX12_step__137 rfl (lv_at hl 1 rfl) ?_
                refine x_calli (va_runV (As := []) (rest := []) ⟨hx, hb, hml, hown, hts⟩ (m_fitting l D g ka ad im_57 r L d  hO_59 hR H.size (DI_fr hdi ((hfr_58 36 41 (by omega)).trans (hfr_43 36 41 (by omega))) (funext fun b9 => ((hfr_58 403 b9 (by omega)).trans (hfr_43 403 b9 (by omega)))) (funext fun b9 => ((hfr_58 404 b9 (by omega)).trans (hfr_43 404 b9 (by omega)))))) (cwV 0 hts gX12_step__X12_fitting rfl rfl rfl (by decide +kernel) ⟨(Nat.le_of_ble_eq_true rfl), (Nat.le_of_ble_eq_true rfl)⟩) (x_preV (q := (RX12, TX12, 86)) hH hK (q_obj (by decide) (rfl : kd 36 = 12) (by decide)) rfl gxb (gxw hE hS (x_F hH hS hA))) rfl rfl hl.1 rfl (lv_room (Nat.le_of_ble_eq_true rfl)) dX12_step__138 ⟨(Nat.le_of_ble_eq_true rfl), (Nat.le_of_ble_eq_true rfl)⟩) hH hS hA rfl rfl (fun r_67 u_71 H locs hw_68 hH hS => ?_)
                obtain ⟨im_69, Lm_70⟩ := u_71
                try dsimp only at hw_68
                have hH : sj_H D A (hwc g ka im_69 r Lm_70 d) H := hH
                obtain ⟨hO_73, hfr_72, hr_74⟩ := hw_68
                have hr_74 : (0 : Int) ≤ r_67.toInt ∧ r_67.toInt ≤ 12 := hr_74
                exact sj_zret hx hb hr hlocks rfl hS (im_69, Lm_70) ⟨hO_73, (fun a b ha => ((hfr_72 a b (by omega)).trans ((hfr_58 a b (by omega)).trans (hfr_43 a b (by omega)))))⟩ hH (sj_Knil hK) (Nat.le_of_ble_eq_true rfl) (Nat.le_of_ble_eq_true rfl) dX12_step__141
              · skip
                have h_75 := s_eq (rfl : z.toInt = _) (show (2 : Int32).toInt = 2 from rfl) c_65
                refine lv_aload_n hx hb dX12_step__130 rfl (lv_at hl 1 rfl) ?_
                refine x_calli (va_runV (As := []) (rest := []) ⟨hx, hb, hml, hown, hts⟩ (m_bound l D g ka ad im_57 r L d  hO_59 hR H.size (DI_fr hdi ((hfr_58 36 41 (by omega)).trans (hfr_43 36 41 (by omega))) (funext fun b9 => ((hfr_58 403 b9 (by omega)).trans (hfr_43 403 b9 (by omega)))) (funext fun b9 => ((hfr_58 404 b9 (by omega)).trans (hfr_43 404 b9 (by omega)))))) (cwV 0 hts gX12_step__X12_bound rfl rfl rfl (by decide +kernel) ⟨(Nat.le_of_ble_eq_true rfl), (Nat.le_of_ble_eq_true rfl)⟩) (x_preV (q := (RX12, TX12, 86)) hH hK (q_obj (by decide) (rfl : kd 36 = 12) (by decide)) rfl gxb (gxw hE hS (x_F hH hS hA))) rfl rfl hl.1 rfl (lv_room (Nat.le_of_ble_eq_true rfl)) dX12_step__131 ⟨(Nat.le_of_ble_eq_true rfl), (Nat.le_of_ble_eq_true rfl)⟩) hH hS hA rfl rfl (fun r_76 u_80 H locs hw_77 hH hS => ?_)
                obtain ⟨im_78, Lm_79⟩ := u_80
                try dsimp only at hw_77
                have hH : sj_H D A (hwc g ka im_78 r Lm_79 d) H := hH
                obtain ⟨hO_82, hfr_81, hr_83, hx2_84⟩ := hw_77
                have hr_83 : (-2 : Int) ≤ r_76.toInt ∧ r_76.toInt ≤ 11 := hr_83
                refine lv_goto (tgt := 141) hx hb dX12_step__134 (by decide) ?_
                exact sj_zret hx hb hr hlocks rfl hS (im_78, Lm_79) ⟨hO_82, (fun a b ha => ((hfr_81 a b (by omega)).trans ((hfr_58 a b (by omega)).trans (hfr_43 a b (by omega)))))⟩ hH (sj_Knil hK) (Nat.le_of_ble_eq_true rfl) (Nat.le_of_ble_eq_true rfl) dX12_step__141
            · skip
              have h_85 := s_eq (rfl : z.toInt = _) (show (1 : Int32).toInt = 1 from rfl) c_63
              refine lv_aload_n hx hb dX12_step__109 rfl (lv_at hl 1 rfl) ?_
              refine h_getr (ci := 12) (C := RX12) (F := TX12) (N := 86) hx hb hts in12 hown hK hH (by decide) (rfl : kd 36 = 12) (by decide) rfl 28 (by decide) wd0 (fun _ h9 => h9) (by decide) rfl (t := 392) (hR 36 28 rfl) (by decide) dX12_step__110 ?_
              refine lv_aload_n hx hb dX12_step__113 rfl (lv_at hl 1 rfl) ?_
              have bx_86 : (0 : Int) ≤ (i 36 26).toInt ∧ (i 36 26).toInt ≤ 40 := hO 36 26
              refine h_geti (ci := 12) (C := RX12) (F := TX12) (N := 86) hx hb hts in12 hown hK hH (by decide) (rfl : kd 36 = 12) (by decide) rfl 26 (by decide) wd1 (fun _ h9 => h9) (by decide) rfl dX12_step__114 ?_
              refine sj_i (y := (i 36 26)) ((hfr_58 36 26 (by omega)).trans (hfr_43 36 26 (by omega))) ?_
              refine lv_iload hx hb dX12_step__117 (lv_at hl 0 rfl) ?_
              refine x_calli (va_runS (As := [.ref (g 392), .int (i 36 26), .int r_49]) (rest := []) ⟨hx, hb, hml, hown, hts⟩ (m_count_rows l D g ka ad im_57 r L d (i 36 26) r_49 hO_59 hR H.size (by first | omega | decide) (by first | omega | decide)) (cwS 3 hts gX12_step__X12_count rfl rfl rfl (by decide +kernel) ⟨(Nat.le_of_ble_eq_true rfl), (Nat.le_of_ble_eq_true rfl)⟩) (x_preS hH hK gxb (gxw hE hS (x_F hH hS hA))) rfl rfl hl.1 rfl (lv_room (Nat.le_of_ble_eq_true rfl)) dX12_step__119 ⟨(Nat.le_of_ble_eq_true rfl), (Nat.le_of_ble_eq_true rfl)⟩) hH hS hA rfl rfl (fun r_87 _ H locs hw_88 hH hS => ?_)
              obtain ⟨hr_90, he_91⟩ := hw_88
              have hr_90 : (0 : Int) ≤ r_87.toInt ∧ r_87.toInt ≤ 40 := hr_90
              refine lv_goto (tgt := 141) hx hb dX12_step__122 (by decide) ?_
              exact sj_zret hx hb hr hlocks rfl hS (im_57, L) ⟨hO_59, (fun a b ha => ((hfr_58 a b (by omega)).trans (hfr_43 a b (by omega))))⟩ hH (sj_Knil hK) (Nat.le_of_ble_eq_true rfl) (Nat.le_of_ble_eq_true rfl) dX12_step__141
          · skip
            have h_92 := s_eq (rfl : z.toInt = _) (show (0 : Int32).toInt = 0 from rfl) c_61
            refine lv_aload_n hx hb dX12_step__94 rfl (lv_at hl 1 rfl) ?_
            refine h_getr (ci := 12) (C := RX12) (F := TX12) (N := 86) hx hb hts in12 hown hK hH (by decide) (rfl : kd 36 = 12) (by decide) rfl 20 (by decide) wd2 (fun _ h9 => h9) (by decide) rfl (t := 387) (hR 36 20 rfl) (by decide) dX12_step__95 ?_
            refine lv_iload hx hb dX12_step__98 (lv_at hl 0 rfl) ?_
            refine h_iald hx hb hK hH (by decide) (rfl : kd 387 = 13) (s_vin (N := 30) (rfl : r_49.toInt = _) (rfl : ln 387 = 30) (by omega) (by omega)) dX12_step__100 ?_
            have ek_93 : r_49.toNatClampNeg = (r_49.toInt).toNat := (s_cl (show r_49.toInt = r_49.toInt by omega))
            refine sj_i (y := (i 387 (r_49.toInt).toNat)) (by rw [ek_93]; exact ((hfr_58 387 (r_49.toInt).toNat (by omega)).trans (hfr_43 387 (r_49.toInt).toNat (by omega)))) ?_
            refine lv_goto (tgt := 141) hx hb dX12_step__101 (by decide) ?_
            exact sj_zret hx hb hr hlocks rfl hS (im_57, L) ⟨hO_59, (fun a b ha => ((hfr_58 a b (by omega)).trans (hfr_43 a b (by omega))))⟩ hH (sj_Knil hK) (Nat.le_of_ble_eq_true rfl) (Nat.le_of_ble_eq_true rfl) dX12_step__141
        · skip
          have h_94 := s_ne (rfl : r_40.toInt = _) (show (0 : Int32).toInt = 0 from rfl) c_47
          exfalso; omega
      · skip
        have h_95 := s_nle (rfl : z.toInt = _) (show (3 : Int32).toInt = 3 from rfl) c_37
        refine lv_iload_n hx hb dX12_step__19 rfl (lv_at hl 3 rfl) ?_
        refine lv_bipush (v := 100) hx hb dX12_step__20 (by decide) ?_
        refine lv_icmp_lt (tgt := 32) hx hb dX12_step__22 (by decide) (fun c_96 => ?_) (fun c_96 => ?_)
        · skip
          have h_97 := s_lt (rfl : z.toInt = _) (show (100 : Int32).toInt = 100 from rfl) c_96
          refine lv_iconst (v := 1) hx hb dX12_step__32 (by decide) ?_
          refine lv_goto (tgt := 37) hx hb dX12_step__33 (by decide) ?_
          have hl_98 : (1 : Int32).toInt = 1 := rfl
          refine x_calli (va_runV (As := [.int 1]) (rest := []) ⟨hx, hb, hml, hown, hts⟩ (m_throwsNow l D g ka ad i r L d 1 hO hR H.size (by first | omega | decide) (by first | omega | decide)) (cwV 1 hts gX12_step__X12_throwsNow rfl rfl rfl (by decide +kernel) ⟨(Nat.le_of_ble_eq_true rfl), (Nat.le_of_ble_eq_true rfl)⟩) (x_preV (q := (RX12, TX12, 86)) hH hK (q_obj (by decide) (rfl : kd 36 = 12) (by decide)) rfl gxb (gxw hE hS (x_F hH hS hA))) rfl rfl hl.1 rfl (lv_room (Nat.le_of_ble_eq_true rfl)) dX12_step__37 ⟨(Nat.le_of_ble_eq_true rfl), (Nat.le_of_ble_eq_true rfl)⟩) hH hS hA rfl rfl (fun r_99 im_101 H locs hw_100 hH hS => ?_)
          have hH : sj_H D A (hwc g ka im_101 r L d) H := hH
          obtain ⟨hO_103, hfr_102, hr_104, he_105⟩ := hw_100
          have hr_104 : (0 : Int) ≤ r_99.toInt ∧ r_99.toInt ≤ 1 := hr_104
          refine lv_if_eq (tgt := 45) hx hb dX12_step__40 (by decide) (fun c_106 => ?_) (fun c_106 => ?_)
          · skip
            have h_107 := s_eq (rfl : r_99.toInt = _) (show (0 : Int32).toInt = 0 from rfl) c_106
            exfalso; omega
          · skip
            have h_108 := s_ne (rfl : r_99.toInt = _) (show (0 : Int32).toInt = 0 from rfl) c_106
            refine lv_iconst (v := 0) hx hb dX12_step__43 (by decide) ?_
            exact sj_zret hx hb hr hlocks rfl hS (im_101, L) ⟨hO_103, (fun a b ha => (hfr_102 a b (by omega)))⟩ hH (sj_Knil hK) (Nat.le_of_ble_eq_true rfl) (Nat.le_of_ble_eq_true rfl) dX12_step__44
        · skip
          have h_109 := s_nlt (rfl : z.toInt = _) (show (100 : Int32).toInt = 100 from rfl) c_96
          refine lv_iload_n hx hb dX12_step__25 rfl (lv_at hl 3 rfl) ?_
          refine lv_sipush (v := 160) hx hb dX12_step__26 (by decide) ?_
          refine lv_icmp_le (tgt := 36) hx hb dX12_step__29 (by decide) (fun c_110 => ?_) (fun c_110 => ?_)
          · skip
            have h_111 := s_le (rfl : z.toInt = _) (show (160 : Int32).toInt = 160 from rfl) c_110
            refine lv_iconst (v := 0) hx hb dX12_step__36 (by decide) ?_
            have hl_112 : (0 : Int32).toInt = 0 := rfl
            refine x_calli (va_runV (As := [.int 0]) (rest := []) ⟨hx, hb, hml, hown, hts⟩ (m_throwsNow l D g ka ad i r L d 0 hO hR H.size (by first | omega | decide) (by first | omega | decide)) (cwV 1 hts gX12_step__X12_throwsNow rfl rfl rfl (by decide +kernel) ⟨(Nat.le_of_ble_eq_true rfl), (Nat.le_of_ble_eq_true rfl)⟩) (x_preV (q := (RX12, TX12, 86)) hH hK (q_obj (by decide) (rfl : kd 36 = 12) (by decide)) rfl gxb (gxw hE hS (x_F hH hS hA))) rfl rfl hl.1 rfl (lv_room (Nat.le_of_ble_eq_true rfl)) dX12_step__37 ⟨(Nat.le_of_ble_eq_true rfl), (Nat.le_of_ble_eq_true rfl)⟩) hH hS hA rfl rfl (fun r_113 im_115 H locs hw_114 hH hS => ?_)
            have hH : sj_H D A (hwc g ka im_115 r L d) H := hH
            obtain ⟨hO_117, hfr_116, hr_118, he_119⟩ := hw_114
            have hr_118 : (0 : Int) ≤ r_113.toInt ∧ r_113.toInt ≤ 1 := hr_118
            refine lv_if_eq (tgt := 45) hx hb dX12_step__40 (by decide) (fun c_120 => ?_) (fun c_120 => ?_)
            · skip
              have h_121 := s_eq (rfl : r_113.toInt = _) (show (0 : Int32).toInt = 0 from rfl) c_120
              refine lv_aload_n hx hb dX12_step__45 rfl (lv_at hl 0 rfl) ?_
              refine lv_iload_n hx hb dX12_step__46 rfl (lv_at hl 1 rfl) ?_
              refine lv_iload_n hx hb dX12_step__47 rfl (lv_at hl 2 rfl) ?_
              refine x_calli (va_runV (As := [.int x, .int y]) (rest := []) ⟨hx, hb, hml, hown, hts⟩ (m_caseStep l D g ka ad im_115 r L d x y hO_117 hR H.size (by first | omega | decide) (by first | omega | decide) (by first | omega | decide) (by rw [mcs_ld (show ldE i im_115 from ⟨(hfr_116 36 17 (by omega)), fun a h1 h2 => funext fun b9 => (hfr_116 a b9 (by omega))⟩)]; omega)) (cwV 2 hts gX12_step__X12_caseStep rfl rfl rfl (by decide +kernel) ⟨(Nat.le_of_ble_eq_true rfl), (Nat.le_of_ble_eq_true rfl)⟩) (x_preV (q := (RX12, TX12, 86)) hH hK (q_obj (by decide) (rfl : kd 36 = 12) (by decide)) rfl gxb (gxw hE hS (x_F hH hS hA))) rfl rfl hl.1 rfl (lv_room (Nat.le_of_ble_eq_true rfl)) dX12_step__48 ⟨(Nat.le_of_ble_eq_true rfl), (Nat.le_of_ble_eq_true rfl)⟩) hH hS hA rfl rfl (fun r_122 _ H locs hw_123 hH hS => ?_)
              obtain ⟨hr_125, he_126, hx2_127⟩ := hw_123
              have hr_125 : (0 : Int) ≤ r_122.toInt ∧ r_122.toInt ≤ 29 := hr_125
              refine lv_istore (lv' := [(4, .int r_122), (0, .ref (g 36)), (1, .int x), (2, .int y), (3, .int z)]) hx hb dX12_step__51 hl (by decide) rfl (fun ls hl => ?_)
              refine lv_aload_n hx hb dX12_step__53 rfl (lv_at hl 1 rfl) ?_
              refine lv_iload_n hx hb dX12_step__54 rfl (lv_at hl 2 rfl) ?_
              refine lv_iload_n hx hb dX12_step__55 rfl (lv_at hl 3 rfl) ?_
              refine x_callv (va_runV (As := [.int x, .int y]) (rest := []) ⟨hx, hb, hml, hown, hts⟩ (m_load l D g ka ad im_115 r L d x y hO_117 hR H.size (by first | omega | decide) (by first | omega | decide) (by first | omega | decide) (by rw [mcs_ld (show ldE i im_115 from ⟨(hfr_116 36 17 (by omega)), fun a h1 h2 => funext fun b9 => (hfr_116 a b9 (by omega))⟩)]; omega) (NR_fr hnr (funext fun b9 => (hfr_116 399 b9 (by omega))) (funext fun b9 => (hfr_116 398 b9 (by omega))))) (cwV 2 hts gX12_step__X12_load rfl rfl rfl (by decide +kernel) ⟨(Nat.le_of_ble_eq_true rfl), (Nat.le_of_ble_eq_true rfl)⟩) (x_preV (q := (RX12, TX12, 86)) hH hK (q_obj (by decide) (rfl : kd 36 = 12) (by decide)) rfl gxb (gxw hE hS (x_F hH hS hA))) rfl rfl hl.1 rfl (lv_room (Nat.le_of_ble_eq_true rfl)) dX12_step__56 ⟨(Nat.le_of_ble_eq_true rfl), (Nat.le_of_ble_eq_true rfl)⟩) hH hS hA rfl rfl (fun im_130 H locs hw_129 hH hS => ?_)
              have hH : sj_H D A (hwc g ka im_130 r L d) H := hH
              obtain ⟨hO_132, hfr_131, hx2_133⟩ := hw_129
              refine lv_iload_n hx hb dX12_step__59 rfl (lv_at hl 4 rfl) ?_
              refine lv_bipush (v := 100) hx hb dX12_step__60 (by decide) ?_
              refine lv_icmp_lt (tgt := 90) hx hb dX12_step__62 (by decide) (fun h => absurd h (p_nlt (rfl : z.toInt = _) (show (100 : Int32).toInt = 100 from rfl) (by omega))) (fun _ => ?_)
              refine lv_iload_n hx hb dX12_step__65 rfl (lv_at hl 4 rfl) ?_
              refine lv_bipush (v := 100) hx hb dX12_step__66 (by decide) ?_
              refine lv_isub hx hb dX12_step__68 ?_
              obtain ⟨z_134, ez_134, hz_134⟩ := s_sub (rfl : z.toInt = _) (show (100 : Int32).toInt = 100 from rfl) (by omega) (by omega)
              refine sj_i ez_134 ?_
              refine lv_aload_n hx hb dX12_step__69 rfl (lv_at hl 1 rfl) ?_
              have bx_135 : (0 : Int) ≤ (im_130 36 40).toInt ∧ (im_130 36 40).toInt ≤ 60 := hO_132 36 40
              refine h_geti (ci := 12) (C := RX12) (F := TX12) (N := 86) hx hb hts in12 hown hK hH (by decide) (rfl : kd 36 = 12) (by decide) rfl 40 (by decide) wd3 (fun _ h9 => h9) (by decide) rfl dX12_step__70 ?_
              refine lv_icmp_ge (tgt := 88) hx hb dX12_step__73 (by decide) (fun c_136 => ?_) (fun c_136 => ?_)
              · skip
                have h_137 := s_le (rfl : (im_130 36 40).toInt = _) (rfl : z_134.toInt = _) c_136
                refine lv_iconst (v := (-1)) hx hb dX12_step__88 (by decide) ?_
                exact sj_zret hx hb hr hlocks rfl hS (im_130, L) ⟨hO_132, (fun a b ha => ((hfr_131 a b (by omega)).trans (hfr_116 a b (by omega))))⟩ hH (sj_Knil hK) (Nat.le_of_ble_eq_true rfl) (Nat.le_of_ble_eq_true rfl) dX12_step__89
              · skip
                have h_138 := s_nle (rfl : (im_130 36 40).toInt = _) (rfl : z_134.toInt = _) c_136
                refine lv_aload_n hx hb dX12_step__76 rfl (lv_at hl 1 rfl) ?_
                refine h_getr (ci := 12) (C := RX12) (F := TX12) (N := 86) hx hb hts in12 hown hK hH (by decide) (rfl : kd 36 = 12) (by decide) rfl 39 (by decide) wd4 (fun _ h9 => h9) (by decide) rfl (t := 402) (hR 36 39 rfl) (by decide) dX12_step__77 ?_
                refine lv_iload_n hx hb dX12_step__80 rfl (lv_at hl 4 rfl) ?_
                refine lv_bipush (v := 100) hx hb dX12_step__81 (by decide) ?_
                refine lv_isub hx hb dX12_step__83 ?_
                obtain ⟨z_139, ez_139, hz_139⟩ := s_sub (rfl : z.toInt = _) (show (100 : Int32).toInt = 100 from rfl) (by omega) (by omega)
                refine sj_i ez_139 ?_
                have bx_140 : (0 : Int) ≤ (im_130 402 (z.toInt - 100).toNat).toInt ∧ (im_130 402 (z.toInt - 100).toNat).toInt ≤ 65535 := hO_132 402 (z.toInt - 100).toNat
                refine h_cald hx hb hK hH (by decide) (rfl : kd 402 = 14) (s_vin (N := 60) (rfl : z_139.toInt = _) (rfl : ln 402 = 60) (by omega) (by omega)) dX12_step__84 ?_
                have ek_141 : z_139.toNatClampNeg = (z.toInt - 100).toNat := (s_cl (show z_139.toInt = z.toInt - 100 by omega))
                refine sj_i (y := (im_130 402 (z.toInt - 100).toNat)) (by rw [ek_141]) ?_
                refine lv_goto (tgt := 89) hx hb dX12_step__85 (by decide) ?_
                exact sj_zret hx hb hr hlocks rfl hS (im_130, L) ⟨hO_132, (fun a b ha => ((hfr_131 a b (by omega)).trans (hfr_116 a b (by omega))))⟩ hH (sj_Knil hK) (Nat.le_of_ble_eq_true rfl) (Nat.le_of_ble_eq_true rfl) dX12_step__89
            · skip
              have h_142 := s_ne (rfl : r_113.toInt = _) (show (0 : Int32).toInt = 0 from rfl) c_120
              exfalso; omega
          · skip
            have h_143 := s_nle (rfl : z.toInt = _) (show (160 : Int32).toInt = 160 from rfl) c_110
            refine lv_iconst (v := 1) hx hb dX12_step__32 (by decide) ?_
            refine lv_goto (tgt := 37) hx hb dX12_step__33 (by decide) ?_
            have hl_144 : (1 : Int32).toInt = 1 := rfl
            refine x_calli (va_runV (As := [.int 1]) (rest := []) ⟨hx, hb, hml, hown, hts⟩ (m_throwsNow l D g ka ad i r L d 1 hO hR H.size (by first | omega | decide) (by first | omega | decide)) (cwV 1 hts gX12_step__X12_throwsNow rfl rfl rfl (by decide +kernel) ⟨(Nat.le_of_ble_eq_true rfl), (Nat.le_of_ble_eq_true rfl)⟩) (x_preV (q := (RX12, TX12, 86)) hH hK (q_obj (by decide) (rfl : kd 36 = 12) (by decide)) rfl gxb (gxw hE hS (x_F hH hS hA))) rfl rfl hl.1 rfl (lv_room (Nat.le_of_ble_eq_true rfl)) dX12_step__37 ⟨(Nat.le_of_ble_eq_true rfl), (Nat.le_of_ble_eq_true rfl)⟩) hH hS hA rfl rfl (fun r_145 im_147 H locs hw_146 hH hS => ?_)
            have hH : sj_H D A (hwc g ka im_147 r L d) H := hH
            obtain ⟨hO_149, hfr_148, hr_150, he_151⟩ := hw_146
            have hr_150 : (0 : Int) ≤ r_145.toInt ∧ r_145.toInt ≤ 1 := hr_150
            refine lv_if_eq (tgt := 45) hx hb dX12_step__40 (by decide) (fun c_152 => ?_) (fun c_152 => ?_)
            · skip
              have h_153 := s_eq (rfl : r_145.toInt = _) (show (0 : Int32).toInt = 0 from rfl) c_152
              exfalso; omega
            · skip
              have h_154 := s_ne (rfl : r_145.toInt = _) (show (0 : Int32).toInt = 0 from rfl) c_152
              refine lv_iconst (v := 0) hx hb dX12_step__43 (by decide) ?_
              exact sj_zret hx hb hr hlocks rfl hS (im_147, L) ⟨hO_149, (fun a b ha => (hfr_148 a b (by omega)))⟩ hH (sj_Knil hK) (Nat.le_of_ble_eq_true rfl) (Nat.le_of_ble_eq_true rfl) dX12_step__44
set_option maxHeartbeats 2000000 in
set_option maxRecDepth 100000 in
theorem m_argument (l : Launch) (D : va_G) (g : Nat → Nat) (ka : Nat → ClassId) (ad : Nat → Nat) (i : Nat → Nat → Int32) (r : Nat → Nat → Nat) (L : Nat → Nat → Int64) (d : Nat → Nat → UInt64) (x : Int32) (y : Int32) (z : Int32) (hO : OkI i) (hR : RS r) (sz : Nat) (hnr : NR i) (hdi : DI i) : Met l yX12_argument wsX12_argument ({ frames := 8, cells := 0, slots := 0, locals := 187 }) (va_Pc [.ref (g 36), .int x, .int y, .int z] (sj_B D (hwc g ka i r L d) (hT ka) sz (gx ad (va_A (hwc g ka i r L d) sz)))) (sj_Qi (S := (Nat → Nat → Int32) × (Nat → Nat → Int64)) D (fun v u => OkI u.1 ∧ (∀ a b, ¬ ((a = 36 ∧ (b = 0 ∨ b = 40 ∨ b = 45 ∨ b = 49 ∨ b = 52 ∨ b = 54 ∨ b = 55 ∨ b = 57)) ∨ a = 402 ∨ a = 406 ∨ a = 407 ∨ a = 408 ∨ a = 409 ∨ a = 410 ∨ a = 411 ∨ a = 413 ∨ a = 414 ∨ a = 415) → u.1 a b = i a b)) (fun u => hwc g ka u.1 r u.2 d) (fun _ => []) (va_A (hwc g ka i r L d) sz)) 0 0 (va_A (hwc g ka i r L d) sz) := by
  refine x_met (Ex := gx ad) (cc := cX12_argument) (maxL := 4) (ret := (some .int)) (by decide) rfl (Nat.le_of_ble_eq_true rfl) ?_
  intro p e s m below meth c A ls hx hb hr hml hts hown hlocks hA hS hH hK hE hl
  have hown : s.vm.findClass RX12 = some m.cls := hown
  have in12 : ∀ w ∈ wsX120, w ∈ wsX12_argument := (fun _ h => (List.mem_cons_of_mem _ (List.mem_append_right _ h)))
  have wd0 := hts (.fieldLink RX12 348 "StoryDeskModel" "arguments" "I") (List.mem_cons_of_mem _ (List.mem_append_left _ (List.mem_append_left _ lm0)))
  have wd1 := hts (.fieldLink RX12 354 "StoryDeskModel" "argumentFrom" "[I") (List.mem_cons_of_mem _ (List.mem_append_left _ (List.mem_append_left _ lm1)))
  have wd2 := hts (.fieldLink RX12 357 "StoryDeskModel" "argumentTo" "[I") (List.mem_cons_of_mem _ (List.mem_append_left _ (List.mem_append_left _ lm2)))
  have hl : lv_has ls 4 [(0, .ref (g 36)), (1, .int x), (2, .int y), (3, .int z)] := hl
  have hK : va_K D vwCl (hT ka) s := hK
  have hg_1 := s_rng x
  have hg_2 := s_rng y
  have hg_3 := s_rng z
  have hb33 : (0 : Int) ≤ (i 36 33).toInt ∧ (i 36 33).toInt ≤ 24 := hO 36 33
  refine lv_aload_n hx hb dX12_argument_0 rfl (lv_at hl 0 rfl) ?_
  refine lv_aload_n hx hb dX12_argument_1 rfl (lv_at hl 0 rfl) ?_
  refine lv_iload_n hx hb dX12_argument_2 rfl (lv_at hl 1 rfl) ?_
  refine lv_iload_n hx hb dX12_argument_3 rfl (lv_at hl 2 rfl) ?_
  refine x_calli (va_runV (As := [.int x, .int y]) (rest := [.ref (g 36)]) ⟨hx, hb, hml, hown, hts⟩ (m_isStep l D g ka ad i r L d x y hO hR s.heap.size ) (cwV 2 hts gX12_argument_X12_isStep rfl rfl rfl (by decide +kernel) ⟨(Nat.le_of_ble_eq_true rfl), (Nat.le_of_ble_eq_true rfl)⟩) (x_preV (q := (RX12, TX12, 86)) hH hK (q_obj (by decide) (rfl : kd 36 = 12) (by decide)) rfl gxb (gxw hE hS (x_F hH hS hA))) rfl rfl hl.1 rfl (lv_room (Nat.le_of_ble_eq_true rfl)) dX12_argument_4 ⟨(Nat.le_of_ble_eq_true rfl), (Nat.le_of_ble_eq_true rfl)⟩) hH hS hA rfl rfl (fun r_4 _ H locs hw_5 hH hS => ?_)
  obtain ⟨hr_7, he_8⟩ := hw_5
  have hr_7 : (0 : Int) ≤ r_4.toInt ∧ r_4.toInt ≤ 1 := hr_7
  refine lv_if_eq (tgt := 14) hx hb dX12_argument_7 (by decide) (fun c_9 => ?_) (fun c_9 => ?_)
  · skip
    have h_10 := s_eq (rfl : r_4.toInt = _) (show (0 : Int32).toInt = 0 from rfl) c_9
    refine lv_iconst (v := 1) hx hb dX12_argument_14 (by decide) ?_
    have hl_11 : (1 : Int32).toInt = 1 := rfl
    refine x_calli (va_runV (As := [.int 1]) (rest := []) ⟨hx, hb, hml, hown, hts⟩ (m_throwsNow l D g ka ad i r L d 1 hO hR H.size (by first | omega | decide) (by first | omega | decide)) (cwV 1 hts gX12_argument_X12_throwsNow rfl rfl rfl (by decide +kernel) ⟨(Nat.le_of_ble_eq_true rfl), (Nat.le_of_ble_eq_true rfl)⟩) (x_preV (q := (RX12, TX12, 86)) hH hK (q_obj (by decide) (rfl : kd 36 = 12) (by decide)) rfl gxb (gxw hE hS (x_F hH hS hA))) rfl rfl hl.1 rfl (lv_room (Nat.le_of_ble_eq_true rfl)) dX12_argument_15 ⟨(Nat.le_of_ble_eq_true rfl), (Nat.le_of_ble_eq_true rfl)⟩) hH hS hA rfl rfl (fun r_12 im_14 H locs hw_13 hH hS => ?_)
    have hH : sj_H D A (hwc g ka im_14 r L d) H := hH
    obtain ⟨hO_16, hfr_15, hr_17, he_18⟩ := hw_13
    have hr_17 : (0 : Int) ≤ r_12.toInt ∧ r_12.toInt ≤ 1 := hr_17
    refine lv_if_eq (tgt := 23) hx hb dX12_argument_18 (by decide) (fun c_19 => ?_) (fun c_19 => ?_)
    · skip
      have h_20 := s_eq (rfl : r_12.toInt = _) (show (0 : Int32).toInt = 0 from rfl) c_19
      exfalso; omega
    · skip
      have h_21 := s_ne (rfl : r_12.toInt = _) (show (0 : Int32).toInt = 0 from rfl) c_19
      refine lv_iconst (v := 0) hx hb dX12_argument_21 (by decide) ?_
      exact sj_zret hx hb hr hlocks rfl hS (im_14, L) ⟨hO_16, (fun a b ha => (hfr_15 a b (by omega)))⟩ hH (sj_Knil hK) (Nat.le_of_ble_eq_true rfl) (Nat.le_of_ble_eq_true rfl) dX12_argument_22
  · skip
    have h_22 := s_ne (rfl : r_4.toInt = _) (show (0 : Int32).toInt = 0 from rfl) c_9
    obtain ⟨hst1, hst2, hst3, hst4⟩ := he_8.resolve_right (fun q => by omega)
    refine lv_iconst (v := 0) hx hb dX12_argument_10 (by decide) ?_
    refine lv_goto (tgt := 15) hx hb dX12_argument_11 (by decide) ?_
    have hl_23 : (0 : Int32).toInt = 0 := rfl
    refine x_calli (va_runV (As := [.int 0]) (rest := []) ⟨hx, hb, hml, hown, hts⟩ (m_throwsNow l D g ka ad i r L d 0 hO hR H.size (by first | omega | decide) (by first | omega | decide)) (cwV 1 hts gX12_argument_X12_throwsNow rfl rfl rfl (by decide +kernel) ⟨(Nat.le_of_ble_eq_true rfl), (Nat.le_of_ble_eq_true rfl)⟩) (x_preV (q := (RX12, TX12, 86)) hH hK (q_obj (by decide) (rfl : kd 36 = 12) (by decide)) rfl gxb (gxw hE hS (x_F hH hS hA))) rfl rfl hl.1 rfl (lv_room (Nat.le_of_ble_eq_true rfl)) dX12_argument_15 ⟨(Nat.le_of_ble_eq_true rfl), (Nat.le_of_ble_eq_true rfl)⟩) hH hS hA rfl rfl (fun r_24 im_26 H locs hw_25 hH hS => ?_)
    have hH : sj_H D A (hwc g ka im_26 r L d) H := hH
    obtain ⟨hO_28, hfr_27, hr_29, he_30⟩ := hw_25
    have hr_29 : (0 : Int) ≤ r_24.toInt ∧ r_24.toInt ≤ 1 := hr_29
    refine lv_if_eq (tgt := 23) hx hb dX12_argument_18 (by decide) (fun c_31 => ?_) (fun c_31 => ?_)
    · skip
      have h_32 := s_eq (rfl : r_24.toInt = _) (show (0 : Int32).toInt = 0 from rfl) c_31
      refine lv_aload_n hx hb dX12_argument_23 rfl (lv_at hl 0 rfl) ?_
      refine lv_iload_n hx hb dX12_argument_24 rfl (lv_at hl 1 rfl) ?_
      refine lv_iload_n hx hb dX12_argument_25 rfl (lv_at hl 2 rfl) ?_
      refine x_callv (va_runV (As := [.int x, .int y]) (rest := []) ⟨hx, hb, hml, hown, hts⟩ (m_load l D g ka ad im_26 r L d x y hO_28 hR H.size (by first | omega | decide) (by first | omega | decide) (by first | omega | decide) (by rw [mcs_ld (show ldE i im_26 from ⟨(hfr_27 36 17 (by omega)), fun a h1 h2 => funext fun b9 => (hfr_27 a b9 (by omega))⟩)]; omega) (NR_fr hnr (funext fun b9 => (hfr_27 399 b9 (by omega))) (funext fun b9 => (hfr_27 398 b9 (by omega))))) (cwV 2 hts gX12_argument_X12_load rfl rfl rfl (by decide +kernel) ⟨(Nat.le_of_ble_eq_true rfl), (Nat.le_of_ble_eq_true rfl)⟩) (x_preV (q := (RX12, TX12, 86)) hH hK (q_obj (by decide) (rfl : kd 36 = 12) (by decide)) rfl gxb (gxw hE hS (x_F hH hS hA))) rfl rfl hl.1 rfl (lv_room (Nat.le_of_ble_eq_true rfl)) dX12_argument_26 ⟨(Nat.le_of_ble_eq_true rfl), (Nat.le_of_ble_eq_true rfl)⟩) hH hS hA rfl rfl (fun im_35 H locs hw_34 hH hS => ?_)
      have hH : sj_H D A (hwc g ka im_35 r L d) H := hH
      obtain ⟨hO_37, hfr_36, hx2_38⟩ := hw_34
      refine lv_aload_n hx hb dX12_argument_29 rfl (lv_at hl 0 rfl) ?_
      refine lv_aload_n hx hb dX12_argument_30 rfl (lv_at hl 0 rfl) ?_
      refine x_calli (va_runV (As := []) (rest := [.ref (g 36)]) ⟨hx, hb, hml, hown, hts⟩ (m_bound l D g ka ad im_35 r L d  hO_37 hR H.size (DI_fr hdi ((hfr_36 36 41 (by omega)).trans (hfr_27 36 41 (by omega))) (funext fun b9 => ((hfr_36 403 b9 (by omega)).trans (hfr_27 403 b9 (by omega)))) (funext fun b9 => ((hfr_36 404 b9 (by omega)).trans (hfr_27 404 b9 (by omega)))))) (cwV 0 hts gX12_argument_X12_bound rfl rfl rfl (by decide +kernel) ⟨(Nat.le_of_ble_eq_true rfl), (Nat.le_of_ble_eq_true rfl)⟩) (x_preV (q := (RX12, TX12, 86)) hH hK (q_obj (by decide) (rfl : kd 36 = 12) (by decide)) rfl gxb (gxw hE hS (x_F hH hS hA))) rfl rfl hl.1 rfl (lv_room (Nat.le_of_ble_eq_true rfl)) dX12_argument_31 ⟨(Nat.le_of_ble_eq_true rfl), (Nat.le_of_ble_eq_true rfl)⟩) hH hS hA rfl rfl (fun r_39 u_43 H locs hw_40 hH hS => ?_)
      obtain ⟨im_41, Lm_42⟩ := u_43
      try dsimp only at hw_40
      have hH : sj_H D A (hwc g ka im_41 r Lm_42 d) H := hH
      obtain ⟨hO_45, hfr_44, hr_46, hx2_47⟩ := hw_40
      have hr_46 : (-2 : Int) ≤ r_39.toInt ∧ r_39.toInt ≤ 11 := hr_46
      refine lv_if_ge (tgt := 41) hx hb dX12_argument_34 (by decide) (fun c_48 => ?_) (fun c_48 => ?_)
      · skip
        have h_49 := s_le (show (0 : Int32).toInt = 0 from rfl) (rfl : r_39.toInt = _) c_48
        refine lv_iload_n hx hb dX12_argument_41 rfl (lv_at hl 3 rfl) ?_
        refine lv_if_lt (tgt := 53) hx hb dX12_argument_42 (by decide) (fun c_50 => ?_) (fun c_50 => ?_)
        · skip
          have h_51 := s_lt (rfl : z.toInt = _) (show (0 : Int32).toInt = 0 from rfl) c_50
          refine lv_iconst (v := 1) hx hb dX12_argument_53 (by decide) ?_
          refine lv_goto (tgt := 58) hx hb dX12_argument_54 (by decide) ?_
          have hl_52 : (1 : Int32).toInt = 1 := rfl
          refine x_calli (va_runV (As := [.int 1]) (rest := []) ⟨hx, hb, hml, hown, hts⟩ (m_throwsNow l D g ka ad im_41 r Lm_42 d 1 hO_45 hR H.size (by first | omega | decide) (by first | omega | decide)) (cwV 1 hts gX12_argument_X12_throwsNow rfl rfl rfl (by decide +kernel) ⟨(Nat.le_of_ble_eq_true rfl), (Nat.le_of_ble_eq_true rfl)⟩) (x_preV (q := (RX12, TX12, 86)) hH hK (q_obj (by decide) (rfl : kd 36 = 12) (by decide)) rfl gxb (gxw hE hS (x_F hH hS hA))) rfl rfl hl.1 rfl (lv_room (Nat.le_of_ble_eq_true rfl)) dX12_argument_58 ⟨(Nat.le_of_ble_eq_true rfl), (Nat.le_of_ble_eq_true rfl)⟩) hH hS hA rfl rfl (fun r_53 im_55 H locs hw_54 hH hS => ?_)
          have hH : sj_H D A (hwc g ka im_55 r Lm_42 d) H := hH
          obtain ⟨hO_57, hfr_56, hr_58, he_59⟩ := hw_54
          have hr_58 : (0 : Int) ≤ r_53.toInt ∧ r_53.toInt ≤ 1 := hr_58
          refine lv_if_eq (tgt := 68) hx hb dX12_argument_61 (by decide) (fun c_60 => ?_) (fun c_60 => ?_)
          · skip
            have h_61 := s_eq (rfl : r_53.toInt = _) (show (0 : Int32).toInt = 0 from rfl) c_60
            exfalso; omega
          · skip
            have h_62 := s_ne (rfl : r_53.toInt = _) (show (0 : Int32).toInt = 0 from rfl) c_60
            refine lv_iconst (v := 0) hx hb dX12_argument_64 (by decide) ?_
            refine lv_goto (tgt := 91) hx hb dX12_argument_65 (by decide) ?_
            exact sj_zret hx hb hr hlocks rfl hS (im_55, Lm_42) ⟨hO_57, (fun a b ha => ((hfr_56 a b (by omega)).trans ((hfr_44 a b (by omega)).trans ((hfr_36 a b (by omega)).trans (hfr_27 a b (by omega))))))⟩ hH (sj_Knil hK) (Nat.le_of_ble_eq_true rfl) (Nat.le_of_ble_eq_true rfl) dX12_argument_91
        · skip
          have h_63 := s_nlt (rfl : z.toInt = _) (show (0 : Int32).toInt = 0 from rfl) c_50
          refine lv_iload_n hx hb dX12_argument_45 rfl (lv_at hl 3 rfl) ?_
          refine lv_aload_n hx hb dX12_argument_46 rfl (lv_at hl 0 rfl) ?_
          have bx_64 : (0 : Int) ≤ (im_41 36 57).toInt ∧ (im_41 36 57).toInt ≤ 6 := hO_45 36 57
          refine h_geti (ci := 12) (C := RX12) (F := TX12) (N := 86) hx hb hts in12 hown hK hH (by decide) (rfl : kd 36 = 12) (by decide) rfl 57 (by decide) wd0 (fun _ h9 => h9) (by decide) rfl dX12_argument_47 ?_
          refine lv_icmp_lt (tgt := 57) hx hb dX12_argument_50 (by decide) (fun c_65 => ?_) (fun c_65 => ?_)
          · skip
            have h_66 := s_lt (rfl : z.toInt = _) (rfl : (im_41 36 57).toInt = _) c_65
            refine lv_iconst (v := 0) hx hb dX12_argument_57 (by decide) ?_
            have hl_67 : (0 : Int32).toInt = 0 := rfl
            refine x_calli (va_runV (As := [.int 0]) (rest := []) ⟨hx, hb, hml, hown, hts⟩ (m_throwsNow l D g ka ad im_41 r Lm_42 d 0 hO_45 hR H.size (by first | omega | decide) (by first | omega | decide)) (cwV 1 hts gX12_argument_X12_throwsNow rfl rfl rfl (by decide +kernel) ⟨(Nat.le_of_ble_eq_true rfl), (Nat.le_of_ble_eq_true rfl)⟩) (x_preV (q := (RX12, TX12, 86)) hH hK (q_obj (by decide) (rfl : kd 36 = 12) (by decide)) rfl gxb (gxw hE hS (x_F hH hS hA))) rfl rfl hl.1 rfl (lv_room (Nat.le_of_ble_eq_true rfl)) dX12_argument_58 ⟨(Nat.le_of_ble_eq_true rfl), (Nat.le_of_ble_eq_true rfl)⟩) hH hS hA rfl rfl (fun r_68 im_70 H locs hw_69 hH hS => ?_)
            have hH : sj_H D A (hwc g ka im_70 r Lm_42 d) H := hH
            obtain ⟨hO_72, hfr_71, hr_73, he_74⟩ := hw_69
            have hr_73 : (0 : Int) ≤ r_68.toInt ∧ r_68.toInt ≤ 1 := hr_73
            refine lv_if_eq (tgt := 68) hx hb dX12_argument_61 (by decide) (fun c_75 => ?_) (fun c_75 => ?_)
            · skip
              have h_76 := s_eq (rfl : r_68.toInt = _) (show (0 : Int32).toInt = 0 from rfl) c_75
              refine lv_bipush (v := 100) hx hb dX12_argument_68 (by decide) ?_
              refine lv_aload_n hx hb dX12_argument_70 rfl (lv_at hl 0 rfl) ?_
              refine h_getr (ci := 12) (C := RX12) (F := TX12) (N := 86) hx hb hts in12 hown hK hH (by decide) (rfl : kd 36 = 12) (by decide) rfl 59 (by decide) wd1 (fun _ h9 => h9) (by decide) rfl (t := 414) (hR 36 59 rfl) (by decide) dX12_argument_71 ?_
              refine lv_iload_n hx hb dX12_argument_74 rfl (lv_at hl 3 rfl) ?_
              have bx_77 : (0 : Int) ≤ (im_41 414 (z.toInt).toNat).toInt ∧ (im_41 414 (z.toInt).toNat).toInt ≤ 61 := hO_45 414 (z.toInt).toNat
              refine h_iald hx hb hK hH (by decide) (rfl : kd 414 = 13) (s_vin (N := 6) (rfl : z.toInt = _) (rfl : ln 414 = 6) (by omega) (by omega)) dX12_argument_75 ?_
              have ek_78 : z.toNatClampNeg = (z.toInt).toNat := (s_cl (show z.toInt = z.toInt by omega))
              refine sj_i (y := (im_41 414 (z.toInt).toNat)) (by rw [ek_78]; exact (hfr_71 414 (z.toInt).toNat (by omega))) ?_
              refine lv_imul hx hb dX12_argument_76 ?_
              obtain ⟨z_79, ez_79, hz_79⟩ := s_mul (show (100 : Int32).toInt = 100 from rfl) (rfl : (im_41 414 (z.toInt).toNat).toInt = _) (by omega) (by omega)
              refine sj_i ez_79 ?_
              refine lv_aload_n hx hb dX12_argument_77 rfl (lv_at hl 0 rfl) ?_
              refine h_getr (ci := 12) (C := RX12) (F := TX12) (N := 86) hx hb hts in12 hown hK hH (by decide) (rfl : kd 36 = 12) (by decide) rfl 60 (by decide) wd2 (fun _ h9 => h9) (by decide) rfl (t := 415) (hR 36 60 rfl) (by decide) dX12_argument_78 ?_
              refine lv_iload_n hx hb dX12_argument_81 rfl (lv_at hl 3 rfl) ?_
              have bx_80 : (-1 : Int) ≤ (im_41 415 (z.toInt).toNat).toInt ∧ (im_41 415 (z.toInt).toNat).toInt ≤ 61 := hO_45 415 (z.toInt).toNat
              refine h_iald hx hb hK hH (by decide) (rfl : kd 415 = 13) (s_vin (N := 6) (rfl : z.toInt = _) (rfl : ln 415 = 6) (by omega) (by omega)) dX12_argument_82 ?_
              have ek_81 : z.toNatClampNeg = (z.toInt).toNat := (s_cl (show z.toInt = z.toInt by omega))
              refine sj_i (y := (im_41 415 (z.toInt).toNat)) (by rw [ek_81]; exact (hfr_71 415 (z.toInt).toNat (by omega))) ?_
              refine lv_iadd hx hb dX12_argument_83 ?_
              obtain ⟨z_82, ez_82, hz_82⟩ := s_add (rfl : z_79.toInt = _) (rfl : (im_41 415 (z.toInt).toNat).toInt = _) (by omega) (by omega)
              refine sj_i ez_82 ?_
              refine lv_aload_n hx hb dX12_argument_84 rfl (lv_at hl 0 rfl) ?_
              refine h_getr (ci := 12) (C := RX12) (F := TX12) (N := 86) hx hb hts in12 hown hK hH (by decide) (rfl : kd 36 = 12) (by decide) rfl 59 (by decide) wd1 (fun _ h9 => h9) (by decide) rfl (t := 414) (hR 36 59 rfl) (by decide) dX12_argument_85 ?_
              refine lv_iload_n hx hb dX12_argument_88 rfl (lv_at hl 3 rfl) ?_
              refine h_iald hx hb hK hH (by decide) (rfl : kd 414 = 13) (s_vin (N := 6) (rfl : z.toInt = _) (rfl : ln 414 = 6) (by omega) (by omega)) dX12_argument_89 ?_
              have ek_83 : z.toNatClampNeg = (z.toInt).toNat := (s_cl (show z.toInt = z.toInt by omega))
              refine sj_i (y := (im_41 414 (z.toInt).toNat)) (by rw [ek_83]; exact (hfr_71 414 (z.toInt).toNat (by omega))) ?_
              refine lv_isub hx hb dX12_argument_90 ?_
              obtain ⟨z_84, ez_84, hz_84⟩ := s_sub (rfl : z_82.toInt = _) (rfl : (im_41 414 (z.toInt).toNat).toInt = _) (by omega) (by omega)
              refine sj_i ez_84 ?_
              exact sj_zret hx hb hr hlocks rfl hS (im_70, Lm_42) ⟨hO_72, (fun a b ha => ((hfr_71 a b (by omega)).trans ((hfr_44 a b (by omega)).trans ((hfr_36 a b (by omega)).trans (hfr_27 a b (by omega))))))⟩ hH (sj_Knil hK) (Nat.le_of_ble_eq_true rfl) (Nat.le_of_ble_eq_true rfl) dX12_argument_91
            · skip
              have h_85 := s_ne (rfl : r_68.toInt = _) (show (0 : Int32).toInt = 0 from rfl) c_75
              exfalso; omega
          · skip
            have h_86 := s_nlt (rfl : z.toInt = _) (rfl : (im_41 36 57).toInt = _) c_65
            refine lv_iconst (v := 1) hx hb dX12_argument_53 (by decide) ?_
            refine lv_goto (tgt := 58) hx hb dX12_argument_54 (by decide) ?_
            have hl_87 : (1 : Int32).toInt = 1 := rfl
            refine x_calli (va_runV (As := [.int 1]) (rest := []) ⟨hx, hb, hml, hown, hts⟩ (m_throwsNow l D g ka ad im_41 r Lm_42 d 1 hO_45 hR H.size (by first | omega | decide) (by first | omega | decide)) (cwV 1 hts gX12_argument_X12_throwsNow rfl rfl rfl (by decide +kernel) ⟨(Nat.le_of_ble_eq_true rfl), (Nat.le_of_ble_eq_true rfl)⟩) (x_preV (q := (RX12, TX12, 86)) hH hK (q_obj (by decide) (rfl : kd 36 = 12) (by decide)) rfl gxb (gxw hE hS (x_F hH hS hA))) rfl rfl hl.1 rfl (lv_room (Nat.le_of_ble_eq_true rfl)) dX12_argument_58 ⟨(Nat.le_of_ble_eq_true rfl), (Nat.le_of_ble_eq_true rfl)⟩) hH hS hA rfl rfl (fun r_88 im_90 H locs hw_89 hH hS => ?_)
            have hH : sj_H D A (hwc g ka im_90 r Lm_42 d) H := hH
            obtain ⟨hO_92, hfr_91, hr_93, he_94⟩ := hw_89
            have hr_93 : (0 : Int) ≤ r_88.toInt ∧ r_88.toInt ≤ 1 := hr_93
            refine lv_if_eq (tgt := 68) hx hb dX12_argument_61 (by decide) (fun c_95 => ?_) (fun c_95 => ?_)
            · skip
              have h_96 := s_eq (rfl : r_88.toInt = _) (show (0 : Int32).toInt = 0 from rfl) c_95
              exfalso; omega
            · skip
              have h_97 := s_ne (rfl : r_88.toInt = _) (show (0 : Int32).toInt = 0 from rfl) c_95
              refine lv_iconst (v := 0) hx hb dX12_argument_64 (by decide) ?_
              refine lv_goto (tgt := 91) hx hb dX12_argument_65 (by decide) ?_
              exact sj_zret hx hb hr hlocks rfl hS (im_90, Lm_42) ⟨hO_92, (fun a b ha => ((hfr_91 a b (by omega)).trans ((hfr_44 a b (by omega)).trans ((hfr_36 a b (by omega)).trans (hfr_27 a b (by omega))))))⟩ hH (sj_Knil hK) (Nat.le_of_ble_eq_true rfl) (Nat.le_of_ble_eq_true rfl) dX12_argument_91
      · skip
        have h_98 := s_nle (show (0 : Int32).toInt = 0 from rfl) (rfl : r_39.toInt = _) c_48
        refine lv_iconst (v := 2) hx hb dX12_argument_37 (by decide) ?_
        refine lv_goto (tgt := 58) hx hb dX12_argument_38 (by decide) ?_
        have hl_99 : (2 : Int32).toInt = 2 := rfl
        refine x_calli (va_runV (As := [.int 2]) (rest := []) ⟨hx, hb, hml, hown, hts⟩ (m_throwsNow l D g ka ad im_41 r Lm_42 d 2 hO_45 hR H.size (by first | omega | decide) (by first | omega | decide)) (cwV 1 hts gX12_argument_X12_throwsNow rfl rfl rfl (by decide +kernel) ⟨(Nat.le_of_ble_eq_true rfl), (Nat.le_of_ble_eq_true rfl)⟩) (x_preV (q := (RX12, TX12, 86)) hH hK (q_obj (by decide) (rfl : kd 36 = 12) (by decide)) rfl gxb (gxw hE hS (x_F hH hS hA))) rfl rfl hl.1 rfl (lv_room (Nat.le_of_ble_eq_true rfl)) dX12_argument_58 ⟨(Nat.le_of_ble_eq_true rfl), (Nat.le_of_ble_eq_true rfl)⟩) hH hS hA rfl rfl (fun r_100 im_102 H locs hw_101 hH hS => ?_)
        have hH : sj_H D A (hwc g ka im_102 r Lm_42 d) H := hH
        obtain ⟨hO_104, hfr_103, hr_105, he_106⟩ := hw_101
        have hr_105 : (0 : Int) ≤ r_100.toInt ∧ r_100.toInt ≤ 1 := hr_105
        refine lv_if_eq (tgt := 68) hx hb dX12_argument_61 (by decide) (fun c_107 => ?_) (fun c_107 => ?_)
        · skip
          have h_108 := s_eq (rfl : r_100.toInt = _) (show (0 : Int32).toInt = 0 from rfl) c_107
          exfalso; omega
        · skip
          have h_109 := s_ne (rfl : r_100.toInt = _) (show (0 : Int32).toInt = 0 from rfl) c_107
          refine lv_iconst (v := 0) hx hb dX12_argument_64 (by decide) ?_
          refine lv_goto (tgt := 91) hx hb dX12_argument_65 (by decide) ?_
          exact sj_zret hx hb hr hlocks rfl hS (im_102, Lm_42) ⟨hO_104, (fun a b ha => ((hfr_103 a b (by omega)).trans ((hfr_44 a b (by omega)).trans ((hfr_36 a b (by omega)).trans (hfr_27 a b (by omega))))))⟩ hH (sj_Knil hK) (Nat.le_of_ble_eq_true rfl) (Nat.le_of_ble_eq_true rfl) dX12_argument_91
    · skip
      have h_110 := s_ne (rfl : r_24.toInt = _) (show (0 : Int32).toInt = 0 from rfl) c_31
      exfalso; omega
set_option maxHeartbeats 2000000 in
set_option maxRecDepth 100000 in
theorem m_cell (l : Launch) (D : va_G) (g : Nat → Nat) (ka : Nat → ClassId) (ad : Nat → Nat) (i : Nat → Nat → Int32) (r : Nat → Nat → Nat) (L : Nat → Nat → Int64) (d : Nat → Nat → UInt64) (x : Int32) (y : Int32) (z : Int32) (v4 : Int32) (v5 : Int32) (hO : OkI i) (hR : RS r) (sz : Nat) (hnr : NR i) : Met l yX12_cell wsX12_cell ({ frames := 4, cells := 0, slots := 0, locals := 91 }) (va_Pc [.ref (g 36), .int x, .int y, .int z, .int v4, .int v5] (sj_B D (hwc g ka i r L d) (hT ka) sz (gx ad (va_A (hwc g ka i r L d) sz)))) (sj_Qi (S := (Nat → Nat → Int32)) D (fun v u => OkI u ∧ (∀ a b, ¬ ((a = 36 ∧ (b = 0 ∨ b = 40)) ∨ a = 402) → u a b = i a b)) (fun u => hwc g ka u r L d) (fun _ => []) (va_A (hwc g ka i r L d) sz)) 0 0 (va_A (hwc g ka i r L d) sz) := by
  refine x_met (Ex := gx ad) (cc := cX12_cell) (maxL := 8) (ret := (some .int)) (by decide) rfl (Nat.le_of_ble_eq_true rfl) ?_
  intro p e s m below meth c A ls hx hb hr hml hts hown hlocks hA hS hH hK hE hl
  have hown : s.vm.findClass RX12 = some m.cls := hown
  have in12 : ∀ w ∈ wsX120, w ∈ wsX12_cell := (fun _ h => (List.mem_cons_of_mem _ (List.mem_append_right _ h)))
  have wd0 := hts (.fieldLink RX12 67 "StoryDeskModel" "rowOwner" "[I") (List.mem_cons_of_mem _ (List.mem_append_left _ (List.mem_append_left _ lm0)))
  have wd1 := hts (.fieldLink RX12 70 "StoryDeskModel" "rows" "I") (List.mem_cons_of_mem _ (List.mem_append_left _ (List.mem_append_left _ lm1)))
  have wd2 := hts (.fieldLink RX12 83 "StoryDeskModel" "rowCells" "[I") (List.mem_cons_of_mem _ (List.mem_append_left _ (List.mem_append_left _ lm2)))
  have wd3 := hts (.fieldLink RX12 224 "StoryDeskModel" "filled" "I") (List.mem_cons_of_mem _ (List.mem_append_left _ (List.mem_append_left _ lm3)))
  have wd4 := hts (.fieldLink RX12 227 "StoryDeskModel" "buffer" "[C") (List.mem_cons_of_mem _ (List.mem_append_left _ (List.mem_append_left _ lm4)))
  have hl : lv_has ls 8 [(0, .ref (g 36)), (1, .int x), (2, .int y), (3, .int z), (4, .int v4), (5, .int v5)] := hl
  have hK : va_K D vwCl (hT ka) s := hK
  have hg_1 := s_rng x
  have hg_2 := s_rng y
  have hg_3 := s_rng z
  have hg_4 := s_rng v4
  have hg_5 := s_rng v5
  have hb33 : (0 : Int) ≤ (i 36 33).toInt ∧ (i 36 33).toInt ≤ 24 := hO 36 33
  refine lv_aload_n hx hb dX12_cell_0 rfl (lv_at hl 0 rfl) ?_
  refine lv_aload_n hx hb dX12_cell_1 rfl (lv_at hl 0 rfl) ?_
  refine lv_iload_n hx hb dX12_cell_2 rfl (lv_at hl 1 rfl) ?_
  refine lv_iload_n hx hb dX12_cell_3 rfl (lv_at hl 2 rfl) ?_
  refine x_calli (va_runV (As := [.int x, .int y]) (rest := [.ref (g 36)]) ⟨hx, hb, hml, hown, hts⟩ (m_isStep l D g ka ad i r L d x y hO hR s.heap.size ) (cwV 2 hts gX12_cell_X12_isStep rfl rfl rfl (by decide +kernel) ⟨(Nat.le_of_ble_eq_true rfl), (Nat.le_of_ble_eq_true rfl)⟩) (x_preV (q := (RX12, TX12, 86)) hH hK (q_obj (by decide) (rfl : kd 36 = 12) (by decide)) rfl gxb (gxw hE hS (x_F hH hS hA))) rfl rfl hl.1 rfl (lv_room (Nat.le_of_ble_eq_true rfl)) dX12_cell_4 ⟨(Nat.le_of_ble_eq_true rfl), (Nat.le_of_ble_eq_true rfl)⟩) hH hS hA rfl rfl (fun r_6 _ H locs hw_7 hH hS => ?_)
  obtain ⟨hr_9, he_10⟩ := hw_7
  have hr_9 : (0 : Int) ≤ r_6.toInt ∧ r_6.toInt ≤ 1 := hr_9
  refine lv_if_eq (tgt := 31) hx hb dX12_cell_7 (by decide) (fun c_11 => ?_) (fun c_11 => ?_)
  · skip
    have h_12 := s_eq (rfl : r_6.toInt = _) (show (0 : Int32).toInt = 0 from rfl) c_11
    refine lv_iconst (v := 1) hx hb dX12_cell_31 (by decide) ?_
    refine lv_goto (tgt := 36) hx hb dX12_cell_32 (by decide) ?_
    have hl_13 : (1 : Int32).toInt = 1 := rfl
    refine x_calli (va_runV (As := [.int 1]) (rest := []) ⟨hx, hb, hml, hown, hts⟩ (m_throwsNow l D g ka ad i r L d 1 hO hR H.size (by first | omega | decide) (by first | omega | decide)) (cwV 1 hts gX12_cell_X12_throwsNow rfl rfl rfl (by decide +kernel) ⟨(Nat.le_of_ble_eq_true rfl), (Nat.le_of_ble_eq_true rfl)⟩) (x_preV (q := (RX12, TX12, 86)) hH hK (q_obj (by decide) (rfl : kd 36 = 12) (by decide)) rfl gxb (gxw hE hS (x_F hH hS hA))) rfl rfl hl.1 rfl (lv_room (Nat.le_of_ble_eq_true rfl)) dX12_cell_36 ⟨(Nat.le_of_ble_eq_true rfl), (Nat.le_of_ble_eq_true rfl)⟩) hH hS hA rfl rfl (fun r_14 im_16 H locs hw_15 hH hS => ?_)
    have hH : sj_H D A (hwc g ka im_16 r L d) H := hH
    obtain ⟨hO_18, hfr_17, hr_19, he_20⟩ := hw_15
    have hr_19 : (0 : Int) ≤ r_14.toInt ∧ r_14.toInt ≤ 1 := hr_19
    refine lv_if_eq (tgt := 44) hx hb dX12_cell_39 (by decide) (fun c_21 => ?_) (fun c_21 => ?_)
    · skip
      have h_22 := s_eq (rfl : r_14.toInt = _) (show (0 : Int32).toInt = 0 from rfl) c_21
      exfalso; omega
    · skip
      have h_23 := s_ne (rfl : r_14.toInt = _) (show (0 : Int32).toInt = 0 from rfl) c_21
      refine lv_iconst (v := 0) hx hb dX12_cell_42 (by decide) ?_
      exact sj_zret hx hb hr hlocks rfl hS im_16 ⟨hO_18, (fun a b ha => (hfr_17 a b (by omega)))⟩ hH (sj_Knil hK) (Nat.le_of_ble_eq_true rfl) (Nat.le_of_ble_eq_true rfl) dX12_cell_43
  · skip
    have h_24 := s_ne (rfl : r_6.toInt = _) (show (0 : Int32).toInt = 0 from rfl) c_11
    obtain ⟨hst1, hst2, hst3, hst4⟩ := he_10.resolve_right (fun q => by omega)
    refine lv_iload_n hx hb dX12_cell_10 rfl (lv_at hl 3 rfl) ?_
    refine lv_if_lt (tgt := 31) hx hb dX12_cell_11 (by decide) (fun c_25 => ?_) (fun c_25 => ?_)
    · skip
      have h_26 := s_lt (rfl : z.toInt = _) (show (0 : Int32).toInt = 0 from rfl) c_25
      refine lv_iconst (v := 1) hx hb dX12_cell_31 (by decide) ?_
      refine lv_goto (tgt := 36) hx hb dX12_cell_32 (by decide) ?_
      have hl_27 : (1 : Int32).toInt = 1 := rfl
      refine x_calli (va_runV (As := [.int 1]) (rest := []) ⟨hx, hb, hml, hown, hts⟩ (m_throwsNow l D g ka ad i r L d 1 hO hR H.size (by first | omega | decide) (by first | omega | decide)) (cwV 1 hts gX12_cell_X12_throwsNow rfl rfl rfl (by decide +kernel) ⟨(Nat.le_of_ble_eq_true rfl), (Nat.le_of_ble_eq_true rfl)⟩) (x_preV (q := (RX12, TX12, 86)) hH hK (q_obj (by decide) (rfl : kd 36 = 12) (by decide)) rfl gxb (gxw hE hS (x_F hH hS hA))) rfl rfl hl.1 rfl (lv_room (Nat.le_of_ble_eq_true rfl)) dX12_cell_36 ⟨(Nat.le_of_ble_eq_true rfl), (Nat.le_of_ble_eq_true rfl)⟩) hH hS hA rfl rfl (fun r_28 im_30 H locs hw_29 hH hS => ?_)
      have hH : sj_H D A (hwc g ka im_30 r L d) H := hH
      obtain ⟨hO_32, hfr_31, hr_33, he_34⟩ := hw_29
      have hr_33 : (0 : Int) ≤ r_28.toInt ∧ r_28.toInt ≤ 1 := hr_33
      refine lv_if_eq (tgt := 44) hx hb dX12_cell_39 (by decide) (fun c_35 => ?_) (fun c_35 => ?_)
      · skip
        have h_36 := s_eq (rfl : r_28.toInt = _) (show (0 : Int32).toInt = 0 from rfl) c_35
        exfalso; omega
      · skip
        have h_37 := s_ne (rfl : r_28.toInt = _) (show (0 : Int32).toInt = 0 from rfl) c_35
        refine lv_iconst (v := 0) hx hb dX12_cell_42 (by decide) ?_
        exact sj_zret hx hb hr hlocks rfl hS im_30 ⟨hO_32, (fun a b ha => (hfr_31 a b (by omega)))⟩ hH (sj_Knil hK) (Nat.le_of_ble_eq_true rfl) (Nat.le_of_ble_eq_true rfl) dX12_cell_43
    · skip
      have h_38 := s_nlt (rfl : z.toInt = _) (show (0 : Int32).toInt = 0 from rfl) c_25
      refine lv_iload hx hb dX12_cell_14 (lv_at hl 4 rfl) ?_
      refine lv_if_lt (tgt := 31) hx hb dX12_cell_16 (by decide) (fun c_39 => ?_) (fun c_39 => ?_)
      · skip
        have h_40 := s_lt (rfl : v4.toInt = _) (show (0 : Int32).toInt = 0 from rfl) c_39
        refine lv_iconst (v := 1) hx hb dX12_cell_31 (by decide) ?_
        refine lv_goto (tgt := 36) hx hb dX12_cell_32 (by decide) ?_
        have hl_41 : (1 : Int32).toInt = 1 := rfl
        refine x_calli (va_runV (As := [.int 1]) (rest := []) ⟨hx, hb, hml, hown, hts⟩ (m_throwsNow l D g ka ad i r L d 1 hO hR H.size (by first | omega | decide) (by first | omega | decide)) (cwV 1 hts gX12_cell_X12_throwsNow rfl rfl rfl (by decide +kernel) ⟨(Nat.le_of_ble_eq_true rfl), (Nat.le_of_ble_eq_true rfl)⟩) (x_preV (q := (RX12, TX12, 86)) hH hK (q_obj (by decide) (rfl : kd 36 = 12) (by decide)) rfl gxb (gxw hE hS (x_F hH hS hA))) rfl rfl hl.1 rfl (lv_room (Nat.le_of_ble_eq_true rfl)) dX12_cell_36 ⟨(Nat.le_of_ble_eq_true rfl), (Nat.le_of_ble_eq_true rfl)⟩) hH hS hA rfl rfl (fun r_42 im_44 H locs hw_43 hH hS => ?_)
        have hH : sj_H D A (hwc g ka im_44 r L d) H := hH
        obtain ⟨hO_46, hfr_45, hr_47, he_48⟩ := hw_43
        have hr_47 : (0 : Int) ≤ r_42.toInt ∧ r_42.toInt ≤ 1 := hr_47
        refine lv_if_eq (tgt := 44) hx hb dX12_cell_39 (by decide) (fun c_49 => ?_) (fun c_49 => ?_)
        · skip
          have h_50 := s_eq (rfl : r_42.toInt = _) (show (0 : Int32).toInt = 0 from rfl) c_49
          exfalso; omega
        · skip
          have h_51 := s_ne (rfl : r_42.toInt = _) (show (0 : Int32).toInt = 0 from rfl) c_49
          refine lv_iconst (v := 0) hx hb dX12_cell_42 (by decide) ?_
          exact sj_zret hx hb hr hlocks rfl hS im_44 ⟨hO_46, (fun a b ha => (hfr_45 a b (by omega)))⟩ hH (sj_Knil hK) (Nat.le_of_ble_eq_true rfl) (Nat.le_of_ble_eq_true rfl) dX12_cell_43
      · skip
        have h_52 := s_nlt (rfl : v4.toInt = _) (show (0 : Int32).toInt = 0 from rfl) c_39
        refine lv_iload hx hb dX12_cell_19 (lv_at hl 5 rfl) ?_
        refine lv_if_lt (tgt := 31) hx hb dX12_cell_21 (by decide) (fun c_53 => ?_) (fun c_53 => ?_)
        · skip
          have h_54 := s_lt (rfl : v5.toInt = _) (show (0 : Int32).toInt = 0 from rfl) c_53
          refine lv_iconst (v := 1) hx hb dX12_cell_31 (by decide) ?_
          refine lv_goto (tgt := 36) hx hb dX12_cell_32 (by decide) ?_
          have hl_55 : (1 : Int32).toInt = 1 := rfl
          refine x_calli (va_runV (As := [.int 1]) (rest := []) ⟨hx, hb, hml, hown, hts⟩ (m_throwsNow l D g ka ad i r L d 1 hO hR H.size (by first | omega | decide) (by first | omega | decide)) (cwV 1 hts gX12_cell_X12_throwsNow rfl rfl rfl (by decide +kernel) ⟨(Nat.le_of_ble_eq_true rfl), (Nat.le_of_ble_eq_true rfl)⟩) (x_preV (q := (RX12, TX12, 86)) hH hK (q_obj (by decide) (rfl : kd 36 = 12) (by decide)) rfl gxb (gxw hE hS (x_F hH hS hA))) rfl rfl hl.1 rfl (lv_room (Nat.le_of_ble_eq_true rfl)) dX12_cell_36 ⟨(Nat.le_of_ble_eq_true rfl), (Nat.le_of_ble_eq_true rfl)⟩) hH hS hA rfl rfl (fun r_56 im_58 H locs hw_57 hH hS => ?_)
          have hH : sj_H D A (hwc g ka im_58 r L d) H := hH
          obtain ⟨hO_60, hfr_59, hr_61, he_62⟩ := hw_57
          have hr_61 : (0 : Int) ≤ r_56.toInt ∧ r_56.toInt ≤ 1 := hr_61
          refine lv_if_eq (tgt := 44) hx hb dX12_cell_39 (by decide) (fun c_63 => ?_) (fun c_63 => ?_)
          · skip
            have h_64 := s_eq (rfl : r_56.toInt = _) (show (0 : Int32).toInt = 0 from rfl) c_63
            exfalso; omega
          · skip
            have h_65 := s_ne (rfl : r_56.toInt = _) (show (0 : Int32).toInt = 0 from rfl) c_63
            refine lv_iconst (v := 0) hx hb dX12_cell_42 (by decide) ?_
            exact sj_zret hx hb hr hlocks rfl hS im_58 ⟨hO_60, (fun a b ha => (hfr_59 a b (by omega)))⟩ hH (sj_Knil hK) (Nat.le_of_ble_eq_true rfl) (Nat.le_of_ble_eq_true rfl) dX12_cell_43
        · skip
          have h_66 := s_nlt (rfl : v5.toInt = _) (show (0 : Int32).toInt = 0 from rfl) c_53
          refine lv_iload hx hb dX12_cell_24 (lv_at hl 5 rfl) ?_
          refine lv_bipush (v := 60) hx hb dX12_cell_26 (by decide) ?_
          refine lv_icmp_le (tgt := 35) hx hb dX12_cell_28 (by decide) (fun c_67 => ?_) (fun c_67 => ?_)
          · skip
            have h_68 := s_le (rfl : v5.toInt = _) (show (60 : Int32).toInt = 60 from rfl) c_67
            refine lv_iconst (v := 0) hx hb dX12_cell_35 (by decide) ?_
            have hl_69 : (0 : Int32).toInt = 0 := rfl
            refine x_calli (va_runV (As := [.int 0]) (rest := []) ⟨hx, hb, hml, hown, hts⟩ (m_throwsNow l D g ka ad i r L d 0 hO hR H.size (by first | omega | decide) (by first | omega | decide)) (cwV 1 hts gX12_cell_X12_throwsNow rfl rfl rfl (by decide +kernel) ⟨(Nat.le_of_ble_eq_true rfl), (Nat.le_of_ble_eq_true rfl)⟩) (x_preV (q := (RX12, TX12, 86)) hH hK (q_obj (by decide) (rfl : kd 36 = 12) (by decide)) rfl gxb (gxw hE hS (x_F hH hS hA))) rfl rfl hl.1 rfl (lv_room (Nat.le_of_ble_eq_true rfl)) dX12_cell_36 ⟨(Nat.le_of_ble_eq_true rfl), (Nat.le_of_ble_eq_true rfl)⟩) hH hS hA rfl rfl (fun r_70 im_72 H locs hw_71 hH hS => ?_)
            have hH : sj_H D A (hwc g ka im_72 r L d) H := hH
            obtain ⟨hO_74, hfr_73, hr_75, he_76⟩ := hw_71
            have hr_75 : (0 : Int) ≤ r_70.toInt ∧ r_70.toInt ≤ 1 := hr_75
            refine lv_if_eq (tgt := 44) hx hb dX12_cell_39 (by decide) (fun c_77 => ?_) (fun c_77 => ?_)
            · skip
              have h_78 := s_eq (rfl : r_70.toInt = _) (show (0 : Int32).toInt = 0 from rfl) c_77
              refine lv_aload_n hx hb dX12_cell_44 rfl (lv_at hl 0 rfl) ?_
              refine lv_iload_n hx hb dX12_cell_45 rfl (lv_at hl 1 rfl) ?_
              refine lv_iload_n hx hb dX12_cell_46 rfl (lv_at hl 2 rfl) ?_
              refine x_calli (va_runV (As := [.int x, .int y]) (rest := []) ⟨hx, hb, hml, hown, hts⟩ (m_caseStep l D g ka ad im_72 r L d x y hO_74 hR H.size (by first | omega | decide) (by first | omega | decide) (by first | omega | decide) (by rw [mcs_ld (show ldE i im_72 from ⟨(hfr_73 36 17 (by omega)), fun a h1 h2 => funext fun b9 => (hfr_73 a b9 (by omega))⟩)]; omega)) (cwV 2 hts gX12_cell_X12_caseStep rfl rfl rfl (by decide +kernel) ⟨(Nat.le_of_ble_eq_true rfl), (Nat.le_of_ble_eq_true rfl)⟩) (x_preV (q := (RX12, TX12, 86)) hH hK (q_obj (by decide) (rfl : kd 36 = 12) (by decide)) rfl gxb (gxw hE hS (x_F hH hS hA))) rfl rfl hl.1 rfl (lv_room (Nat.le_of_ble_eq_true rfl)) dX12_cell_47 ⟨(Nat.le_of_ble_eq_true rfl), (Nat.le_of_ble_eq_true rfl)⟩) hH hS hA rfl rfl (fun r_79 _ H locs hw_80 hH hS => ?_)
              obtain ⟨hr_82, he_83, hx2_84⟩ := hw_80
              have hr_82 : (0 : Int) ≤ r_79.toInt ∧ r_79.toInt ≤ 29 := hr_82
              refine lv_istore (lv' := [(6, .int r_79), (0, .ref (g 36)), (1, .int x), (2, .int y), (3, .int z), (4, .int v4), (5, .int v5)]) hx hb dX12_cell_50 hl (by decide) rfl (fun ls hl => ?_)
              refine lv_aload_n hx hb dX12_cell_52 rfl (lv_at hl 1 rfl) ?_
              refine h_getr (ci := 12) (C := RX12) (F := TX12) (N := 86) hx hb hts in12 hown hK hH (by decide) (rfl : kd 36 = 12) (by decide) rfl 28 (by decide) wd0 (fun _ h9 => h9) (by decide) rfl (t := 392) (hR 36 28 rfl) (by decide) dX12_cell_53 ?_
              refine lv_aload_n hx hb dX12_cell_56 rfl (lv_at hl 1 rfl) ?_
              have bx_85 : (0 : Int) ≤ (i 36 26).toInt ∧ (i 36 26).toInt ≤ 40 := hO 36 26
              refine h_geti (ci := 12) (C := RX12) (F := TX12) (N := 86) hx hb hts in12 hown hK hH (by decide) (rfl : kd 36 = 12) (by decide) rfl 26 (by decide) wd1 (fun _ h9 => h9) (by decide) rfl dX12_cell_57 ?_
              refine sj_i (y := (i 36 26)) (hfr_73 36 26 (by omega)) ?_
              refine lv_iload hx hb dX12_cell_60 (lv_at hl 0 rfl) ?_
              refine lv_iload_n hx hb dX12_cell_62 rfl (lv_at hl 4 rfl) ?_
              refine x_calli (va_runS (As := [.ref (g 392), .int (i 36 26), .int r_79, .int z]) (rest := []) ⟨hx, hb, hml, hown, hts⟩ (m_find_rows l D g ka ad im_72 r L d (i 36 26) r_79 z hO_74 hR H.size (by first | omega | decide) (by first | omega | decide) (by first | omega | decide)) (cwS 4 hts gX12_cell_X12_find rfl rfl rfl (by decide +kernel) ⟨(Nat.le_of_ble_eq_true rfl), (Nat.le_of_ble_eq_true rfl)⟩) (x_preS hH hK gxb (gxw hE hS (x_F hH hS hA))) rfl rfl hl.1 rfl (lv_room (Nat.le_of_ble_eq_true rfl)) dX12_cell_63 ⟨(Nat.le_of_ble_eq_true rfl), (Nat.le_of_ble_eq_true rfl)⟩) hH hS hA rfl rfl (fun r_86 _ H locs hw_87 hH hS => ?_)
              obtain ⟨hr_89, he_90⟩ := hw_87
              have hr_89 : (-1 : Int) ≤ r_86.toInt ∧ r_86.toInt ≤ 39 := hr_89
              refine lv_istore (lv' := [(7, .int r_86), (6, .int r_79), (0, .ref (g 36)), (1, .int x), (2, .int y), (3, .int z), (4, .int v4), (5, .int v5)]) hx hb dX12_cell_66 hl (by decide) rfl (fun ls hl => ?_)
              refine lv_aload_n hx hb dX12_cell_68 rfl (lv_at hl 2 rfl) ?_
              refine lv_iload hx hb dX12_cell_69 (lv_at hl 0 rfl) ?_
              refine lv_if_lt (tgt := 95) hx hb dX12_cell_71 (by decide) (fun c_91 => ?_) (fun c_91 => ?_)
              · skip
                have h_92 := s_lt (rfl : r_86.toInt = _) (show (0 : Int32).toInt = 0 from rfl) c_91
                refine lv_iconst (v := 1) hx hb dX12_cell_95 (by decide) ?_
                refine lv_goto (tgt := 100) hx hb dX12_cell_96 (by decide) ?_
                have hl_93 : (1 : Int32).toInt = 1 := rfl
                refine x_calli (va_runV (As := [.int 1]) (rest := []) ⟨hx, hb, hml, hown, hts⟩ (m_throwsNow l D g ka ad im_72 r L d 1 hO_74 hR H.size (by first | omega | decide) (by first | omega | decide)) (cwV 1 hts gX12_cell_X12_throwsNow rfl rfl rfl (by decide +kernel) ⟨(Nat.le_of_ble_eq_true rfl), (Nat.le_of_ble_eq_true rfl)⟩) (x_preV (q := (RX12, TX12, 86)) hH hK (q_obj (by decide) (rfl : kd 36 = 12) (by decide)) rfl gxb (gxw hE hS (x_F hH hS hA))) rfl rfl hl.1 rfl (lv_room (Nat.le_of_ble_eq_true rfl)) dX12_cell_100 ⟨(Nat.le_of_ble_eq_true rfl), (Nat.le_of_ble_eq_true rfl)⟩) hH hS hA rfl rfl (fun r_94 im_96 H locs hw_95 hH hS => ?_)
                have hH : sj_H D A (hwc g ka im_96 r L d) H := hH
                obtain ⟨hO_98, hfr_97, hr_99, he_100⟩ := hw_95
                have hr_99 : (0 : Int) ≤ r_94.toInt ∧ r_94.toInt ≤ 1 := hr_99
                refine lv_if_eq (tgt := 108) hx hb dX12_cell_103 (by decide) (fun c_101 => ?_) (fun c_101 => ?_)
                · skip
                  have h_102 := s_eq (rfl : r_94.toInt = _) (show (0 : Int32).toInt = 0 from rfl) c_101
                  exfalso; omega
                · skip
                  have h_103 := s_ne (rfl : r_94.toInt = _) (show (0 : Int32).toInt = 0 from rfl) c_101
                  refine lv_iconst (v := 0) hx hb dX12_cell_106 (by decide) ?_
                  exact sj_zret hx hb hr hlocks rfl hS im_96 ⟨hO_98, (fun a b ha => ((hfr_97 a b (by omega)).trans (hfr_73 a b (by omega))))⟩ hH (sj_Knil hK) (Nat.le_of_ble_eq_true rfl) (Nat.le_of_ble_eq_true rfl) dX12_cell_107
              · skip
                have h_104 := s_nlt (rfl : r_86.toInt = _) (show (0 : Int32).toInt = 0 from rfl) c_91
                refine lv_iload hx hb dX12_cell_74 (lv_at hl 6 rfl) ?_
                refine lv_aload_n hx hb dX12_cell_76 rfl (lv_at hl 2 rfl) ?_
                refine h_getr (ci := 12) (C := RX12) (F := TX12) (N := 86) hx hb hts in12 hown hK hH (by decide) (rfl : kd 36 = 12) (by decide) rfl 30 (by decide) wd2 (fun _ h9 => h9) (by decide) rfl (t := 394) (hR 36 30 rfl) (by decide) dX12_cell_77 ?_
                refine lv_iload hx hb dX12_cell_80 (lv_at hl 0 rfl) ?_
                refine lv_if_ge (tgt := 89) hx hb dX12_cell_82 (by decide) (fun _ => ?_) (fun h => absurd (p_le (show (0 : Int32).toInt = 0 from rfl) (rfl : r_86.toInt = _) (by omega)) h)
                refine lv_iload hx hb dX12_cell_89 (lv_at hl 0 rfl) ?_
                have bx_105 : (0 : Int) ≤ (i 394 (r_86.toInt).toNat).toInt ∧ (i 394 (r_86.toInt).toNat).toInt ≤ 4 := hO 394 (r_86.toInt).toNat
                refine h_iald hx hb hK hH (by decide) (rfl : kd 394 = 13) (s_vin (N := 40) (rfl : r_86.toInt = _) (rfl : ln 394 = 40) (by omega) (by omega)) dX12_cell_91 ?_
                have ek_106 : r_86.toNatClampNeg = (r_86.toInt).toNat := (s_cl (show r_86.toInt = r_86.toInt by omega))
                refine sj_i (y := (i 394 (r_86.toInt).toNat)) (by rw [ek_106]; exact (hfr_73 394 (r_86.toInt).toNat (by omega))) ?_
                refine lv_icmp_lt (tgt := 99) hx hb dX12_cell_92 (by decide) (fun c_107 => ?_) (fun c_107 => ?_)
                · skip
                  have h_108 := s_lt (rfl : v4.toInt = _) (rfl : (i 394 (r_86.toInt).toNat).toInt = _) c_107
                  refine lv_iconst (v := 0) hx hb dX12_cell_99 (by decide) ?_
                  have hl_109 : (0 : Int32).toInt = 0 := rfl
                  refine x_calli (va_runV (As := [.int 0]) (rest := []) ⟨hx, hb, hml, hown, hts⟩ (m_throwsNow l D g ka ad im_72 r L d 0 hO_74 hR H.size (by first | omega | decide) (by first | omega | decide)) (cwV 1 hts gX12_cell_X12_throwsNow rfl rfl rfl (by decide +kernel) ⟨(Nat.le_of_ble_eq_true rfl), (Nat.le_of_ble_eq_true rfl)⟩) (x_preV (q := (RX12, TX12, 86)) hH hK (q_obj (by decide) (rfl : kd 36 = 12) (by decide)) rfl gxb (gxw hE hS (x_F hH hS hA))) rfl rfl hl.1 rfl (lv_room (Nat.le_of_ble_eq_true rfl)) dX12_cell_100 ⟨(Nat.le_of_ble_eq_true rfl), (Nat.le_of_ble_eq_true rfl)⟩) hH hS hA rfl rfl (fun r_110 im_112 H locs hw_111 hH hS => ?_)
                  have hH : sj_H D A (hwc g ka im_112 r L d) H := hH
                  obtain ⟨hO_114, hfr_113, hr_115, he_116⟩ := hw_111
                  have hr_115 : (0 : Int) ≤ r_110.toInt ∧ r_110.toInt ≤ 1 := hr_115
                  refine lv_if_eq (tgt := 108) hx hb dX12_cell_103 (by decide) (fun c_117 => ?_) (fun c_117 => ?_)
                  · skip
                    have h_118 := s_eq (rfl : r_110.toInt = _) (show (0 : Int32).toInt = 0 from rfl) c_117
                    refine lv_aload_n hx hb dX12_cell_108 rfl (lv_at hl 2 rfl) ?_
                    refine lv_iload_n hx hb dX12_cell_109 rfl (lv_at hl 3 rfl) ?_
                    refine lv_iload hx hb dX12_cell_110 (lv_at hl 1 rfl) ?_
                    refine lv_iload hx hb dX12_cell_112 (lv_at hl 0 rfl) ?_
                    refine lv_iload hx hb dX12_cell_114 (lv_at hl 6 rfl) ?_
                    refine x_callv (va_runV (As := [.int x, .int r_79, .int r_86, .int v4]) (rest := []) ⟨hx, hb, hml, hown, hts⟩ (m_loadCell l D g ka ad im_112 r L d x r_79 r_86 v4 hO_114 hR H.size (by first | omega | decide) (by first | omega | decide) (by first | omega | decide) (by first | omega | decide) (by first | omega | decide) (by first | omega | decide) (by first | omega | decide) (by first | omega | decide) (NR_fr hnr (funext fun b9 => ((hfr_113 399 b9 (by omega)).trans (hfr_73 399 b9 (by omega)))) (funext fun b9 => ((hfr_113 398 b9 (by omega)).trans (hfr_73 398 b9 (by omega)))))) (cwV 4 hts gX12_cell_X12_loadCell rfl rfl rfl (by decide +kernel) ⟨(Nat.le_of_ble_eq_true rfl), (Nat.le_of_ble_eq_true rfl)⟩) (x_preV (q := (RX12, TX12, 86)) hH hK (q_obj (by decide) (rfl : kd 36 = 12) (by decide)) rfl gxb (gxw hE hS (x_F hH hS hA))) rfl rfl hl.1 rfl (lv_room (Nat.le_of_ble_eq_true rfl)) dX12_cell_116 ⟨(Nat.le_of_ble_eq_true rfl), (Nat.le_of_ble_eq_true rfl)⟩) hH hS hA rfl rfl (fun im_121 H locs hw_120 hH hS => ?_)
                    have hH : sj_H D A (hwc g ka im_121 r L d) H := hH
                    obtain ⟨hO_123, hfr_122⟩ := hw_120
                    refine lv_iload hx hb dX12_cell_119 (lv_at hl 7 rfl) ?_
                    refine lv_aload_n hx hb dX12_cell_121 rfl (lv_at hl 2 rfl) ?_
                    have bx_124 : (0 : Int) ≤ (im_121 36 40).toInt ∧ (im_121 36 40).toInt ≤ 60 := hO_123 36 40
                    refine h_geti (ci := 12) (C := RX12) (F := TX12) (N := 86) hx hb hts in12 hown hK hH (by decide) (rfl : kd 36 = 12) (by decide) rfl 40 (by decide) wd3 (fun _ h9 => h9) (by decide) rfl dX12_cell_122 ?_
                    refine lv_icmp_ge (tgt := 138) hx hb dX12_cell_125 (by decide) (fun c_125 => ?_) (fun c_125 => ?_)
                    · skip
                      have h_126 := s_le (rfl : (im_121 36 40).toInt = _) (rfl : v5.toInt = _) c_125
                      refine lv_iconst (v := (-1)) hx hb dX12_cell_138 (by decide) ?_
                      exact sj_zret hx hb hr hlocks rfl hS im_121 ⟨hO_123, (fun a b ha => ((hfr_122 a b (by omega)).trans ((hfr_113 a b (by omega)).trans (hfr_73 a b (by omega)))))⟩ hH (sj_Knil hK) (Nat.le_of_ble_eq_true rfl) (Nat.le_of_ble_eq_true rfl) dX12_cell_139
                    · skip
                      have h_127 := s_nle (rfl : (im_121 36 40).toInt = _) (rfl : v5.toInt = _) c_125
                      refine lv_aload_n hx hb dX12_cell_128 rfl (lv_at hl 2 rfl) ?_
                      refine h_getr (ci := 12) (C := RX12) (F := TX12) (N := 86) hx hb hts in12 hown hK hH (by decide) (rfl : kd 36 = 12) (by decide) rfl 39 (by decide) wd4 (fun _ h9 => h9) (by decide) rfl (t := 402) (hR 36 39 rfl) (by decide) dX12_cell_129 ?_
                      refine lv_iload hx hb dX12_cell_132 (lv_at hl 7 rfl) ?_
                      have bx_128 : (0 : Int) ≤ (im_121 402 (v5.toInt).toNat).toInt ∧ (im_121 402 (v5.toInt).toNat).toInt ≤ 65535 := hO_123 402 (v5.toInt).toNat
                      refine h_cald hx hb hK hH (by decide) (rfl : kd 402 = 14) (s_vin (N := 60) (rfl : v5.toInt = _) (rfl : ln 402 = 60) (by omega) (by omega)) dX12_cell_134 ?_
                      have ek_129 : v5.toNatClampNeg = (v5.toInt).toNat := (s_cl (show v5.toInt = v5.toInt by omega))
                      refine sj_i (y := (im_121 402 (v5.toInt).toNat)) (by rw [ek_129]) ?_
                      refine lv_goto (tgt := 139) hx hb dX12_cell_135 (by decide) ?_
                      exact sj_zret hx hb hr hlocks rfl hS im_121 ⟨hO_123, (fun a b ha => ((hfr_122 a b (by omega)).trans ((hfr_113 a b (by omega)).trans (hfr_73 a b (by omega)))))⟩ hH (sj_Knil hK) (Nat.le_of_ble_eq_true rfl) (Nat.le_of_ble_eq_true rfl) dX12_cell_139
                  · skip
                    have h_130 := s_ne (rfl : r_110.toInt = _) (show (0 : Int32).toInt = 0 from rfl) c_117
                    exfalso; omega
                · skip
                  have h_131 := s_nlt (rfl : v4.toInt = _) (rfl : (i 394 (r_86.toInt).toNat).toInt = _) c_107
                  refine lv_iconst (v := 1) hx hb dX12_cell_95 (by decide) ?_
                  refine lv_goto (tgt := 100) hx hb dX12_cell_96 (by decide) ?_
                  have hl_132 : (1 : Int32).toInt = 1 := rfl
                  refine x_calli (va_runV (As := [.int 1]) (rest := []) ⟨hx, hb, hml, hown, hts⟩ (m_throwsNow l D g ka ad im_72 r L d 1 hO_74 hR H.size (by first | omega | decide) (by first | omega | decide)) (cwV 1 hts gX12_cell_X12_throwsNow rfl rfl rfl (by decide +kernel) ⟨(Nat.le_of_ble_eq_true rfl), (Nat.le_of_ble_eq_true rfl)⟩) (x_preV (q := (RX12, TX12, 86)) hH hK (q_obj (by decide) (rfl : kd 36 = 12) (by decide)) rfl gxb (gxw hE hS (x_F hH hS hA))) rfl rfl hl.1 rfl (lv_room (Nat.le_of_ble_eq_true rfl)) dX12_cell_100 ⟨(Nat.le_of_ble_eq_true rfl), (Nat.le_of_ble_eq_true rfl)⟩) hH hS hA rfl rfl (fun r_133 im_135 H locs hw_134 hH hS => ?_)
                  have hH : sj_H D A (hwc g ka im_135 r L d) H := hH
                  obtain ⟨hO_137, hfr_136, hr_138, he_139⟩ := hw_134
                  have hr_138 : (0 : Int) ≤ r_133.toInt ∧ r_133.toInt ≤ 1 := hr_138
                  refine lv_if_eq (tgt := 108) hx hb dX12_cell_103 (by decide) (fun c_140 => ?_) (fun c_140 => ?_)
                  · skip
                    have h_141 := s_eq (rfl : r_133.toInt = _) (show (0 : Int32).toInt = 0 from rfl) c_140
                    exfalso; omega
                  · skip
                    have h_142 := s_ne (rfl : r_133.toInt = _) (show (0 : Int32).toInt = 0 from rfl) c_140
                    refine lv_iconst (v := 0) hx hb dX12_cell_106 (by decide) ?_
                    exact sj_zret hx hb hr hlocks rfl hS im_135 ⟨hO_137, (fun a b ha => ((hfr_136 a b (by omega)).trans (hfr_73 a b (by omega))))⟩ hH (sj_Knil hK) (Nat.le_of_ble_eq_true rfl) (Nat.le_of_ble_eq_true rfl) dX12_cell_107
            · skip
              have h_143 := s_ne (rfl : r_70.toInt = _) (show (0 : Int32).toInt = 0 from rfl) c_77
              exfalso; omega
          · skip
            have h_144 := s_nle (rfl : v5.toInt = _) (show (60 : Int32).toInt = 60 from rfl) c_67
            refine lv_iconst (v := 1) hx hb dX12_cell_31 (by decide) ?_
            refine lv_goto (tgt := 36) hx hb dX12_cell_32 (by decide) ?_
            have hl_145 : (1 : Int32).toInt = 1 := rfl
            refine x_calli (va_runV (As := [.int 1]) (rest := []) ⟨hx, hb, hml, hown, hts⟩ (m_throwsNow l D g ka ad i r L d 1 hO hR H.size (by first | omega | decide) (by first | omega | decide)) (cwV 1 hts gX12_cell_X12_throwsNow rfl rfl rfl (by decide +kernel) ⟨(Nat.le_of_ble_eq_true rfl), (Nat.le_of_ble_eq_true rfl)⟩) (x_preV (q := (RX12, TX12, 86)) hH hK (q_obj (by decide) (rfl : kd 36 = 12) (by decide)) rfl gxb (gxw hE hS (x_F hH hS hA))) rfl rfl hl.1 rfl (lv_room (Nat.le_of_ble_eq_true rfl)) dX12_cell_36 ⟨(Nat.le_of_ble_eq_true rfl), (Nat.le_of_ble_eq_true rfl)⟩) hH hS hA rfl rfl (fun r_146 im_148 H locs hw_147 hH hS => ?_)
            have hH : sj_H D A (hwc g ka im_148 r L d) H := hH
            obtain ⟨hO_150, hfr_149, hr_151, he_152⟩ := hw_147
            have hr_151 : (0 : Int) ≤ r_146.toInt ∧ r_146.toInt ≤ 1 := hr_151
            refine lv_if_eq (tgt := 44) hx hb dX12_cell_39 (by decide) (fun c_153 => ?_) (fun c_153 => ?_)
            · skip
              have h_154 := s_eq (rfl : r_146.toInt = _) (show (0 : Int32).toInt = 0 from rfl) c_153
              exfalso; omega
            · skip
              have h_155 := s_ne (rfl : r_146.toInt = _) (show (0 : Int32).toInt = 0 from rfl) c_153
              refine lv_iconst (v := 0) hx hb dX12_cell_42 (by decide) ?_
              exact sj_zret hx hb hr hlocks rfl hS im_148 ⟨hO_150, (fun a b ha => (hfr_149 a b (by omega)))⟩ hH (sj_Knil hK) (Nat.le_of_ble_eq_true rfl) (Nat.le_of_ble_eq_true rfl) dX12_cell_43
