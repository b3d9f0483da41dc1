theorem dX12_thrown_0 : decode cX12_thrown 0 = .ok (.aload_n 0, 1) := by decide +kernel
theorem dX12_thrown_1 : decode cX12_thrown 1 = .ok (.getfield 1, 3) := by decide +kernel
theorem dX12_thrown_4 : decode cX12_thrown 4 = .ok (.ireturn, 1) := by decide +kernel
theorem dX12_error_0 : decode cX12_error 0 = .ok (.aload_n 0, 1) := by decide +kernel
theorem dX12_error_1 : decode cX12_error 1 = .ok (.iload_n 1, 1) := by decide +kernel
theorem dX12_error_2 : decode cX12_error 2 = .ok (.ifCond .lt 20, 3) := by decide +kernel
theorem dX12_error_22 : decode cX12_error 22 = .ok (.iconst 1, 1) := by decide +kernel
theorem dX12_error_23 : decode cX12_error 23 = .ok (.goto 4, 3) := by decide +kernel
theorem dX12_error_27 : decode cX12_error 27 = .ok (.invokevirtual 171, 3) := by decide +kernel
theorem dX12_error_30 : decode cX12_error 30 = .ok (.ifCond .eq 7, 3) := by decide +kernel
theorem dX12_error_33 : decode cX12_error 33 = .ok (.iconst 0, 1) := by decide +kernel
theorem dX12_error_34 : decode cX12_error 34 = .ok (.goto 13, 3) := by decide +kernel
theorem dX12_error_47 : decode cX12_error 47 = .ok (.ireturn, 1) := by decide +kernel
theorem dX12_error_5 : decode cX12_error 5 = .ok (.iload_n 1, 1) := by decide +kernel
theorem dX12_error_6 : decode cX12_error 6 = .ok (.aload_n 0, 1) := by decide +kernel
theorem dX12_error_7 : decode cX12_error 7 = .ok (.getfield 57, 3) := by decide +kernel
theorem dX12_error_10 : decode cX12_error 10 = .ok (.if_icmp .ge 12, 3) := by decide +kernel
theorem dX12_story_0 : decode cX12_story 0 = .ok (.aload_n 0, 1) := by decide +kernel
theorem dX12_story_1 : decode cX12_story 1 = .ok (.iload_n 1, 1) := by decide +kernel
theorem dX12_story_2 : decode cX12_story 2 = .ok (.ifCond .lt 20, 3) := by decide +kernel
theorem dX12_story_22 : decode cX12_story 22 = .ok (.iconst 1, 1) := by decide +kernel
theorem dX12_story_23 : decode cX12_story 23 = .ok (.goto 4, 3) := by decide +kernel
theorem dX12_story_27 : decode cX12_story 27 = .ok (.invokevirtual 171, 3) := by decide +kernel
theorem dX12_story_30 : decode cX12_story 30 = .ok (.ifCond .eq 5, 3) := by decide +kernel
theorem dX12_story_33 : decode cX12_story 33 = .ok (.iconst 0, 1) := by decide +kernel
theorem dX12_story_34 : decode cX12_story 34 = .ok (.ireturn, 1) := by decide +kernel
theorem dX12_story_5 : decode cX12_story 5 = .ok (.iload_n 1, 1) := by decide +kernel
theorem dX12_story_6 : decode cX12_story 6 = .ok (.aload_n 0, 1) := by decide +kernel
theorem dX12_story_7 : decode cX12_story 7 = .ok (.getfield 165, 3) := by decide +kernel
theorem dX12_story_10 : decode cX12_story 10 = .ok (.if_icmp .ge 12, 3) := by decide +kernel
theorem dX12_step__0 : decode cX12_step_ 0 = .ok (.aload_n 0, 1) := by decide +kernel
theorem dX12_step__1 : decode cX12_step_ 1 = .ok (.aload_n 0, 1) := by decide +kernel
theorem dX12_step__2 : decode cX12_step_ 2 = .ok (.iload_n 1, 1) := by decide +kernel
theorem dX12_step__3 : decode cX12_step_ 3 = .ok (.iload_n 2, 1) := by decide +kernel
theorem dX12_step__4 : decode cX12_step_ 4 = .ok (.invokevirtual 554, 3) := by decide +kernel
theorem dX12_step__7 : decode cX12_step_ 7 = .ok (.ifCond .eq 25, 3) := by decide +kernel
theorem dX12_step__32 : decode cX12_step_ 32 = .ok (.iconst 1, 1) := by decide +kernel
theorem dX12_step__33 : decode cX12_step_ 33 = .ok (.goto 4, 3) := by decide +kernel
theorem dX12_step__37 : decode cX12_step_ 37 = .ok (.invokevirtual 171, 3) := by decide +kernel
theorem dX12_step__40 : decode cX12_step_ 40 = .ok (.ifCond .eq 5, 3) := by decide +kernel
theorem dX12_step__43 : decode cX12_step_ 43 = .ok (.iconst 0, 1) := by decide +kernel
theorem dX12_step__44 : decode cX12_step_ 44 = .ok (.ireturn, 1) := by decide +kernel
theorem dX12_argument_0 : decode cX12_argument 0 = .ok (.aload_n 0, 1) := by decide +kernel
theorem dX12_argument_1 : decode cX12_argument 1 = .ok (.aload_n 0, 1) := by decide +kernel
theorem dX12_argument_2 : decode cX12_argument 2 = .ok (.iload_n 1, 1) := by decide +kernel
theorem dX12_argument_3 : decode cX12_argument 3 = .ok (.iload_n 2, 1) := by decide +kernel
theorem dX12_argument_4 : decode cX12_argument 4 = .ok (.invokevirtual 554, 3) := by decide +kernel
theorem dX12_argument_7 : decode cX12_argument 7 = .ok (.ifCond .eq 7, 3) := by decide +kernel
theorem dX12_argument_14 : decode cX12_argument 14 = .ok (.iconst 1, 1) := by decide +kernel
theorem dX12_argument_15 : decode cX12_argument 15 = .ok (.invokevirtual 171, 3) := by decide +kernel
theorem dX12_argument_18 : decode cX12_argument 18 = .ok (.ifCond .eq 5, 3) := by decide +kernel
theorem dX12_argument_21 : decode cX12_argument 21 = .ok (.iconst 0, 1) := by decide +kernel
theorem dX12_argument_22 : decode cX12_argument 22 = .ok (.ireturn, 1) := by decide +kernel
theorem dX12_cell_0 : decode cX12_cell 0 = .ok (.aload_n 0, 1) := by decide +kernel
theorem dX12_cell_1 : decode cX12_cell 1 = .ok (.aload_n 0, 1) := by decide +kernel
theorem dX12_cell_2 : decode cX12_cell 2 = .ok (.iload_n 1, 1) := by decide +kernel
theorem dX12_cell_3 : decode cX12_cell 3 = .ok (.iload_n 2, 1) := by decide +kernel
theorem dX12_cell_4 : decode cX12_cell 4 = .ok (.invokevirtual 554, 3) := by decide +kernel
theorem dX12_cell_7 : decode cX12_cell 7 = .ok (.ifCond .eq 24, 3) := by decide +kernel
theorem dX12_cell_31 : decode cX12_cell 31 = .ok (.iconst 1, 1) := by decide +kernel
theorem dX12_cell_32 : decode cX12_cell 32 = .ok (.goto 4, 3) := by decide +kernel
theorem dX12_cell_36 : decode cX12_cell 36 = .ok (.invokevirtual 171, 3) := by decide +kernel
theorem dX12_cell_39 : decode cX12_cell 39 = .ok (.ifCond .eq 5, 3) := by decide +kernel
theorem dX12_cell_42 : decode cX12_cell 42 = .ok (.iconst 0, 1) := by decide +kernel
theorem dX12_cell_43 : decode cX12_cell 43 = .ok (.ireturn, 1) := by decide +kernel
theorem dX12_define_0 : decode cX12_define 0 = .ok (.aload_n 0, 1) := by decide +kernel
theorem dX12_define_1 : decode cX12_define 1 = .ok (.invokevirtual 174, 3) := by decide +kernel
theorem dX12_define_4 : decode cX12_define 4 = .ok (.ifCond .eq 5, 3) := by decide +kernel
theorem dX12_define_9 : decode cX12_define 9 = .ok (.aload_n 0, 1) := by decide +kernel
theorem dX12_define_10 : decode cX12_define 10 = .ok (.aload_n 0, 1) := by decide +kernel
theorem dX12_define_11 : decode cX12_define 11 = .ok (.getfield 12, 3) := by decide +kernel
theorem dX12_define_14 : decode cX12_define 14 = .ok (.iconst 0, 1) := by decide +kernel
theorem dX12_define_15 : decode cX12_define 15 = .ok (.aload_n 0, 1) := by decide +kernel
theorem dX12_define_16 : decode cX12_define 16 = .ok (.getfield 7, 3) := by decide +kernel
theorem dX12_define_19 : decode cX12_define 19 = .ok (.invokevirtual 304, 3) := by decide +kernel
theorem dX12_define_22 : decode cX12_define 22 = .ok (.ifCond .eq 17, 3) := by decide +kernel
theorem dX12_define_39 : decode cX12_define 39 = .ok (.iconst 0, 1) := by decide +kernel
theorem dX12_define_40 : decode cX12_define 40 = .ok (.istore_n 2, 1) := by decide +kernel
theorem dX12_define_41 : decode cX12_define 41 = .ok (.aload_n 0, 1) := by decide +kernel
theorem dX12_define_42 : decode cX12_define 42 = .ok (.getfield 7, 3) := by decide +kernel
theorem dX12_define_45 : decode cX12_define 45 = .ok (.istore_n 3, 1) := by decide +kernel
theorem dX12_define_46 : decode cX12_define 46 = .ok (.aload_n 0, 1) := by decide +kernel
theorem dX12_define_47 : decode cX12_define 47 = .ok (.iconst 0, 1) := by decide +kernel
theorem dX12_define_48 : decode cX12_define 48 = .ok (.putfield 7, 3) := by decide +kernel
theorem dX12_define_51 : decode cX12_define 51 = .ok (.aload_n 0, 1) := by decide +kernel
theorem dX12_define_52 : decode cX12_define 52 = .ok (.iload_n 2, 1) := by decide +kernel
theorem dX12_define_53 : decode cX12_define 53 = .ok (.ifCond .ne 7, 3) := by decide +kernel
theorem dX12_define_56 : decode cX12_define 56 = .ok (.iconst 2, 1) := by decide +kernel
theorem dX12_define_57 : decode cX12_define 57 = .ok (.goto 17, 3) := by decide +kernel
theorem dX12_define_74 : decode cX12_define 74 = .ok (.invokevirtual 171, 3) := by decide +kernel
theorem dX12_define_77 : decode cX12_define 77 = .ok (.ifCond .eq 5, 3) := by decide +kernel
theorem dX12_define_80 : decode cX12_define 80 = .ok (.iconst 0, 1) := by decide +kernel
theorem dX12_define_81 : decode cX12_define 81 = .ok (.ireturn, 1) := by decide +kernel
theorem dX12_hook_0 : decode cX12_hook 0 = .ok (.aload_n 0, 1) := by decide +kernel
theorem dX12_hook_1 : decode cX12_hook 1 = .ok (.invokevirtual 174, 3) := by decide +kernel
theorem dX12_hook_4 : decode cX12_hook 4 = .ok (.ifCond .eq 5, 3) := by decide +kernel
theorem dX12_hook_9 : decode cX12_hook 9 = .ok (.aload_n 0, 1) := by decide +kernel
theorem dX12_hook_10 : decode cX12_hook 10 = .ok (.aload_n 0, 1) := by decide +kernel
theorem dX12_hook_11 : decode cX12_hook 11 = .ok (.getfield 12, 3) := by decide +kernel
theorem dX12_hook_14 : decode cX12_hook 14 = .ok (.iconst 0, 1) := by decide +kernel
theorem dX12_hook_15 : decode cX12_hook 15 = .ok (.aload_n 0, 1) := by decide +kernel
theorem dX12_hook_16 : decode cX12_hook 16 = .ok (.getfield 7, 3) := by decide +kernel
theorem dX12_hook_19 : decode cX12_hook 19 = .ok (.iconst 0, 1) := by decide +kernel
theorem dX12_hook_20 : decode cX12_hook 20 = .ok (.invokevirtual 400, 3) := by decide +kernel
theorem dX12_hook_23 : decode cX12_hook 23 = .ok (.ifCond .lt 17, 3) := by decide +kernel
theorem dX12_hook_26 : decode cX12_hook 26 = .ok (.iload_n 2, 1) := by decide +kernel
theorem dX12_hook_27 : decode cX12_hook 27 = .ok (.ifCond .lt 13, 3) := by decide +kernel
theorem dX12_hook_40 : decode cX12_hook 40 = .ok (.iconst 0, 1) := by decide +kernel
theorem dX12_hook_41 : decode cX12_hook 41 = .ok (.istore_n 3, 1) := by decide +kernel
theorem dX12_hook_42 : decode cX12_hook 42 = .ok (.aload_n 0, 1) := by decide +kernel
theorem dX12_hook_43 : decode cX12_hook 43 = .ok (.iload_n 3, 1) := by decide +kernel
theorem dX12_hook_44 : decode cX12_hook 44 = .ok (.ifCond .ne 7, 3) := by decide +kernel
theorem dX12_hook_47 : decode cX12_hook 47 = .ok (.iconst 2, 1) := by decide +kernel
theorem dX12_hook_48 : decode cX12_hook 48 = .ok (.goto 17, 3) := by decide +kernel
theorem dX12_hook_65 : decode cX12_hook 65 = .ok (.putfield 1, 3) := by decide +kernel
theorem dX12_hook_68 : decode cX12_hook 68 = .ok (.aload_n 0, 1) := by decide +kernel
theorem dX12_hook_69 : decode cX12_hook 69 = .ok (.getfield 1, 3) := by decide +kernel
theorem dX12_hook_72 : decode cX12_hook 72 = .ok (.ifCond .ne 11, 3) := by decide +kernel
theorem dX12_hook_83 : decode cX12_hook 83 = .ok (.aload_n 0, 1) := by decide +kernel
theorem dX12_hook_84 : decode cX12_hook 84 = .ok (.iconst 0, 1) := by decide +kernel
theorem dX12_hook_85 : decode cX12_hook 85 = .ok (.putfield 7, 3) := by decide +kernel
theorem dX12_hook_88 : decode cX12_hook 88 = .ok (.aload_n 0, 1) := by decide +kernel
theorem dX12_hook_89 : decode cX12_hook 89 = .ok (.getfield 1, 3) := by decide +kernel
theorem dX12_hook_92 : decode cX12_hook 92 = .ok (.ifCond .le 5, 3) := by decide +kernel
theorem dX12_hook_95 : decode cX12_hook 95 = .ok (.iconst 0, 1) := by decide +kernel
theorem dX12_hook_96 : decode cX12_hook 96 = .ok (.ireturn, 1) := by decide +kernel
theorem dX12_hook_30 : decode cX12_hook 30 = .ok (.iload_n 2, 1) := by decide +kernel
theorem dX12_hook_31 : decode cX12_hook 31 = .ok (.bipush 8, 2) := by decide +kernel
theorem dX12_hook_33 : decode cX12_hook 33 = .ok (.if_icmp .ge 7, 3) := by decide +kernel
theorem dX12_hook_36 : decode cX12_hook 36 = .ok (.iconst 1, 1) := by decide +kernel
theorem dX12_hook_37 : decode cX12_hook 37 = .ok (.goto 4, 3) := by decide +kernel
theorem dX12_hook_51 : decode cX12_hook 51 = .ok (.aload_n 0, 1) := by decide +kernel
theorem dX12_hook_52 : decode cX12_hook 52 = .ok (.getfield 404, 3) := by decide +kernel
theorem dX12_hook_55 : decode cX12_hook 55 = .ok (.bipush 8, 2) := by decide +kernel
theorem dX12_hook_57 : decode cX12_hook 57 = .ok (.if_icmp .ne 7, 3) := by decide +kernel
theorem dX12_hook_64 : decode cX12_hook 64 = .ok (.iconst 0, 1) := by decide +kernel
theorem dX12_hook_75 : decode cX12_hook 75 = .ok (.aload_n 0, 1) := by decide +kernel
theorem dX12_hook_76 : decode cX12_hook 76 = .ok (.aload_n 0, 1) := by decide +kernel
theorem dX12_hook_77 : decode cX12_hook 77 = .ok (.getfield 404, 3) := by decide +kernel
theorem dX12_hook_80 : decode cX12_hook 80 = .ok (.invokevirtual 407, 3) := by decide +kernel
theorem dX12_hook_97 : decode cX12_hook 97 = .ok (.aload_n 0, 1) := by decide +kernel
theorem dX12_hook_98 : decode cX12_hook 98 = .ok (.getfield 411, 3) := by decide +kernel
theorem dX12_hook_101 : decode cX12_hook 101 = .ok (.aload_n 0, 1) := by decide +kernel
theorem dX12_hook_102 : decode cX12_hook 102 = .ok (.getfield 404, 3) := by decide +kernel
theorem dX12_hook_105 : decode cX12_hook 105 = .ok (.iload_n 1, 1) := by decide +kernel
theorem dX12_hook_106 : decode cX12_hook 106 = .ok (.bastore, 1) := by decide +kernel
theorem dX12_hook_107 : decode cX12_hook 107 = .ok (.aload_n 0, 1) := by decide +kernel
theorem dX12_hook_108 : decode cX12_hook 108 = .ok (.getfield 415, 3) := by decide +kernel
theorem dX12_hook_111 : decode cX12_hook 111 = .ok (.aload_n 0, 1) := by decide +kernel
theorem dX12_hook_112 : decode cX12_hook 112 = .ok (.getfield 404, 3) := by decide +kernel
theorem dX12_hook_115 : decode cX12_hook 115 = .ok (.iload_n 2, 1) := by decide +kernel
theorem dX12_hook_116 : decode cX12_hook 116 = .ok (.iastore, 1) := by decide +kernel
theorem dX12_hook_117 : decode cX12_hook 117 = .ok (.aload_n 0, 1) := by decide +kernel
theorem dX12_hook_118 : decode cX12_hook 118 = .ok (.dup, 1) := by decide +kernel
theorem dX12_hook_119 : decode cX12_hook 119 = .ok (.getfield 404, 3) := by decide +kernel
theorem dX12_hook_122 : decode cX12_hook 122 = .ok (.iconst 1, 1) := by decide +kernel
theorem dX12_hook_123 : decode cX12_hook 123 = .ok (.iadd, 1) := by decide +kernel
theorem dX12_hook_124 : decode cX12_hook 124 = .ok (.putfield 404, 3) := by decide +kernel
theorem dX12_hook_127 : decode cX12_hook 127 = .ok (.aload_n 0, 1) := by decide +kernel
theorem dX12_hook_128 : decode cX12_hook 128 = .ok (.getfield 404, 3) := by decide +kernel
theorem dX12_hook_131 : decode cX12_hook 131 = .ok (.iconst 1, 1) := by decide +kernel
theorem dX12_hook_132 : decode cX12_hook 132 = .ok (.isub, 1) := by decide +kernel
theorem dX12_hook_133 : decode cX12_hook 133 = .ok (.ireturn, 1) := by decide +kernel
theorem dX12_filter_0 : decode cX12_filter 0 = .ok (.aload_n 0, 1) := by decide +kernel
theorem dX12_filter_1 : decode cX12_filter 1 = .ok (.invokevirtual 174, 3) := by decide +kernel
theorem dX12_filter_4 : decode cX12_filter 4 = .ok (.ifCond .eq 5, 3) := by decide +kernel
theorem dX12_filter_9 : decode cX12_filter 9 = .ok (.aload_n 0, 1) := by decide +kernel
theorem dX12_filter_10 : decode cX12_filter 10 = .ok (.aload_n 0, 1) := by decide +kernel
theorem dX12_filter_11 : decode cX12_filter 11 = .ok (.aload_n 0, 1) := by decide +kernel
theorem dX12_filter_12 : decode cX12_filter 12 = .ok (.getfield 12, 3) := by decide +kernel
theorem dX12_filter_15 : decode cX12_filter 15 = .ok (.iconst 0, 1) := by decide +kernel
theorem dX12_filter_16 : decode cX12_filter 16 = .ok (.aload_n 0, 1) := by decide +kernel
theorem dX12_filter_17 : decode cX12_filter 17 = .ok (.getfield 7, 3) := by decide +kernel
theorem dX12_filter_20 : decode cX12_filter 20 = .ok (.iconst 0, 1) := by decide +kernel
theorem dX12_filter_21 : decode cX12_filter 21 = .ok (.invokevirtual 400, 3) := by decide +kernel
theorem dX12_filter_24 : decode cX12_filter 24 = .ok (.ifCond .lt 7, 3) := by decide +kernel
theorem dX12_filter_27 : decode cX12_filter 27 = .ok (.iconst 0, 1) := by decide +kernel
theorem dX12_filter_28 : decode cX12_filter 28 = .ok (.goto 4, 3) := by decide +kernel
theorem dX12_filter_32 : decode cX12_filter 32 = .ok (.putfield 1, 3) := by decide +kernel
theorem dX12_filter_35 : decode cX12_filter 35 = .ok (.aload_n 0, 1) := by decide +kernel
theorem dX12_filter_36 : decode cX12_filter 36 = .ok (.getfield 1, 3) := by decide +kernel
theorem dX12_filter_39 : decode cX12_filter 39 = .ok (.ifCond .ne 9, 3) := by decide +kernel
theorem dX12_filter_42 : decode cX12_filter 42 = .ok (.aload_n 0, 1) := by decide +kernel
theorem dX12_filter_43 : decode cX12_filter 43 = .ok (.bipush 8, 2) := by decide +kernel
theorem dX12_filter_45 : decode cX12_filter 45 = .ok (.invokevirtual 407, 3) := by decide +kernel
theorem dX12_filter_48 : decode cX12_filter 48 = .ok (.aload_n 0, 1) := by decide +kernel
theorem dX12_filter_49 : decode cX12_filter 49 = .ok (.iconst 0, 1) := by decide +kernel
theorem dX12_filter_50 : decode cX12_filter 50 = .ok (.putfield 7, 3) := by decide +kernel
theorem dX12_filter_53 : decode cX12_filter 53 = .ok (.aload_n 0, 1) := by decide +kernel
theorem dX12_filter_54 : decode cX12_filter 54 = .ok (.getfield 1, 3) := by decide +kernel
theorem dX12_filter_57 : decode cX12_filter 57 = .ok (.ifCond .le 7, 3) := by decide +kernel
theorem dX12_filter_64 : decode cX12_filter 64 = .ok (.aload_n 0, 1) := by decide +kernel
theorem dX12_filter_65 : decode cX12_filter 65 = .ok (.invokevirtual 421, 3) := by decide +kernel
theorem dX12_filter_68 : decode cX12_filter 68 = .ok (.ireturn, 1) := by decide +kernel
theorem dX12_command_0 : decode cX12_command 0 = .ok (.aload_n 0, 1) := by decide +kernel
theorem dX12_command_1 : decode cX12_command 1 = .ok (.iconst 0, 1) := by decide +kernel
theorem dX12_command_2 : decode cX12_command 2 = .ok (.putfield 1, 3) := by decide +kernel
theorem dX12_command_5 : decode cX12_command 5 = .ok (.aload_n 0, 1) := by decide +kernel
theorem dX12_command_6 : decode cX12_command 6 = .ok (.getfield 168, 3) := by decide +kernel
theorem dX12_command_9 : decode cX12_command 9 = .ok (.ifCond .ne 33, 3) := by decide +kernel
theorem dX12_command_12 : decode cX12_command 12 = .ok (.iload_n 1, 1) := by decide +kernel
theorem dX12_command_13 : decode cX12_command 13 = .ok (.ifCond .lt 29, 3) := by decide +kernel
theorem dX12_command_42 : decode cX12_command 42 = .ok (.iconst 0, 1) := by decide +kernel
theorem dX12_command_43 : decode cX12_command 43 = .ok (.ireturn, 1) := by decide +kernel
theorem dX12_command_16 : decode cX12_command 16 = .ok (.iload_n 1, 1) := by decide +kernel
theorem dX12_command_17 : decode cX12_command 17 = .ok (.bipush 7, 2) := by decide +kernel
theorem dX12_command_19 : decode cX12_command 19 = .ok (.if_icmp .gt 23, 3) := by decide +kernel
theorem dX12_command_22 : decode cX12_command 22 = .ok (.iload_n 2, 1) := by decide +kernel
theorem dX12_command_23 : decode cX12_command 23 = .ok (.ifCond .lt 19, 3) := by decide +kernel
theorem dX12_command_26 : decode cX12_command 26 = .ok (.iload_n 2, 1) := by decide +kernel
theorem dX12_command_27 : decode cX12_command 27 = .ok (.bipush 8, 2) := by decide +kernel
theorem dX12_command_29 : decode cX12_command 29 = .ok (.if_icmp .gt 13, 3) := by decide +kernel
theorem dX12_command_32 : decode cX12_command 32 = .ok (.aload_n 0, 1) := by decide +kernel
theorem dX12_command_33 : decode cX12_command 33 = .ok (.getfield 424, 3) := by decide +kernel
theorem dX12_command_36 : decode cX12_command 36 = .ok (.iload_n 1, 1) := by decide +kernel
theorem dX12_command_37 : decode cX12_command 37 = .ok (.iaload, 1) := by decide +kernel
theorem dX12_command_38 : decode cX12_command 38 = .ok (.iconst 4, 1) := by decide +kernel
theorem dX12_command_39 : decode cX12_command 39 = .ok (.if_icmp .ne 5, 3) := by decide +kernel
theorem dX12_command_44 : decode cX12_command 44 = .ok (.iconst 4, 1) := by decide +kernel
theorem dX12_command_45 : decode cX12_command 45 = .ok (.iload_n 1, 1) := by decide +kernel
theorem dX12_command_46 : decode cX12_command 46 = .ok (.imul, 1) := by decide +kernel
theorem dX12_command_47 : decode cX12_command 47 = .ok (.aload_n 0, 1) := by decide +kernel
theorem dX12_command_48 : decode cX12_command 48 = .ok (.getfield 424, 3) := by decide +kernel
theorem dX12_command_51 : decode cX12_command 51 = .ok (.iload_n 1, 1) := by decide +kernel
theorem dX12_command_52 : decode cX12_command 52 = .ok (.iaload, 1) := by decide +kernel
theorem dX12_command_53 : decode cX12_command 53 = .ok (.iadd, 1) := by decide +kernel
theorem dX12_command_54 : decode cX12_command 54 = .ok (.istore 4, 2) := by decide +kernel
theorem dX12_command_56 : decode cX12_command 56 = .ok (.aload_n 0, 1) := by decide +kernel
theorem dX12_command_57 : decode cX12_command 57 = .ok (.getfield 427, 3) := by decide +kernel
theorem dX12_command_60 : decode cX12_command 60 = .ok (.iload 4, 2) := by decide +kernel
theorem dX12_command_62 : decode cX12_command 62 = .ok (.iload_n 2, 1) := by decide +kernel
theorem dX12_command_63 : decode cX12_command 63 = .ok (.iastore, 1) := by decide +kernel
theorem dX12_command_64 : decode cX12_command 64 = .ok (.aload_n 0, 1) := by decide +kernel
theorem dX12_command_65 : decode cX12_command 65 = .ok (.getfield 430, 3) := by decide +kernel
theorem dX12_command_68 : decode cX12_command 68 = .ok (.iload 4, 2) := by decide +kernel
theorem dX12_command_70 : decode cX12_command 70 = .ok (.iload_n 3, 1) := by decide +kernel
theorem dX12_command_71 : decode cX12_command 71 = .ok (.iastore, 1) := by decide +kernel
theorem dX12_command_72 : decode cX12_command 72 = .ok (.aload_n 0, 1) := by decide +kernel
theorem dX12_command_73 : decode cX12_command 73 = .ok (.getfield 424, 3) := by decide +kernel
theorem dX12_command_76 : decode cX12_command 76 = .ok (.iload_n 1, 1) := by decide +kernel
theorem dX12_command_77 : decode cX12_command 77 = .ok (.dup2, 1) := by decide +kernel
theorem dX12_command_78 : decode cX12_command 78 = .ok (.iaload, 1) := by decide +kernel
theorem dX12_command_79 : decode cX12_command 79 = .ok (.iconst 1, 1) := by decide +kernel
theorem dX12_command_80 : decode cX12_command 80 = .ok (.iadd, 1) := by decide +kernel
theorem dX12_command_81 : decode cX12_command 81 = .ok (.iastore, 1) := by decide +kernel
theorem dX12_command_82 : decode cX12_command 82 = .ok (.iconst 1, 1) := by decide +kernel
theorem dX12_command_83 : decode cX12_command 83 = .ok (.ireturn, 1) := by decide +kernel
theorem dX12_start_0 : decode cX12_start 0 = .ok (.aload_n 0, 1) := by decide +kernel
theorem dX12_start_1 : decode cX12_start 1 = .ok (.invokevirtual 174, 3) := by decide +kernel
theorem dX12_start_4 : decode cX12_start 4 = .ok (.ifCond .eq 5, 3) := by decide +kernel
theorem dX12_start_9 : decode cX12_start 9 = .ok (.aload_n 0, 1) := by decide +kernel
theorem dX12_start_10 : decode cX12_start 10 = .ok (.iload_n 1, 1) := by decide +kernel
theorem dX12_start_11 : decode cX12_start 11 = .ok (.iconst 1, 1) := by decide +kernel
theorem dX12_start_12 : decode cX12_start 12 = .ok (.if_icmp .lt 8, 3) := by decide +kernel
theorem dX12_start_20 : decode cX12_start 20 = .ok (.iconst 2, 1) := by decide +kernel
theorem dX12_start_21 : decode cX12_start 21 = .ok (.goto 4, 3) := by decide +kernel
theorem dX12_start_25 : decode cX12_start 25 = .ok (.invokevirtual 171, 3) := by decide +kernel
theorem dX12_start_28 : decode cX12_start 28 = .ok (.ifCond .eq 5, 3) := by decide +kernel
theorem dX12_start_31 : decode cX12_start 31 = .ok (.iconst 0, 1) := by decide +kernel
theorem dX12_start_32 : decode cX12_start 32 = .ok (.ireturn, 1) := by decide +kernel
theorem dX12_start_15 : decode cX12_start 15 = .ok (.iload_n 1, 1) := by decide +kernel
theorem dX12_start_16 : decode cX12_start 16 = .ok (.iconst 3, 1) := by decide +kernel
theorem dX12_start_17 : decode cX12_start 17 = .ok (.if_icmp .le 7, 3) := by decide +kernel
theorem dX12_start_24 : decode cX12_start 24 = .ok (.iconst 0, 1) := by decide +kernel
theorem dX12_start_33 : decode cX12_start 33 = .ok (.aload_n 0, 1) := by decide +kernel
theorem dX12_start_34 : decode cX12_start 34 = .ok (.iload_n 1, 1) := by decide +kernel
theorem dX12_start_35 : decode cX12_start 35 = .ok (.putfield 507, 3) := by decide +kernel
theorem dX12_start_38 : decode cX12_start 38 = .ok (.aload_n 0, 1) := by decide +kernel
theorem dX12_start_39 : decode cX12_start 39 = .ok (.iconst 0, 1) := by decide +kernel
theorem dX12_start_40 : decode cX12_start 40 = .ok (.putfield 516, 3) := by decide +kernel
theorem dX12_start_43 : decode cX12_start 43 = .ok (.aload_n 0, 1) := by decide +kernel
theorem dX12_start_44 : decode cX12_start 44 = .ok (.iconst 0, 1) := by decide +kernel
theorem dX12_start_45 : decode cX12_start 45 = .ok (.putfield 504, 3) := by decide +kernel
theorem dX12_start_48 : decode cX12_start 48 = .ok (.aload_n 0, 1) := by decide +kernel
theorem dX12_start_49 : decode cX12_start 49 = .ok (.iconst 0, 1) := by decide +kernel
theorem dX12_start_50 : decode cX12_start 50 = .ok (.putfield 510, 3) := by decide +kernel
theorem dX12_start_53 : decode cX12_start 53 = .ok (.aload_n 0, 1) := by decide +kernel
theorem dX12_start_54 : decode cX12_start 54 = .ok (.iconst 0, 1) := by decide +kernel
theorem dX12_start_55 : decode cX12_start 55 = .ok (.putfield 460, 3) := by decide +kernel
theorem dX12_start_58 : decode cX12_start 58 = .ok (.iconst 0, 1) := by decide +kernel
theorem dX12_start_59 : decode cX12_start 59 = .ok (.istore_n 2, 1) := by decide +kernel
theorem dX12_start_60 : decode cX12_start 60 = .ok (.iload_n 2, 1) := by decide +kernel
theorem dX12_start_61 : decode cX12_start 61 = .ok (.aload_n 0, 1) := by decide +kernel
theorem dX12_start_62 : decode cX12_start 62 = .ok (.getfield 165, 3) := by decide +kernel
theorem dX12_start_65 : decode cX12_start 65 = .ok (.if_icmp .ge 16, 3) := by decide +kernel
theorem dX12_start_81 : decode cX12_start 81 = .ok (.aload_n 0, 1) := by decide +kernel
theorem dX12_start_82 : decode cX12_start 82 = .ok (.iconst 1, 1) := by decide +kernel
theorem dX12_start_83 : decode cX12_start 83 = .ok (.putfield 168, 3) := by decide +kernel
theorem dX12_start_86 : decode cX12_start 86 = .ok (.aload_n 0, 1) := by decide +kernel
theorem dX12_start_87 : decode cX12_start 87 = .ok (.iconst 0, 1) := by decide +kernel
theorem dX12_start_88 : decode cX12_start 88 = .ok (.aload_n 0, 1) := by decide +kernel
theorem dX12_start_89 : decode cX12_start 89 = .ok (.invokevirtual 421, 3) := by decide +kernel
theorem dX12_start_92 : decode cX12_start 92 = .ok (.iload_n 1, 1) := by decide +kernel
theorem dX12_start_93 : decode cX12_start 93 = .ok (.iconst 0, 1) := by decide +kernel
theorem dX12_start_94 : decode cX12_start 94 = .ok (.invokevirtual 513, 3) := by decide +kernel
theorem dX12_start_97 : decode cX12_start 97 = .ok (.aload_n 0, 1) := by decide +kernel
theorem dX12_start_98 : decode cX12_start 98 = .ok (.invokevirtual 421, 3) := by decide +kernel
theorem dX12_start_101 : decode cX12_start 101 = .ok (.istore_n 2, 1) := by decide +kernel
theorem dX12_start_102 : decode cX12_start 102 = .ok (.aload_n 0, 1) := by decide +kernel
theorem dX12_start_103 : decode cX12_start 103 = .ok (.invokevirtual 519, 3) := by decide +kernel
theorem dX12_start_106 : decode cX12_start 106 = .ok (.aload_n 0, 1) := by decide +kernel
theorem dX12_start_107 : decode cX12_start 107 = .ok (.invokevirtual 522, 3) := by decide +kernel
theorem dX12_start_110 : decode cX12_start 110 = .ok (.iload_n 2, 1) := by decide +kernel
theorem dX12_start_111 : decode cX12_start 111 = .ok (.ireturn, 1) := by decide +kernel
theorem dX12_go_0 : decode cX12_go 0 = .ok (.aload_n 0, 1) := by decide +kernel
theorem dX12_go_1 : decode cX12_go 1 = .ok (.iconst 0, 1) := by decide +kernel
theorem dX12_go_2 : decode cX12_go 2 = .ok (.putfield 1, 3) := by decide +kernel
theorem dX12_go_5 : decode cX12_go 5 = .ok (.iload_n 1, 1) := by decide +kernel
theorem dX12_go_6 : decode cX12_go 6 = .ok (.iconst 1, 1) := by decide +kernel
theorem dX12_go_7 : decode cX12_go 7 = .ok (.if_icmp .lt 9, 3) := by decide +kernel
theorem dX12_go_16 : decode cX12_go 16 = .ok (.iconst (-1), 1) := by decide +kernel
theorem dX12_go_17 : decode cX12_go 17 = .ok (.ireturn, 1) := by decide +kernel
theorem dX12_go_10 : decode cX12_go 10 = .ok (.iload_n 1, 1) := by decide +kernel
theorem dX12_go_11 : decode cX12_go 11 = .ok (.bipush 40, 2) := by decide +kernel
theorem dX12_go_13 : decode cX12_go 13 = .ok (.if_icmp .le 5, 3) := by decide +kernel
theorem dX12_go_18 : decode cX12_go 18 = .ok (.iconst 0, 1) := by decide +kernel
theorem dX12_go_19 : decode cX12_go 19 = .ok (.istore_n 2, 1) := by decide +kernel
theorem dX12_go_20 : decode cX12_go 20 = .ok (.iload_n 2, 1) := by decide +kernel
theorem dX12_go_21 : decode cX12_go 21 = .ok (.iload_n 1, 1) := by decide +kernel
theorem dX12_go_22 : decode cX12_go 22 = .ok (.if_icmp .ge 94, 3) := by decide +kernel
theorem dX12_go_25 : decode cX12_go 25 = .ok (.aload_n 0, 1) := by decide +kernel
theorem dX12_go_26 : decode cX12_go 26 = .ok (.getfield 168, 3) := by decide +kernel
theorem dX12_go_29 : decode cX12_go 29 = .ok (.ifCond .eq 87, 3) := by decide +kernel
theorem dX12_go_116 : decode cX12_go 116 = .ok (.iload_n 2, 1) := by decide +kernel
theorem dX12_go_117 : decode cX12_go 117 = .ok (.ireturn, 1) := by decide +kernel
theorem dX12_event_0 : decode cX12_event 0 = .ok (.aload_n 0, 1) := by decide +kernel
theorem dX12_event_1 : decode cX12_event 1 = .ok (.iconst 0, 1) := by decide +kernel
theorem dX12_event_2 : decode cX12_event 2 = .ok (.putfield 1, 3) := by decide +kernel
theorem dX12_event_5 : decode cX12_event 5 = .ok (.iload_n 1, 1) := by decide +kernel
theorem dX12_event_6 : decode cX12_event 6 = .ok (.ifCond .lt 26, 3) := by decide +kernel
theorem dX12_event_32 : decode cX12_event 32 = .ok (.iconst (-1), 1) := by decide +kernel
theorem dX12_event_33 : decode cX12_event 33 = .ok (.goto 23, 3) := by decide +kernel
theorem dX12_event_56 : decode cX12_event 56 = .ok (.ireturn, 1) := by decide +kernel
theorem dX12_event_9 : decode cX12_event 9 = .ok (.iload_n 1, 1) := by decide +kernel
theorem dX12_event_10 : decode cX12_event 10 = .ok (.bipush 63, 2) := by decide +kernel
theorem dX12_event_12 : decode cX12_event 12 = .ok (.if_icmp .gt 20, 3) := by decide +kernel
theorem dX12_event_15 : decode cX12_event 15 = .ok (.iload_n 1, 1) := by decide +kernel
theorem dX12_event_16 : decode cX12_event 16 = .ok (.aload_n 0, 1) := by decide +kernel
theorem dX12_event_17 : decode cX12_event 17 = .ok (.getfield 501, 3) := by decide +kernel
theorem dX12_event_20 : decode cX12_event 20 = .ok (.if_icmp .ge 12, 3) := by decide +kernel
theorem dX12_world_0 : decode cX12_world 0 = .ok (.aload_n 0, 1) := by decide +kernel
theorem dX12_world_1 : decode cX12_world 1 = .ok (.iconst 0, 1) := by decide +kernel
theorem dX12_world_2 : decode cX12_world 2 = .ok (.putfield 1, 3) := by decide +kernel
theorem dX12_world_5 : decode cX12_world 5 = .ok (.iload_n 1, 1) := by decide +kernel
theorem dX12_world_6 : decode cX12_world 6 = .ok (.ifCond .lt 30, 3) := by decide +kernel
theorem dX12_world_36 : decode cX12_world 36 = .ok (.dconst 0, 1) := by decide +kernel
theorem dX12_world_37 : decode cX12_world 37 = .ok (.goto 9, 3) := by decide +kernel
theorem dX12_world_46 : decode cX12_world 46 = .ok (.dreturn, 1) := by decide +kernel
theorem dX12_world_9 : decode cX12_world 9 = .ok (.iload_n 1, 1) := by decide +kernel
theorem dX12_world_10 : decode cX12_world 10 = .ok (.iconst 2, 1) := by decide +kernel
theorem dX12_world_11 : decode cX12_world 11 = .ok (.if_icmp .gt 25, 3) := by decide +kernel
theorem dX12_world_14 : decode cX12_world 14 = .ok (.aload_n 0, 1) := by decide +kernel
theorem dX12_world_15 : decode cX12_world 15 = .ok (.getfield 492, 3) := by decide +kernel
theorem dX12_world_18 : decode cX12_world 18 = .ok (.iload_n 1, 1) := by decide +kernel
theorem dX12_world_19 : decode cX12_world 19 = .ok (.ifCond .lt 8, 3) := by decide +kernel
theorem dX12_world_22 : decode cX12_world 22 = .ok (.iload_n 1, 1) := by decide +kernel
theorem dX12_world_23 : decode cX12_world 23 = .ok (.iconst 2, 1) := by decide +kernel
theorem dX12_world_24 : decode cX12_world 24 = .ok (.if_icmp .le 7, 3) := by decide +kernel
theorem dX12_world_31 : decode cX12_world 31 = .ok (.iload_n 1, 1) := by decide +kernel
theorem dX12_world_32 : decode cX12_world 32 = .ok (.iaload, 1) := by decide +kernel
theorem dX12_world_33 : decode cX12_world 33 = .ok (.ifCond .ge 7, 3) := by decide +kernel
theorem dX12_look_0 : decode cX12_look 0 = .ok (.aload_n 0, 1) := by decide +kernel
theorem dX12_look_1 : decode cX12_look 1 = .ok (.iconst 0, 1) := by decide +kernel
theorem dX12_look_2 : decode cX12_look 2 = .ok (.putfield 1, 3) := by decide +kernel
theorem dX12_look_5 : decode cX12_look 5 = .ok (.iload_n 1, 1) := by decide +kernel
theorem dX12_look_6 : decode cX12_look 6 = .ok (.iconst 4, 1) := by decide +kernel
theorem dX12_look_7 : decode cX12_look 7 = .ok (.if_icmp .ge 60, 3) := by decide +kernel
theorem dX12_look_67 : decode cX12_look 67 = .ok (.iload_n 1, 1) := by decide +kernel
theorem dX12_look_68 : decode cX12_look 68 = .ok (.iconst 4, 1) := by decide +kernel
theorem dX12_look_69 : decode cX12_look 69 = .ok (.if_icmp .ne 10, 3) := by decide +kernel
theorem dX12_look_79 : decode cX12_look 79 = .ok (.iload_n 1, 1) := by decide +kernel
theorem dX12_look_80 : decode cX12_look 80 = .ok (.iconst 5, 1) := by decide +kernel
theorem dX12_look_81 : decode cX12_look 81 = .ok (.if_icmp .ne 10, 3) := by decide +kernel
theorem dX12_look_91 : decode cX12_look 91 = .ok (.iload_n 1, 1) := by decide +kernel
theorem dX12_look_92 : decode cX12_look 92 = .ok (.bipush 6, 2) := by decide +kernel
theorem dX12_look_94 : decode cX12_look 94 = .ok (.if_icmp .ne 10, 3) := by decide +kernel
theorem dX12_look_104 : decode cX12_look 104 = .ok (.iload_n 1, 1) := by decide +kernel
theorem dX12_look_105 : decode cX12_look 105 = .ok (.bipush 7, 2) := by decide +kernel
theorem dX12_look_107 : decode cX12_look 107 = .ok (.if_icmp .ne 10, 3) := by decide +kernel
theorem dX12_look_117 : decode cX12_look 117 = .ok (.iconst (-1), 1) := by decide +kernel
theorem dX12_look_118 : decode cX12_look 118 = .ok (.ireturn, 1) := by decide +kernel
theorem dX12_look_110 : decode cX12_look 110 = .ok (.aload_n 0, 1) := by decide +kernel
theorem dX12_look_111 : decode cX12_look 111 = .ok (.getfield 57, 3) := by decide +kernel
theorem dX12_look_114 : decode cX12_look 114 = .ok (.goto 4, 3) := by decide +kernel
theorem dX12_look_97 : decode cX12_look 97 = .ok (.aload_n 0, 1) := by decide +kernel
theorem dX12_look_98 : decode cX12_look 98 = .ok (.getfield 501, 3) := by decide +kernel
theorem dX12_look_101 : decode cX12_look 101 = .ok (.goto 17, 3) := by decide +kernel
theorem dX12_look_84 : decode cX12_look 84 = .ok (.aload_n 0, 1) := by decide +kernel
theorem dX12_look_85 : decode cX12_look 85 = .ok (.getfield 33, 3) := by decide +kernel
theorem dX12_look_88 : decode cX12_look 88 = .ok (.goto 30, 3) := by decide +kernel
theorem dX12_look_72 : decode cX12_look 72 = .ok (.aload_n 0, 1) := by decide +kernel
theorem dX12_look_73 : decode cX12_look 73 = .ok (.getfield 404, 3) := by decide +kernel
theorem dX12_look_76 : decode cX12_look 76 = .ok (.goto 42, 3) := by decide +kernel
theorem dX12_look_10 : decode cX12_look 10 = .ok (.iload_n 1, 1) := by decide +kernel
theorem dX12_look_11 : decode cX12_look 11 = .ok (.ifCond .ne 18, 3) := by decide +kernel
theorem dX12_look_29 : decode cX12_look 29 = .ok (.iload_n 1, 1) := by decide +kernel
theorem dX12_look_30 : decode cX12_look 30 = .ok (.iconst 1, 1) := by decide +kernel
theorem dX12_look_31 : decode cX12_look 31 = .ok (.if_icmp .ne 10, 3) := by decide +kernel
theorem dX12_look_41 : decode cX12_look 41 = .ok (.iload_n 1, 1) := by decide +kernel
theorem dX12_look_42 : decode cX12_look 42 = .ok (.iconst 2, 1) := by decide +kernel
theorem dX12_look_43 : decode cX12_look 43 = .ok (.if_icmp .ne 10, 3) := by decide +kernel
theorem dX12_look_53 : decode cX12_look 53 = .ok (.iload_n 1, 1) := by decide +kernel
theorem dX12_look_54 : decode cX12_look 54 = .ok (.iconst 3, 1) := by decide +kernel
theorem dX12_look_55 : decode cX12_look 55 = .ok (.if_icmp .ne 10, 3) := by decide +kernel
theorem dX12_look_65 : decode cX12_look 65 = .ok (.iconst (-1), 1) := by decide +kernel
theorem dX12_look_66 : decode cX12_look 66 = .ok (.ireturn, 1) := by decide +kernel
theorem dX12_look_58 : decode cX12_look 58 = .ok (.aload_n 0, 1) := by decide +kernel
theorem dX12_look_59 : decode cX12_look 59 = .ok (.getfield 308, 3) := by decide +kernel
theorem dX12_look_62 : decode cX12_look 62 = .ok (.goto 4, 3) := by decide +kernel
theorem dX12_look_46 : decode cX12_look 46 = .ok (.aload_n 0, 1) := by decide +kernel
theorem dX12_look_47 : decode cX12_look 47 = .ok (.getfield 165, 3) := by decide +kernel
theorem dX12_look_50 : decode cX12_look 50 = .ok (.goto 16, 3) := by decide +kernel
theorem dX12_look_34 : decode cX12_look 34 = .ok (.aload_n 0, 1) := by decide +kernel
theorem dX12_look_35 : decode cX12_look 35 = .ok (.getfield 7, 3) := by decide +kernel
theorem dX12_look_38 : decode cX12_look 38 = .ok (.goto 28, 3) := by decide +kernel
theorem dX12_look_14 : decode cX12_look 14 = .ok (.aload_n 0, 1) := by decide +kernel
theorem dX12_look_15 : decode cX12_look 15 = .ok (.getfield 168, 3) := by decide +kernel
theorem dX12_look_18 : decode cX12_look 18 = .ok (.ifCond .eq 7, 3) := by decide +kernel
theorem dX12_look_25 : decode cX12_look 25 = .ok (.iconst 0, 1) := by decide +kernel
theorem dX12_look_26 : decode cX12_look 26 = .ok (.goto 40, 3) := by decide +kernel
set_option maxRecDepth 20000 in
theorem ggX12_error_X12_throwsNow : GoodIn wsX12_error wsX12_throwsNow := goodIn_r _ [7, 8, 9, 10, 11, 12, 13, 14, 15, 16, 17, 18, 19, 20, 21, 22, 23, 24, 25, 26, 27, 28, 29, 30, 31, 32, 33, 34, 35, 36, 37, 38, 39, 40, 41, 42, 43, 44, 45, 46, 47, 48, 49, 50, 51, 52, 53, 54, 55, 56, 57, 58, 59, 60, 61, 62, 63, 64, 65, 66, 67, 68, 69, 70, 71, 72, 73, 74, 75, 76, 77, 78, 79, 80, 81, 82, 83, 84, 85, 86, 87, 88, 89, 90, 91, 92, 93, 94] (by decide +kernel) (by decide +kernel)
set_option maxRecDepth 20000 in
theorem gX12_error_X12_throwsNow : GoodIn wsX12_error (wsV RX12 171 RX12 yX12_throwsNow wsX12_throwsNow) := goodIn_app (goodIn_of _ (by decide +kernel)) ggX12_error_X12_throwsNow
set_option maxRecDepth 20000 in
theorem ggX12_story_X12_throwsNow : GoodIn wsX12_story wsX12_throwsNow := goodIn_r _ [12, 13, 28, 29, 30, 31, 32, 33, 34, 35, 36, 37, 38, 39, 40, 41, 42, 43, 44, 45, 46, 47, 48, 49, 50, 51, 52, 53, 54, 55, 56, 57, 58, 59, 60, 61, 62, 63, 64, 65, 66, 67, 68, 69, 70, 71, 72, 73, 74, 75, 76, 77, 78, 79, 80, 81, 82, 83, 84, 85, 86, 87, 88, 89, 90, 91, 92, 93, 94, 95, 96, 97, 98, 99, 100, 101, 102, 103, 104, 105, 106, 107, 108, 109, 110, 111, 112, 113] (by decide +kernel) (by decide +kernel)
set_option maxRecDepth 20000 in
theorem gX12_story_X12_throwsNow : GoodIn wsX12_story (wsV RX12 171 RX12 yX12_throwsNow wsX12_throwsNow) := goodIn_app (goodIn_of _ (by decide +kernel)) ggX12_story_X12_throwsNow
set_option maxRecDepth 20000 in
theorem ggX12_step__X12_isStep : GoodIn wsX12_step_ wsX12_isStep := goodIn_r _ [10, 11, 12, 13, 14, 9, 15, 16, 17, 18, 19, 20, 21, 22, 23, 24, 25, 26, 160, 161, 162, 163, 164, 165, 166, 167, 168, 169, 170, 171, 172, 173, 174, 175, 176, 177, 178, 179, 180, 181, 182, 183, 184, 185, 186, 187, 188, 189, 190, 191, 192, 193, 194, 195, 196, 197, 198, 199, 200, 201, 202, 203, 204, 205, 206, 207, 208, 209, 210, 211, 212, 213, 214, 215, 216, 217, 218, 219, 220, 221, 222, 223, 224, 225, 226, 227, 228, 229, 230, 231, 232, 233, 234, 235, 236, 237, 238, 239, 240, 241, 242, 243, 244, 245] (by decide +kernel) (by decide +kernel)
set_option maxRecDepth 20000 in
theorem gX12_step__X12_isStep : GoodIn wsX12_step_ (wsV RX12 554 RX12 yX12_isStep wsX12_isStep) := goodIn_app (goodIn_of _ (by decide +kernel)) ggX12_step__X12_isStep
set_option maxRecDepth 20000 in
theorem ggX12_step__X12_throwsNow : GoodIn wsX12_step_ wsX12_throwsNow := goodIn_r _ [30, 31, 160, 161, 162, 163, 164, 165, 166, 167, 168, 169, 170, 171, 172, 173, 174, 175, 176, 177, 178, 179, 180, 181, 182, 183, 184, 185, 186, 187, 188, 189, 190, 191, 192, 193, 194, 195, 196, 197, 198, 199, 200, 201, 202, 203, 204, 205, 206, 207, 208, 209, 210, 211, 212, 213, 214, 215, 216, 217, 218, 219, 220, 221, 222, 223, 224, 225, 226, 227, 228, 229, 230, 231, 232, 233, 234, 235, 236, 237, 238, 239, 240, 241, 242, 243, 244, 245] (by decide +kernel) (by decide +kernel)
set_option maxRecDepth 20000 in
theorem gX12_step__X12_throwsNow : GoodIn wsX12_step_ (wsV RX12 171 RX12 yX12_throwsNow wsX12_throwsNow) := goodIn_app (goodIn_of _ (by decide +kernel)) ggX12_step__X12_throwsNow
set_option maxRecDepth 20000 in
theorem ggX12_argument_X12_isStep : GoodIn wsX12_argument wsX12_isStep := goodIn_r _ [8, 9, 10, 11, 12, 7, 13, 14, 15, 16, 17, 18, 19, 20, 21, 22, 23, 24, 157, 158, 159, 160, 161, 162, 163, 164, 165, 166, 167, 168, 169, 170, 171, 172, 173, 174, 175, 176, 177, 178, 179, 180, 181, 182, 183, 184, 185, 186, 187, 188, 189, 190, 191, 192, 193, 194, 195, 196, 197, 198, 199, 200, 201, 202, 203, 204, 205, 206, 207, 208, 209, 210, 211, 212, 213, 214, 215, 216, 217, 218, 219, 220, 221, 222, 223, 224, 225, 226, 227, 228, 229, 230, 231, 232, 233, 234, 235, 236, 237, 238, 239, 240, 241, 242] (by decide +kernel) (by decide +kernel)
set_option maxRecDepth 20000 in
theorem gX12_argument_X12_isStep : GoodIn wsX12_argument (wsV RX12 554 RX12 yX12_isStep wsX12_isStep) := goodIn_app (goodIn_of _ (by decide +kernel)) ggX12_argument_X12_isStep
set_option maxRecDepth 20000 in
theorem ggX12_argument_X12_throwsNow : GoodIn wsX12_argument wsX12_throwsNow := goodIn_r _ [28, 29, 157, 158, 159, 160, 161, 162, 163, 164, 165, 166, 167, 168, 169, 170, 171, 172, 173, 174, 175, 176, 177, 178, 179, 180, 181, 182, 183, 184, 185, 186, 187, 188, 189, 190, 191, 192, 193, 194, 195, 196, 197, 198, 199, 200, 201, 202, 203, 204, 205, 206, 207, 208, 209, 210, 211, 212, 213, 214, 215, 216, 217, 218, 219, 220, 221, 222, 223, 224, 225, 226, 227, 228, 229, 230, 231, 232, 233, 234, 235, 236, 237, 238, 239, 240, 241, 242] (by decide +kernel) (by decide +kernel)
set_option maxRecDepth 20000 in
theorem gX12_argument_X12_throwsNow : GoodIn wsX12_argument (wsV RX12 171 RX12 yX12_throwsNow wsX12_throwsNow) := goodIn_app (goodIn_of _ (by decide +kernel)) ggX12_argument_X12_throwsNow
set_option maxRecDepth 20000 in
theorem ggX12_cell_X12_isStep : GoodIn wsX12_cell wsX12_isStep := goodIn_r _ [10, 11, 12, 13, 14, 9, 15, 16, 17, 18, 19, 20, 21, 22, 23, 24, 25, 26, 63, 64, 65, 66, 67, 68, 69, 70, 71, 72, 73, 74, 75, 76, 77, 78, 79, 80, 81, 82, 83, 84, 85, 86, 87, 88, 89, 90, 91, 92, 93, 94, 95, 96, 97, 98, 99, 100, 101, 102, 103, 104, 105, 106, 107, 108, 109, 110, 111, 112, 113, 114, 115, 116, 117, 118, 119, 120, 121, 122, 123, 124, 125, 126, 127, 128, 129, 130, 131, 132, 133, 134, 135, 136, 137, 138, 139, 140, 141, 142, 143, 144, 145, 146, 147, 148] (by decide +kernel) (by decide +kernel)
set_option maxRecDepth 20000 in
theorem gX12_cell_X12_isStep : GoodIn wsX12_cell (wsV RX12 554 RX12 yX12_isStep wsX12_isStep) := goodIn_app (goodIn_of _ (by decide +kernel)) ggX12_cell_X12_isStep
set_option maxRecDepth 20000 in
theorem ggX12_cell_X12_throwsNow : GoodIn wsX12_cell wsX12_throwsNow := goodIn_r _ [30, 31, 63, 64, 65, 66, 67, 68, 69, 70, 71, 72, 73, 74, 75, 76, 77, 78, 79, 80, 81, 82, 83, 84, 85, 86, 87, 88, 89, 90, 91, 92, 93, 94, 95, 96, 97, 98, 99, 100, 101, 102, 103, 104, 105, 106, 107, 108, 109, 110, 111, 112, 113, 114, 115, 116, 117, 118, 119, 120, 121, 122, 123, 124, 125, 126, 127, 128, 129, 130, 131, 132, 133, 134, 135, 136, 137, 138, 139, 140, 141, 142, 143, 144, 145, 146, 147, 148] (by decide +kernel) (by decide +kernel)
set_option maxRecDepth 20000 in
theorem gX12_cell_X12_throwsNow : GoodIn wsX12_cell (wsV RX12 171 RX12 yX12_throwsNow wsX12_throwsNow) := goodIn_app (goodIn_of _ (by decide +kernel)) ggX12_cell_X12_throwsNow
set_option maxRecDepth 20000 in
theorem ggX12_define_X12_busy : GoodIn wsX12_define wsX12_busy := goodIn_r _ [11, 12, 13, 14, 15, 10, 16, 17, 64, 65, 66, 67, 68, 69, 70, 71, 72, 73, 74, 75, 76, 77, 78, 79, 80, 81, 82, 83, 84, 85, 86, 87, 88, 89, 90, 91, 92, 93, 94, 95, 96, 97, 98, 99, 100, 101, 102, 103, 104, 105, 106, 107, 108, 109, 110, 111, 112, 113, 114, 115, 116, 117, 118, 119, 120, 121, 122, 123, 124, 125, 126, 127, 128, 129, 130, 131, 132, 133, 134, 135, 136, 137, 138, 139, 140, 141, 142, 143, 144, 145, 146, 147, 148, 149] (by decide +kernel) (by decide +kernel)
set_option maxRecDepth 20000 in
theorem gX12_define_X12_busy : GoodIn wsX12_define (wsV RX12 174 RX12 yX12_busy wsX12_busy) := goodIn_app (goodIn_of _ (by decide +kernel)) ggX12_define_X12_busy
set_option maxRecDepth 20000 in
theorem ggX12_define_X12_parse : GoodIn wsX12_define wsX12_parse := goodIn_r _ [21, 22, 23, 24, 25, 26, 27, 28, 29, 30, 10, 31, 32, 33, 34, 35, 36, 37, 38, 39, 40, 41, 42, 43, 44, 45, 46, 47, 48, 49, 50, 51, 52, 53, 54, 55, 56, 57, 58, 59, 60, 61, 62, 63, 64, 65, 66, 67, 68, 69, 70, 71, 72, 73, 74, 75, 76, 77, 78, 79, 80, 81, 82, 83, 84, 85, 86, 87, 88, 89, 90, 91, 92, 93, 94, 95, 96, 97, 98, 99, 100, 101, 102, 103, 104, 105, 106, 107, 108, 109, 110, 111, 112, 113, 114, 115, 116, 117, 118, 119, 120, 121, 122, 123, 124, 125, 126, 127, 128, 129, 130, 131, 132, 133, 134, 135, 136, 137, 138, 139, 140, 141, 142, 143, 144, 145, 146, 147, 148, 149] (by decide +kernel) (by decide +kernel)
set_option maxRecDepth 20000 in
theorem gX12_define_X12_parse : GoodIn wsX12_define (wsV RX12 304 RX12 yX12_parse wsX12_parse) := goodIn_app (goodIn_of _ (by decide +kernel)) ggX12_define_X12_parse
set_option maxRecDepth 20000 in
theorem ggX12_define_X12_throwsNow : GoodIn wsX12_define wsX12_throwsNow := goodIn_r _ [16, 17, 64, 65, 66, 67, 68, 69, 70, 71, 72, 73, 74, 75, 76, 77, 78, 79, 80, 81, 82, 83, 84, 85, 86, 87, 88, 89, 90, 91, 92, 93, 94, 95, 96, 97, 98, 99, 100, 101, 102, 103, 104, 105, 106, 107, 108, 109, 110, 111, 112, 113, 114, 115, 116, 117, 118, 119, 120, 121, 122, 123, 124, 125, 126, 127, 128, 129, 130, 131, 132, 133, 134, 135, 136, 137, 138, 139, 140, 141, 142, 143, 144, 145, 146, 147, 148, 149] (by decide +kernel) (by decide +kernel)
set_option maxRecDepth 20000 in
theorem gX12_define_X12_throwsNow : GoodIn wsX12_define (wsV RX12 171 RX12 yX12_throwsNow wsX12_throwsNow) := goodIn_app (goodIn_of _ (by decide +kernel)) ggX12_define_X12_throwsNow
set_option maxRecDepth 20000 in
theorem ggX12_hook_X12_busy : GoodIn wsX12_hook wsX12_busy := goodIn_r _ [11, 12, 13, 14, 15, 10, 16, 4, 50, 51, 52, 53, 54, 55, 56, 57, 58, 59, 60, 61, 62, 63, 64, 65, 66, 67, 68, 69, 70, 71, 72, 73, 74, 75, 76, 77, 78, 79, 80, 81, 82, 83, 84, 85, 86, 87, 88, 89, 90, 91, 92, 93, 94, 95, 96, 97, 98, 99, 100, 101, 102, 103, 104, 105, 106, 107, 108, 109, 110, 111, 112, 113, 114, 115, 116, 117, 118, 119, 120, 121, 122, 123, 124, 125, 126, 127, 128, 129, 130, 131, 132, 133, 134, 135] (by decide +kernel) (by decide +kernel)
set_option maxRecDepth 20000 in
theorem gX12_hook_X12_busy : GoodIn wsX12_hook (wsV RX12 174 RX12 yX12_busy wsX12_busy) := goodIn_app (goodIn_of _ (by decide +kernel)) ggX12_hook_X12_busy
set_option maxRecDepth 20000 in
theorem ggX12_hook_X12_test : GoodIn wsX12_hook wsX12_test := goodIn_r _ [20, 21, 22, 23, 24, 25, 26, 27, 10, 28, 29, 30, 31, 32, 33, 34, 35, 36, 37, 38, 39, 40, 41, 42, 43, 50, 51, 52, 53, 54, 55, 56, 57, 58, 59, 60, 61, 62, 63, 64, 65, 66, 67, 68, 69, 70, 71, 72, 73, 74, 75, 76, 77, 78, 79, 80, 81, 82, 83, 84, 85, 86, 87, 88, 89, 90, 91, 92, 93, 94, 95, 96, 97, 98, 99, 100, 101, 102, 103, 104, 105, 106, 107, 108, 109, 110, 111, 112, 113, 114, 115, 116, 117, 118, 119, 120, 121, 122, 123, 124, 125, 126, 127, 128, 129, 130, 131, 132, 133, 134, 135] (by decide +kernel) (by decide +kernel)
set_option maxRecDepth 20000 in
theorem gX12_hook_X12_test : GoodIn wsX12_hook (wsV RX12 400 RX12 yX12_test wsX12_test) := goodIn_app (goodIn_of _ (by decide +kernel)) ggX12_hook_X12_test
set_option maxRecDepth 20000 in
theorem ggX12_hook_X12_keep : GoodIn wsX12_hook wsX12_keep := goodIn_r _ [47, 48, 2, 49, 1, 50, 51, 52, 53, 54, 55, 56, 57, 58, 59, 60, 61, 62, 63, 64, 65, 66, 67, 68, 69, 70, 71, 72, 73, 74, 75, 76, 77, 78, 79, 80, 81, 82, 83, 84, 85, 86, 87, 88, 89, 90, 91, 92, 93, 94, 95, 96, 97, 98, 99, 100, 101, 102, 103, 104, 105, 106, 107, 108, 109, 110, 111, 112, 113, 114, 115, 116, 117, 118, 119, 120, 121, 122, 123, 124, 125, 126, 127, 128, 129, 130, 131, 132, 133, 134, 135] (by decide +kernel) (by decide +kernel)
set_option maxRecDepth 20000 in
theorem gX12_hook_X12_keep : GoodIn wsX12_hook (wsV RX12 407 RX12 yX12_keep wsX12_keep) := goodIn_app (goodIn_of _ (by decide +kernel)) ggX12_hook_X12_keep
set_option maxRecDepth 20000 in
theorem ggX12_filter_X12_busy : GoodIn wsX12_filter wsX12_busy := goodIn_r _ [8, 9, 10, 11, 12, 7, 13, 3, 57, 58, 59, 60, 61, 62, 63, 64, 65, 66, 67, 68, 69, 70, 71, 72, 73, 74, 75, 76, 77, 78, 79, 80, 81, 82, 83, 84, 85, 86, 87, 88, 89, 90, 91, 92, 93, 94, 95, 96, 97, 98, 99, 100, 101, 102, 103, 104, 105, 106, 107, 108, 109, 110, 111, 112, 113, 114, 115, 116, 117, 118, 119, 120, 121, 122, 123, 124, 125, 126, 127, 128, 129, 130, 131, 132, 133, 134, 135, 136, 137, 138, 139, 140, 141, 142] (by decide +kernel) (by decide +kernel)
set_option maxRecDepth 20000 in
theorem gX12_filter_X12_busy : GoodIn wsX12_filter (wsV RX12 174 RX12 yX12_busy wsX12_busy) := goodIn_app (goodIn_of _ (by decide +kernel)) ggX12_filter_X12_busy
set_option maxRecDepth 20000 in
theorem ggX12_filter_X12_test : GoodIn wsX12_filter wsX12_test := goodIn_r _ [17, 18, 19, 20, 21, 22, 23, 24, 7, 25, 26, 27, 28, 29, 30, 31, 32, 33, 34, 35, 36, 37, 38, 39, 40, 57, 58, 59, 60, 61, 62, 63, 64, 65, 66, 67, 68, 69, 70, 71, 72, 73, 74, 75, 76, 77, 78, 79, 80, 81, 82, 83, 84, 85, 86, 87, 88, 89, 90, 91, 92, 93, 94, 95, 96, 97, 98, 99, 100, 101, 102, 103, 104, 105, 106, 107, 108, 109, 110, 111, 112, 113, 114, 115, 116, 117, 118, 119, 120, 121, 122, 123, 124, 125, 126, 127, 128, 129, 130, 131, 132, 133, 134, 135, 136, 137, 138, 139, 140, 141, 142] (by decide +kernel) (by decide +kernel)
set_option maxRecDepth 20000 in
theorem gX12_filter_X12_test : GoodIn wsX12_filter (wsV RX12 400 RX12 yX12_test wsX12_test) := goodIn_app (goodIn_of _ (by decide +kernel)) ggX12_filter_X12_test
set_option maxRecDepth 20000 in
theorem ggX12_filter_X12_keep : GoodIn wsX12_filter wsX12_keep := goodIn_r _ [44, 45, 2, 46, 1, 57, 58, 59, 60, 61, 62, 63, 64, 65, 66, 67, 68, 69, 70, 71, 72, 73, 74, 75, 76, 77, 78, 79, 80, 81, 82, 83, 84, 85, 86, 87, 88, 89, 90, 91, 92, 93, 94, 95, 96, 97, 98, 99, 100, 101, 102, 103, 104, 105, 106, 107, 108, 109, 110, 111, 112, 113, 114, 115, 116, 117, 118, 119, 120, 121, 122, 123, 124, 125, 126, 127, 128, 129, 130, 131, 132, 133, 134, 135, 136, 137, 138, 139, 140, 141, 142] (by decide +kernel) (by decide +kernel)
set_option maxRecDepth 20000 in
theorem gX12_filter_X12_keep : GoodIn wsX12_filter (wsV RX12 407 RX12 yX12_keep wsX12_keep) := goodIn_app (goodIn_of _ (by decide +kernel)) ggX12_filter_X12_keep
set_option maxRecDepth 20000 in
theorem ggX12_filter_X12_wanted : GoodIn wsX12_filter wsX12_wanted := goodIn_r _ [50, 51, 52, 53, 54, 55, 7, 56, 46, 45, 14, 15, 16, 17, 18, 19, 20, 21, 22, 23, 24, 25, 26, 27, 28, 29, 30, 31, 32, 33, 34, 35, 36, 37, 38, 39, 40, 57, 58, 59, 60, 61, 62, 63, 64, 65, 66, 67, 68, 69, 70, 71, 72, 73, 74, 75, 76, 77, 78, 79, 80, 81, 82, 83, 84, 85, 86, 87, 88, 89, 90, 91, 92, 93, 94, 95, 96, 97, 98, 99, 100, 101, 102, 103, 104, 105, 106, 107, 108, 109, 110, 111, 112, 113, 114, 115, 116, 117, 118, 119, 120, 121, 122, 123, 124, 125, 126, 127, 128, 129, 130, 131, 132, 133, 134, 135, 136, 137, 138, 139, 140, 141, 142] (by decide +kernel) (by decide +kernel)
set_option maxRecDepth 20000 in
theorem gX12_filter_X12_wanted : GoodIn wsX12_filter (wsV RX12 421 RX12 yX12_wanted wsX12_wanted) := goodIn_app (goodIn_of _ (by decide +kernel)) ggX12_filter_X12_wanted
set_option maxRecDepth 20000 in
theorem ggX12_start_X12_busy : GoodIn wsX12_start wsX12_busy := goodIn_r _ [13, 8, 14, 15, 16, 12, 17, 18, 72, 73, 74, 75, 76, 77, 78, 79, 80, 81, 82, 83, 84, 85, 86, 87, 88, 89, 90, 91, 92, 93, 94, 95, 96, 97, 98, 99, 100, 101, 102, 103, 104, 105, 106, 107, 108, 109, 110, 111, 112, 113, 114, 115, 116, 117, 118, 119, 120, 121, 122, 123, 124, 125, 126, 127, 128, 129, 130, 131, 132, 133, 134, 135, 136, 137, 138, 139, 140, 141, 142, 143, 144, 145, 146, 147, 148, 149, 150, 151, 152, 153, 154, 155, 156, 157] (by decide +kernel) (by decide +kernel)
set_option maxRecDepth 20000 in
theorem gX12_start_X12_busy : GoodIn wsX12_start (wsV RX12 174 RX12 yX12_busy wsX12_busy) := goodIn_app (goodIn_of _ (by decide +kernel)) ggX12_start_X12_busy
set_option maxRecDepth 20000 in
theorem ggX12_start_X12_throwsNow : GoodIn wsX12_start wsX12_throwsNow := goodIn_r _ [17, 18, 72, 73, 74, 75, 76, 77, 78, 79, 80, 81, 82, 83, 84, 85, 86, 87, 88, 89, 90, 91, 92, 93, 94, 95, 96, 97, 98, 99, 100, 101, 102, 103, 104, 105, 106, 107, 108, 109, 110, 111, 112, 113, 114, 115, 116, 117, 118, 119, 120, 121, 122, 123, 124, 125, 126, 127, 128, 129, 130, 131, 132, 133, 134, 135, 136, 137, 138, 139, 140, 141, 142, 143, 144, 145, 146, 147, 148, 149, 150, 151, 152, 153, 154, 155, 156, 157] (by decide +kernel) (by decide +kernel)
set_option maxRecDepth 20000 in
theorem gX12_start_X12_throwsNow : GoodIn wsX12_start (wsV RX12 171 RX12 yX12_throwsNow wsX12_throwsNow) := goodIn_app (goodIn_of _ (by decide +kernel)) ggX12_start_X12_throwsNow
set_option maxRecDepth 20000 in
theorem ggX12_start_X12_wanted : GoodIn wsX12_start wsX12_wanted := goodIn_r _ [22, 6, 23, 24, 25, 26, 12, 27, 28, 29, 30, 31, 32, 33, 34, 35, 36, 37, 38, 39, 40, 41, 42, 43, 44, 45, 46, 47, 48, 49, 50, 51, 52, 53, 54, 55, 56, 72, 73, 74, 75, 76, 77, 78, 79, 80, 81, 82, 83, 84, 85, 86, 87, 88, 89, 90, 91, 92, 93, 94, 95, 96, 97, 98, 99, 100, 101, 102, 103, 104, 105, 106, 107, 108, 109, 110, 111, 112, 113, 114, 115, 116, 117, 118, 119, 120, 121, 122, 123, 124, 125, 126, 127, 128, 129, 130, 131, 132, 133, 134, 135, 136, 137, 138, 139, 140, 141, 142, 143, 144, 145, 146, 147, 148, 149, 150, 151, 152, 153, 154, 155, 156, 157] (by decide +kernel) (by decide +kernel)
set_option maxRecDepth 20000 in
theorem gX12_start_X12_wanted : GoodIn wsX12_start (wsV RX12 421 RX12 yX12_wanted wsX12_wanted) := goodIn_app (goodIn_of _ (by decide +kernel)) ggX12_start_X12_wanted
set_option maxRecDepth 20000 in
theorem ggX12_start_X12_tell : GoodIn wsX12_start wsX12_tell := goodIn_r _ [60, 61, 62, 72, 73, 74, 75, 76, 77, 78, 79, 80, 81, 82, 83, 84, 85, 86, 87, 88, 89, 90, 91, 92, 93, 94, 95, 96, 97, 98, 99, 100, 101, 102, 103, 104, 105, 106, 107, 108, 109, 110, 111, 112, 113, 114, 115, 116, 117, 118, 119, 120, 121, 122, 123, 124, 125, 126, 127, 128, 129, 130, 131, 132, 133, 134, 135, 136, 137, 138, 139, 140, 141, 142, 143, 144, 145, 146, 147, 148, 149, 150, 151, 152, 153, 154, 155, 156, 157] (by decide +kernel) (by decide +kernel)
set_option maxRecDepth 20000 in
theorem gX12_start_X12_tell : GoodIn wsX12_start (wsV RX12 513 RX12 yX12_tell wsX12_tell) := goodIn_app (goodIn_of _ (by decide +kernel)) ggX12_start_X12_tell
set_option maxRecDepth 20000 in
theorem ggX12_start_X12_seek : GoodIn wsX12_start wsX12_seek := goodIn_r _ [66, 3, 6, 23, 24, 25, 26, 12, 27, 28, 29, 30, 31, 32, 33, 34, 35, 36, 37, 38, 39, 40, 41, 42, 43, 44, 45, 46, 47, 48, 49, 50, 51, 52, 53, 54, 55, 56, 72, 73, 74, 75, 76, 77, 78, 79, 80, 81, 82, 83, 84, 85, 86, 87, 88, 89, 90, 91, 92, 93, 94, 95, 96, 97, 98, 99, 100, 101, 102, 103, 104, 105, 106, 107, 108, 109, 110, 111, 112, 113, 114, 115, 116, 117, 118, 119, 120, 121, 122, 123, 124, 125, 126, 127, 128, 129, 130, 131, 132, 133, 134, 135, 136, 137, 138, 139, 140, 141, 142, 143, 144, 145, 146, 147, 148, 149, 150, 151, 152, 153, 154, 155, 156, 157] (by decide +kernel) (by decide +kernel)
set_option maxRecDepth 20000 in
theorem gX12_start_X12_seek : GoodIn wsX12_start (wsV RX12 519 RX12 yX12_seek wsX12_seek) := goodIn_app (goodIn_of _ (by decide +kernel)) ggX12_start_X12_seek
set_option maxRecDepth 20000 in
theorem ggX12_start_X12_settle : GoodIn wsX12_start wsX12_settle := goodIn_r _ [70, 3, 6, 1, 71, 8, 4, 5, 57, 58, 59, 12, 60, 61, 62, 72, 73, 74, 75, 76, 77, 78, 79, 80, 81, 82, 83, 84, 85, 86, 87, 88, 89, 90, 91, 92, 93, 94, 95, 96, 97, 98, 99, 100, 101, 102, 103, 104, 105, 106, 107, 108, 109, 110, 111, 112, 113, 114, 115, 116, 117, 118, 119, 120, 121, 122, 123, 124, 125, 126, 127, 128, 129, 130, 131, 132, 133, 134, 135, 136, 137, 138, 139, 140, 141, 142, 143, 144, 145, 146, 147, 148, 149, 150, 151, 152, 153, 154, 155, 156, 157] (by decide +kernel) (by decide +kernel)
set_option maxRecDepth 20000 in
theorem gX12_start_X12_settle : GoodIn wsX12_start (wsV RX12 522 RX12 yX12_settle wsX12_settle) := goodIn_app (goodIn_of _ (by decide +kernel)) ggX12_start_X12_settle
set_option maxHeartbeats 4000000 in
set_option maxRecDepth 100000 in
/-- what was thrown -/
theorem c_X12_thrown (l : Launch) (D : va_G) (h0 : Nat) (fs : List Value) (k : Int32) (sz : Nat) (hf : fs[0]? = some (.int k)) : Met l yX12_thrown wsX12_thrown ({ frames := 0, cells := 0, slots := 0, locals := 0 }) (va_Pc [.ref h0] (sj_B D [(h0, .inr (12, fs))] [] sz sj_n)) (sj_Qi (S := Unit) D (fun r _ => r = k) (fun u => []) (fun u => []) (va_A [(h0, .inr (12, fs))] sz)) 0 0 (va_A [(h0, .inr (12, fs))] sz) := by
  refine sj_met (cc := cX12_thrown) (maxL := 1) (ret := (some .int)) (by decide) rfl (Nat.le_of_ble_eq_true rfl) ?_
  intro p e s m below meth c A ls hx hb hr hml hts hown hlocks hnm hA hsz hS hH hK hE hl
  have hown : s.vm.findClass RX12 = some m.cls := hown
  have in12 : ∀ w ∈ wsX120, w ∈ wsX12_thrown := by decide +kernel
  have wd0 := hts (.fieldLink RX12 1 "StoryDeskModel" "thrown" "I") (by decide +kernel)
  have hl : lv_has ls 1 [(0, .ref h0)] := hl
  have hH : sj_H D A ([(h0, .inr (12, fs))] ++ []) s.heap := hH
  refine lv_aload_n hx hb dX12_thrown_0 rfl (lv_at hl 0 rfl) ?_
  refine va_get (D := D) (ci := 12) (v := .int k) (C := RX12) (T := TX12) (N := 86) hx hb hts in12 hown hK hH.1 0 rfl rfl 0 (by decide) wd0 (fun _ h9 => h9) hf dX12_thrown_1 ?_
  exact sj_zret hx hb hr hlocks rfl hS () rfl sj_nil (sj_Knil hK) (Nat.le_of_ble_eq_true rfl) (Nat.le_of_ble_eq_true rfl) dX12_thrown_4
set_option maxHeartbeats 4000000 in
set_option maxRecDepth 100000 in
theorem c_X12_error (l : Launch) (D : va_G) (h0 : Nat) (g : Nat → Nat) (th : Int32) (k : Int32) (what : Int32) (sz : Nat)  : Met l yX12_error wsX12_error ({ frames := 1, cells := 0, slots := 0, locals := 21 }) (va_Pc [.ref h0, .int k, .int what] (sj_B D [(h0, .inr (12, sj_M g th))] [] sz sj_n)) (sj_Qi (S := (List Value)) D (fun r u => u[0]? = some (.int 1)) (fun u => [(h0, .inr (12, u))]) (fun u => []) (va_A [(h0, .inr (12, sj_M g th))] sz)) 0 0 (va_A [(h0, .inr (12, sj_M g th))] sz) := by
  refine sj_met (cc := cX12_error) (maxL := 3) (ret := (some .int)) (by decide) rfl (Nat.le_of_ble_eq_true rfl) ?_
  intro p e s m below meth c A ls hx hb hr hml hts hown hlocks hnm hA hsz hS hH hK hE hl
  have hown : s.vm.findClass RX12 = some m.cls := hown
  have in12 : ∀ w ∈ wsX120, w ∈ wsX12_error := by decide +kernel
  have wd0 := hts (.fieldLink RX12 57 "StoryDeskModel" "wrongs" "I") (by decide +kernel)
  have hl : lv_has ls 3 [(0, .ref h0), (1, .int k), (2, .int what)] := hl
  have hH : sj_H D A ([(h0, .inr (12, sj_M g th))] ++ []) s.heap := hH
  refine lv_aload_n hx hb dX12_error_0 rfl (lv_at hl 0 rfl) ?_
  refine lv_iload_n hx hb dX12_error_1 rfl (lv_at hl 1 rfl) ?_
  refine lv_if_lt (tgt := 22) hx hb dX12_error_2 (by decide) (fun c_1 => ?_) (fun c_1 => ?_)
  · skip
    have d_2 := sj_ltF (n := 0) (by decide) c_1
    refine lv_iconst (v := 1) hx hb dX12_error_22 (by decide) ?_
    refine lv_goto (tgt := 27) hx hb dX12_error_23 (by decide) ?_
    refine sj_calli (wr := []) (va_runV (As := [.int 1]) (rest := []) ⟨hx, hb, hml, hown, hts⟩ (c_X12_throwsNow1 l D h0 g th 0 0 0 0 0 0 0 0 0 0 0 0 0 0 0 0 0 0 0 0 0 0 0 0 0 0 0 0 0 0 0 0 0 0 s.heap.size) (cwV 1 hts gX12_error_X12_throwsNow rfl rfl rfl (by decide +kernel) ⟨(Nat.le_of_ble_eq_true rfl), (Nat.le_of_ble_eq_true rfl)⟩) (sj_preV (q := (RX12, TX12, 86)) hH hK [0] rfl rfl [] rfl rfl rfl sj_bln sj_exn) rfl rfl hl.1 rfl (lv_room (Nat.le_of_ble_eq_true rfl)) dX12_error_27 ⟨(Nat.le_of_ble_eq_true rfl), (Nat.le_of_ble_eq_true rfl)⟩) hH hK hS hA [0] [] rfl rfl rfl rfl (by decide) rfl rfl (fun r_3 u_4 H locs hw_5 hH hK hS => ?_)
    have hH : sj_H D A ([(h0, .inr (12, sj_M g 1))] ++ []) H := hH
    have hK : va_K D vwCl [] s := by simpa using hK
    subst hw_5
    refine lv_if_eq (tgt := 37) hx hb dX12_error_30 (by decide) (fun h => absurd h (by decide)) (fun _ => ?_)
    refine lv_iconst (v := 0) hx hb dX12_error_33 (by decide) ?_
    refine lv_goto (tgt := 47) hx hb dX12_error_34 (by decide) ?_
    exact sj_zret hx hb hr hlocks rfl hS [.int 1, .ref (g 1), .int 0, .ref (g 3), .int 0, .ref (g 5), .int 0, .int 0, .int 0, .int 0, .int 0, .int 0, .ref (g 12), .int 0, .ref (g 14), .ref (g 15), .ref (g 16), .int 0, .int 0, .ref (g 19), .ref (g 20), .ref (g 21), .ref (g 22), .int 0, .ref (g 24), .ref (g 25), .int 0, .int 0, .ref (g 28), .ref (g 29), .ref (g 30), .ref (g 31), .ref (g 32), .int 0, .ref (g 34), .ref (g 35), .ref (g 36), .ref (g 37), .ref (g 38), .ref (g 39), .int 0, .int 0, .ref (g 42), .ref (g 43), .ref (g 44), .int 0, .ref (g 46), .ref (g 47), .ref (g 48), .int 0, .ref (g 50), .ref (g 51), .int 0, .ref (g 53), .int 0, .int 0, .ref (g 56), .int 0, .ref (g 58), .ref (g 59), .ref (g 60), .ref (g 61), .ref (g 62), .ref (g 63), .ref (g 64), .int 0, .int 0, .int 0, .ref (g 68), .ref (g 69), .ref (g 70), .ref (g 71), .ref (g 72), .ref (g 73), .int 0, .int 0, .int 0, .int 0, .int 0, .int 0, .int 0, .int 0, .ref (g 82), .ref (g 83), .ref (g 84), .ref (g 85)] rfl (sj_sub hH [0] rfl rfl) (sj_Knil hK) (Nat.le_of_ble_eq_true rfl) (Nat.le_of_ble_eq_true rfl) dX12_error_47
  · skip
    have d_7 := sj_nlt (n := 0) (by decide) c_1
    refine lv_iload_n hx hb dX12_error_5 rfl (lv_at hl 1 rfl) ?_
    refine lv_aload_n hx hb dX12_error_6 rfl (lv_at hl 0 rfl) ?_
    refine va_get (D := D) (ci := 12) (v := .int 0) (C := RX12) (T := TX12) (N := 86) hx hb hts in12 hown hK hH.1 0 rfl rfl 6 (by decide) wd0 (fun _ h9 => h9) rfl dX12_error_7 ?_
    refine lv_icmp_ge (tgt := 22) hx hb dX12_error_10 (by decide) (fun _ => ?_) (fun h => absurd (sj_geP (n := 0) (by decide) (by omega)) h)
    refine lv_iconst (v := 1) hx hb dX12_error_22 (by decide) ?_
    refine lv_goto (tgt := 27) hx hb dX12_error_23 (by decide) ?_
    refine sj_calli (wr := []) (va_runV (As := [.int 1]) (rest := []) ⟨hx, hb, hml, hown, hts⟩ (c_X12_throwsNow1 l D h0 g th 0 0 0 0 0 0 0 0 0 0 0 0 0 0 0 0 0 0 0 0 0 0 0 0 0 0 0 0 0 0 0 0 0 0 s.heap.size) (cwV 1 hts gX12_error_X12_throwsNow rfl rfl rfl (by decide +kernel) ⟨(Nat.le_of_ble_eq_true rfl), (Nat.le_of_ble_eq_true rfl)⟩) (sj_preV (q := (RX12, TX12, 86)) hH hK [0] rfl rfl [] rfl rfl rfl sj_bln sj_exn) rfl rfl hl.1 rfl (lv_room (Nat.le_of_ble_eq_true rfl)) dX12_error_27 ⟨(Nat.le_of_ble_eq_true rfl), (Nat.le_of_ble_eq_true rfl)⟩) hH hK hS hA [0] [] rfl rfl rfl rfl (by decide) rfl rfl (fun r_9 u_10 H locs hw_11 hH hK hS => ?_)
    have hH : sj_H D A ([(h0, .inr (12, sj_M g 1))] ++ []) H := hH
    have hK : va_K D vwCl [] s := by simpa using hK
    subst hw_11
    refine lv_if_eq (tgt := 37) hx hb dX12_error_30 (by decide) (fun h => absurd h (by decide)) (fun _ => ?_)
    refine lv_iconst (v := 0) hx hb dX12_error_33 (by decide) ?_
    refine lv_goto (tgt := 47) hx hb dX12_error_34 (by decide) ?_
    exact sj_zret hx hb hr hlocks rfl hS [.int 1, .ref (g 1), .int 0, .ref (g 3), .int 0, .ref (g 5), .int 0, .int 0, .int 0, .int 0, .int 0, .int 0, .ref (g 12), .int 0, .ref (g 14), .ref (g 15), .ref (g 16), .int 0, .int 0, .ref (g 19), .ref (g 20), .ref (g 21), .ref (g 22), .int 0, .ref (g 24), .ref (g 25), .int 0, .int 0, .ref (g 28), .ref (g 29), .ref (g 30), .ref (g 31), .ref (g 32), .int 0, .ref (g 34), .ref (g 35), .ref (g 36), .ref (g 37), .ref (g 38), .ref (g 39), .int 0, .int 0, .ref (g 42), .ref (g 43), .ref (g 44), .int 0, .ref (g 46), .ref (g 47), .ref (g 48), .int 0, .ref (g 50), .ref (g 51), .int 0, .ref (g 53), .int 0, .int 0, .ref (g 56), .int 0, .ref (g 58), .ref (g 59), .ref (g 60), .ref (g 61), .ref (g 62), .ref (g 63), .ref (g 64), .int 0, .int 0, .int 0, .ref (g 68), .ref (g 69), .ref (g 70), .ref (g 71), .ref (g 72), .ref (g 73), .int 0, .int 0, .int 0, .int 0, .int 0, .int 0, .int 0, .int 0, .ref (g 82), .ref (g 83), .ref (g 84), .ref (g 85)] rfl (sj_sub hH [0] rfl rfl) (sj_Knil hK) (Nat.le_of_ble_eq_true rfl) (Nat.le_of_ble_eq_true rfl) dX12_error_47
set_option maxHeartbeats 4000000 in
set_option maxRecDepth 100000 in
theorem c_X12_story (l : Launch) (D : va_G) (h0 : Nat) (g : Nat → Nat) (th : Int32) (story : Int32) (what : Int32) (sz : Nat)  : Met l yX12_story wsX12_story ({ frames := 1, cells := 0, slots := 0, locals := 21 }) (va_Pc [.ref h0, .int story, .int what] (sj_B D [(h0, .inr (12, sj_M g th))] [] sz sj_n)) (sj_Qi (S := (List Value)) D (fun r u => u[0]? = some (.int 1)) (fun u => [(h0, .inr (12, u))]) (fun u => []) (va_A [(h0, .inr (12, sj_M g th))] sz)) 0 0 (va_A [(h0, .inr (12, sj_M g th))] sz) := by
  refine sj_met (cc := cX12_story) (maxL := 3) (ret := (some .int)) (by decide) rfl (Nat.le_of_ble_eq_true rfl) ?_
  intro p e s m below meth c A ls hx hb hr hml hts hown hlocks hnm hA hsz hS hH hK hE hl
  have hown : s.vm.findClass RX12 = some m.cls := hown
  have in12 : ∀ w ∈ wsX120, w ∈ wsX12_story := by decide +kernel
  have wd0 := hts (.fieldLink RX12 165 "StoryDeskModel" "cases" "I") (by decide +kernel)
  have hl : lv_has ls 3 [(0, .ref h0), (1, .int story), (2, .int what)] := hl
  have hH : sj_H D A ([(h0, .inr (12, sj_M g th))] ++ []) s.heap := hH
  refine lv_aload_n hx hb dX12_story_0 rfl (lv_at hl 0 rfl) ?_
  refine lv_iload_n hx hb dX12_story_1 rfl (lv_at hl 1 rfl) ?_
  refine lv_if_lt (tgt := 22) hx hb dX12_story_2 (by decide) (fun c_1 => ?_) (fun c_1 => ?_)
  · skip
    have d_2 := sj_ltF (n := 0) (by decide) c_1
    refine lv_iconst (v := 1) hx hb dX12_story_22 (by decide) ?_
    refine lv_goto (tgt := 27) hx hb dX12_story_23 (by decide) ?_
    refine sj_calli (wr := []) (va_runV (As := [.int 1]) (rest := []) ⟨hx, hb, hml, hown, hts⟩ (c_X12_throwsNow1 l D h0 g th 0 0 0 0 0 0 0 0 0 0 0 0 0 0 0 0 0 0 0 0 0 0 0 0 0 0 0 0 0 0 0 0 0 0 s.heap.size) (cwV 1 hts gX12_story_X12_throwsNow rfl rfl rfl (by decide +kernel) ⟨(Nat.le_of_ble_eq_true rfl), (Nat.le_of_ble_eq_true rfl)⟩) (sj_preV (q := (RX12, TX12, 86)) hH hK [0] rfl rfl [] rfl rfl rfl sj_bln sj_exn) rfl rfl hl.1 rfl (lv_room (Nat.le_of_ble_eq_true rfl)) dX12_story_27 ⟨(Nat.le_of_ble_eq_true rfl), (Nat.le_of_ble_eq_true rfl)⟩) hH hK hS hA [0] [] rfl rfl rfl rfl (by decide) rfl rfl (fun r_3 u_4 H locs hw_5 hH hK hS => ?_)
    have hH : sj_H D A ([(h0, .inr (12, sj_M g 1))] ++ []) H := hH
    have hK : va_K D vwCl [] s := by simpa using hK
    subst hw_5
    refine lv_if_eq (tgt := 35) hx hb dX12_story_30 (by decide) (fun h => absurd h (by decide)) (fun _ => ?_)
    refine lv_iconst (v := 0) hx hb dX12_story_33 (by decide) ?_
    exact sj_zret hx hb hr hlocks rfl hS [.int 1, .ref (g 1), .int 0, .ref (g 3), .int 0, .ref (g 5), .int 0, .int 0, .int 0, .int 0, .int 0, .int 0, .ref (g 12), .int 0, .ref (g 14), .ref (g 15), .ref (g 16), .int 0, .int 0, .ref (g 19), .ref (g 20), .ref (g 21), .ref (g 22), .int 0, .ref (g 24), .ref (g 25), .int 0, .int 0, .ref (g 28), .ref (g 29), .ref (g 30), .ref (g 31), .ref (g 32), .int 0, .ref (g 34), .ref (g 35), .ref (g 36), .ref (g 37), .ref (g 38), .ref (g 39), .int 0, .int 0, .ref (g 42), .ref (g 43), .ref (g 44), .int 0, .ref (g 46), .ref (g 47), .ref (g 48), .int 0, .ref (g 50), .ref (g 51), .int 0, .ref (g 53), .int 0, .int 0, .ref (g 56), .int 0, .ref (g 58), .ref (g 59), .ref (g 60), .ref (g 61), .ref (g 62), .ref (g 63), .ref (g 64), .int 0, .int 0, .int 0, .ref (g 68), .ref (g 69), .ref (g 70), .ref (g 71), .ref (g 72), .ref (g 73), .int 0, .int 0, .int 0, .int 0, .int 0, .int 0, .int 0, .int 0, .ref (g 82), .ref (g 83), .ref (g 84), .ref (g 85)] rfl (sj_sub hH [0] rfl rfl) (sj_Knil hK) (Nat.le_of_ble_eq_true rfl) (Nat.le_of_ble_eq_true rfl) dX12_story_34
  · skip
    have d_7 := sj_nlt (n := 0) (by decide) c_1
    refine lv_iload_n hx hb dX12_story_5 rfl (lv_at hl 1 rfl) ?_
    refine lv_aload_n hx hb dX12_story_6 rfl (lv_at hl 0 rfl) ?_
    refine va_get (D := D) (ci := 12) (v := .int 0) (C := RX12) (T := TX12) (N := 86) hx hb hts in12 hown hK hH.1 0 rfl rfl 33 (by decide) wd0 (fun _ h9 => h9) rfl dX12_story_7 ?_
    refine lv_icmp_ge (tgt := 22) hx hb dX12_story_10 (by decide) (fun _ => ?_) (fun h => absurd (sj_geP (n := 0) (by decide) (by omega)) h)
    refine lv_iconst (v := 1) hx hb dX12_story_22 (by decide) ?_
    refine lv_goto (tgt := 27) hx hb dX12_story_23 (by decide) ?_
    refine sj_calli (wr := []) (va_runV (As := [.int 1]) (rest := []) ⟨hx, hb, hml, hown, hts⟩ (c_X12_throwsNow1 l D h0 g th 0 0 0 0 0 0 0 0 0 0 0 0 0 0 0 0 0 0 0 0 0 0 0 0 0 0 0 0 0 0 0 0 0 0 s.heap.size) (cwV 1 hts gX12_story_X12_throwsNow rfl rfl rfl (by decide +kernel) ⟨(Nat.le_of_ble_eq_true rfl), (Nat.le_of_ble_eq_true rfl)⟩) (sj_preV (q := (RX12, TX12, 86)) hH hK [0] rfl rfl [] rfl rfl rfl sj_bln sj_exn) rfl rfl hl.1 rfl (lv_room (Nat.le_of_ble_eq_true rfl)) dX12_story_27 ⟨(Nat.le_of_ble_eq_true rfl), (Nat.le_of_ble_eq_true rfl)⟩) hH hK hS hA [0] [] rfl rfl rfl rfl (by decide) rfl rfl (fun r_9 u_10 H locs hw_11 hH hK hS => ?_)
    have hH : sj_H D A ([(h0, .inr (12, sj_M g 1))] ++ []) H := hH
    have hK : va_K D vwCl [] s := by simpa using hK
    subst hw_11
    refine lv_if_eq (tgt := 35) hx hb dX12_story_30 (by decide) (fun h => absurd h (by decide)) (fun _ => ?_)
    refine lv_iconst (v := 0) hx hb dX12_story_33 (by decide) ?_
    exact sj_zret hx hb hr hlocks rfl hS [.int 1, .ref (g 1), .int 0, .ref (g 3), .int 0, .ref (g 5), .int 0, .int 0, .int 0, .int 0, .int 0, .int 0, .ref (g 12), .int 0, .ref (g 14), .ref (g 15), .ref (g 16), .int 0, .int 0, .ref (g 19), .ref (g 20), .ref (g 21), .ref (g 22), .int 0, .ref (g 24), .ref (g 25), .int 0, .int 0, .ref (g 28), .ref (g 29), .ref (g 30), .ref (g 31), .ref (g 32), .int 0, .ref (g 34), .ref (g 35), .ref (g 36), .ref (g 37), .ref (g 38), .ref (g 39), .int 0, .int 0, .ref (g 42), .ref (g 43), .ref (g 44), .int 0, .ref (g 46), .ref (g 47), .ref (g 48), .int 0, .ref (g 50), .ref (g 51), .int 0, .ref (g 53), .int 0, .int 0, .ref (g 56), .int 0, .ref (g 58), .ref (g 59), .ref (g 60), .ref (g 61), .ref (g 62), .ref (g 63), .ref (g 64), .int 0, .int 0, .int 0, .ref (g 68), .ref (g 69), .ref (g 70), .ref (g 71), .ref (g 72), .ref (g 73), .int 0, .int 0, .int 0, .int 0, .int 0, .int 0, .int 0, .int 0, .ref (g 82), .ref (g 83), .ref (g 84), .ref (g 85)] rfl (sj_sub hH [0] rfl rfl) (sj_Knil hK) (Nat.le_of_ble_eq_true rfl) (Nat.le_of_ble_eq_true rfl) dX12_story_34
set_option maxHeartbeats 4000000 in
set_option maxRecDepth 100000 in
theorem c_X12_step (l : Launch) (D : va_G) (h0 : Nat) (g : Nat → Nat) (th : Int32) (story : Int32) (step : Int32) (what : Int32) (sz : Nat)  : Met l yX12_step_ wsX12_step_ ({ frames := 1, cells := 0, slots := 0, locals := 22 }) (va_Pc [.ref h0, .int story, .int step, .int what] (sj_B D [(h0, .inr (12, sj_M g th))] [] sz sj_n)) (sj_Qi (S := (List Value)) D (fun r u => u[0]? = some (.int 1)) (fun u => [(h0, .inr (12, u))]) (fun u => []) (va_A [(h0, .inr (12, sj_M g th))] sz)) 0 0 (va_A [(h0, .inr (12, sj_M g th))] sz) := by
  refine sj_met (cc := cX12_step_) (maxL := 5) (ret := (some .int)) (by decide) rfl (Nat.le_of_ble_eq_true rfl) ?_
  intro p e s m below meth c A ls hx hb hr hml hts hown hlocks hnm hA hsz hS hH hK hE hl
  have hown : s.vm.findClass RX12 = some m.cls := hown
  have hl : lv_has ls 5 [(0, .ref h0), (1, .int story), (2, .int step), (3, .int what)] := hl
  have hH : sj_H D A ([(h0, .inr (12, sj_M g th))] ++ []) s.heap := hH
  refine lv_aload_n hx hb dX12_step__0 rfl (lv_at hl 0 rfl) ?_
  refine lv_aload_n hx hb dX12_step__1 rfl (lv_at hl 0 rfl) ?_
  refine lv_iload_n hx hb dX12_step__2 rfl (lv_at hl 1 rfl) ?_
  refine lv_iload_n hx hb dX12_step__3 rfl (lv_at hl 2 rfl) ?_
  refine sj_calli (wr := []) (va_runV (As := [.int story, .int step]) (rest := [.ref h0]) ⟨hx, hb, hml, hown, hts⟩ (c_X12_isStep l D h0 g th 0 0 0 0 0 0 0 0 0 0 0 0 0 0 0 0 0 0 0 0 0 0 0 0 0 0 0 0 0 0 0 0 0 story step s.heap.size) (cwV 2 hts gX12_step__X12_isStep rfl rfl rfl (by decide +kernel) ⟨(Nat.le_of_ble_eq_true rfl), (Nat.le_of_ble_eq_true rfl)⟩) (sj_preV (q := (RX12, TX12, 86)) hH hK [0] rfl rfl [] rfl rfl rfl sj_bln sj_exn) rfl rfl hl.1 rfl (lv_room (Nat.le_of_ble_eq_true rfl)) dX12_step__4 ⟨(Nat.le_of_ble_eq_true rfl), (Nat.le_of_ble_eq_true rfl)⟩) hH hK hS hA [0] [] rfl rfl rfl rfl (by decide) rfl rfl (fun r_1 u_2 H locs hw_3 hH hK hS => ?_)
  have hH : sj_H D A ([(h0, .inr (12, sj_M g th))] ++ []) H := hH
  have hK : va_K D vwCl [] s := by simpa using hK
  subst hw_3
  refine lv_if_eq (tgt := 32) hx hb dX12_step__7 (by decide) (fun _ => ?_) (fun h => absurd (by decide) h)
  refine lv_iconst (v := 1) hx hb dX12_step__32 (by decide) ?_
  refine lv_goto (tgt := 37) hx hb dX12_step__33 (by decide) ?_
  refine sj_calli (wr := []) (va_runV (As := [.int 1]) (rest := []) ⟨hx, hb, hml, hown, hts⟩ (c_X12_throwsNow1 l D h0 g th 0 0 0 0 0 0 0 0 0 0 0 0 0 0 0 0 0 0 0 0 0 0 0 0 0 0 0 0 0 0 0 0 0 0 H.size) (cwV 1 hts gX12_step__X12_throwsNow rfl rfl rfl (by decide +kernel) ⟨(Nat.le_of_ble_eq_true rfl), (Nat.le_of_ble_eq_true rfl)⟩) (sj_preV (q := (RX12, TX12, 86)) hH hK [0] rfl rfl [] rfl rfl rfl sj_bln sj_exn) rfl rfl hl.1 rfl (lv_room (Nat.le_of_ble_eq_true rfl)) dX12_step__37 ⟨(Nat.le_of_ble_eq_true rfl), (Nat.le_of_ble_eq_true rfl)⟩) hH hK hS hA [0] [] rfl rfl rfl rfl (by decide) rfl rfl (fun r_5 u_6 H locs hw_7 hH hK hS => ?_)
  have hH : sj_H D A ([(h0, .inr (12, sj_M g 1))] ++ []) H := hH
  have hK : va_K D vwCl [] s := by simpa using hK
  subst hw_7
  refine lv_if_eq (tgt := 45) hx hb dX12_step__40 (by decide) (fun h => absurd h (by decide)) (fun _ => ?_)
  refine lv_iconst (v := 0) hx hb dX12_step__43 (by decide) ?_
  exact sj_zret hx hb hr hlocks rfl hS [.int 1, .ref (g 1), .int 0, .ref (g 3), .int 0, .ref (g 5), .int 0, .int 0, .int 0, .int 0, .int 0, .int 0, .ref (g 12), .int 0, .ref (g 14), .ref (g 15), .ref (g 16), .int 0, .int 0, .ref (g 19), .ref (g 20), .ref (g 21), .ref (g 22), .int 0, .ref (g 24), .ref (g 25), .int 0, .int 0, .ref (g 28), .ref (g 29), .ref (g 30), .ref (g 31), .ref (g 32), .int 0, .ref (g 34), .ref (g 35), .ref (g 36), .ref (g 37), .ref (g 38), .ref (g 39), .int 0, .int 0, .ref (g 42), .ref (g 43), .ref (g 44), .int 0, .ref (g 46), .ref (g 47), .ref (g 48), .int 0, .ref (g 50), .ref (g 51), .int 0, .ref (g 53), .int 0, .int 0, .ref (g 56), .int 0, .ref (g 58), .ref (g 59), .ref (g 60), .ref (g 61), .ref (g 62), .ref (g 63), .ref (g 64), .int 0, .int 0, .int 0, .ref (g 68), .ref (g 69), .ref (g 70), .ref (g 71), .ref (g 72), .ref (g 73), .int 0, .int 0, .int 0, .int 0, .int 0, .int 0, .int 0, .int 0, .ref (g 82), .ref (g 83), .ref (g 84), .ref (g 85)] rfl (sj_sub hH [0] rfl rfl) (sj_Knil hK) (Nat.le_of_ble_eq_true rfl) (Nat.le_of_ble_eq_true rfl) dX12_step__44
set_option maxHeartbeats 4000000 in
set_option maxRecDepth 100000 in
theorem c_X12_argument (l : Launch) (D : va_G) (h0 : Nat) (g : Nat → Nat) (th : Int32) (story : Int32) (step : Int32) (k : Int32) (sz : Nat)  : Met l yX12_argument wsX12_argument ({ frames := 1, cells := 0, slots := 0, locals := 22 }) (va_Pc [.ref h0, .int story, .int step, .int k] (sj_B D [(h0, .inr (12, sj_M g th))] [] sz sj_n)) (sj_Qi (S := (List Value)) D (fun r u => u[0]? = some (.int 1)) (fun u => [(h0, .inr (12, u))]) (fun u => []) (va_A [(h0, .inr (12, sj_M g th))] sz)) 0 0 (va_A [(h0, .inr (12, sj_M g th))] sz) := by
  refine sj_met (cc := cX12_argument) (maxL := 4) (ret := (some .int)) (by decide) rfl (Nat.le_of_ble_eq_true rfl) ?_
  intro p e s m below meth c A ls hx hb hr hml hts hown hlocks hnm hA hsz hS hH hK hE hl
  have hown : s.vm.findClass RX12 = some m.cls := hown
  have hl : lv_has ls 4 [(0, .ref h0), (1, .int story), (2, .int step), (3, .int k)] := hl
  have hH : sj_H D A ([(h0, .inr (12, sj_M g th))] ++ []) s.heap := hH
  refine lv_aload_n hx hb dX12_argument_0 rfl (lv_at hl 0 rfl) ?_
  refine lv_aload_n hx hb dX12_argument_1 rfl (lv_at hl 0 rfl) ?_
  refine lv_iload_n hx hb dX12_argument_2 rfl (lv_at hl 1 rfl) ?_
  refine lv_iload_n hx hb dX12_argument_3 rfl (lv_at hl 2 rfl) ?_
  refine sj_calli (wr := []) (va_runV (As := [.int story, .int step]) (rest := [.ref h0]) ⟨hx, hb, hml, hown, hts⟩ (c_X12_isStep l D h0 g th 0 0 0 0 0 0 0 0 0 0 0 0 0 0 0 0 0 0 0 0 0 0 0 0 0 0 0 0 0 0 0 0 0 story step s.heap.size) (cwV 2 hts gX12_argument_X12_isStep rfl rfl rfl (by decide +kernel) ⟨(Nat.le_of_ble_eq_true rfl), (Nat.le_of_ble_eq_true rfl)⟩) (sj_preV (q := (RX12, TX12, 86)) hH hK [0] rfl rfl [] rfl rfl rfl sj_bln sj_exn) rfl rfl hl.1 rfl (lv_room (Nat.le_of_ble_eq_true rfl)) dX12_argument_4 ⟨(Nat.le_of_ble_eq_true rfl), (Nat.le_of_ble_eq_true rfl)⟩) hH hK hS hA [0] [] rfl rfl rfl rfl (by decide) rfl rfl (fun r_1 u_2 H locs hw_3 hH hK hS => ?_)
  have hH : sj_H D A ([(h0, .inr (12, sj_M g th))] ++ []) H := hH
  have hK : va_K D vwCl [] s := by simpa using hK
  subst hw_3
  refine lv_if_eq (tgt := 14) hx hb dX12_argument_7 (by decide) (fun _ => ?_) (fun h => absurd (by decide) h)
  refine lv_iconst (v := 1) hx hb dX12_argument_14 (by decide) ?_
  refine sj_calli (wr := []) (va_runV (As := [.int 1]) (rest := []) ⟨hx, hb, hml, hown, hts⟩ (c_X12_throwsNow1 l D h0 g th 0 0 0 0 0 0 0 0 0 0 0 0 0 0 0 0 0 0 0 0 0 0 0 0 0 0 0 0 0 0 0 0 0 0 H.size) (cwV 1 hts gX12_argument_X12_throwsNow rfl rfl rfl (by decide +kernel) ⟨(Nat.le_of_ble_eq_true rfl), (Nat.le_of_ble_eq_true rfl)⟩) (sj_preV (q := (RX12, TX12, 86)) hH hK [0] rfl rfl [] rfl rfl rfl sj_bln sj_exn) rfl rfl hl.1 rfl (lv_room (Nat.le_of_ble_eq_true rfl)) dX12_argument_15 ⟨(Nat.le_of_ble_eq_true rfl), (Nat.le_of_ble_eq_true rfl)⟩) hH hK hS hA [0] [] rfl rfl rfl rfl (by decide) rfl rfl (fun r_5 u_6 H locs hw_7 hH hK hS => ?_)
  have hH : sj_H D A ([(h0, .inr (12, sj_M g 1))] ++ []) H := hH
  have hK : va_K D vwCl [] s := by simpa using hK
  subst hw_7
  refine lv_if_eq (tgt := 23) hx hb dX12_argument_18 (by decide) (fun h => absurd h (by decide)) (fun _ => ?_)
  refine lv_iconst (v := 0) hx hb dX12_argument_21 (by decide) ?_
  exact sj_zret hx hb hr hlocks rfl hS [.int 1, .ref (g 1), .int 0, .ref (g 3), .int 0, .ref (g 5), .int 0, .int 0, .int 0, .int 0, .int 0, .int 0, .ref (g 12), .int 0, .ref (g 14), .ref (g 15), .ref (g 16), .int 0, .int 0, .ref (g 19), .ref (g 20), .ref (g 21), .ref (g 22), .int 0, .ref (g 24), .ref (g 25), .int 0, .int 0, .ref (g 28), .ref (g 29), .ref (g 30), .ref (g 31), .ref (g 32), .int 0, .ref (g 34), .ref (g 35), .ref (g 36), .ref (g 37), .ref (g 38), .ref (g 39), .int 0, .int 0, .ref (g 42), .ref (g 43), .ref (g 44), .int 0, .ref (g 46), .ref (g 47), .ref (g 48), .int 0, .ref (g 50), .ref (g 51), .int 0, .ref (g 53), .int 0, .int 0, .ref (g 56), .int 0, .ref (g 58), .ref (g 59), .ref (g 60), .ref (g 61), .ref (g 62), .ref (g 63), .ref (g 64), .int 0, .int 0, .int 0, .ref (g 68), .ref (g 69), .ref (g 70), .ref (g 71), .ref (g 72), .ref (g 73), .int 0, .int 0, .int 0, .int 0, .int 0, .int 0, .int 0, .int 0, .ref (g 82), .ref (g 83), .ref (g 84), .ref (g 85)] rfl (sj_sub hH [0] rfl rfl) (sj_Knil hK) (Nat.le_of_ble_eq_true rfl) (Nat.le_of_ble_eq_true rfl) dX12_argument_22
set_option maxHeartbeats 4000000 in
set_option maxRecDepth 100000 in
theorem c_X12_cell (l : Launch) (D : va_G) (h0 : Nat) (g : Nat → Nat) (th : Int32) (story : Int32) (step : Int32) (ar : Int32) (ac : Int32) (ai : Int32) (sz : Nat)  : Met l yX12_cell wsX12_cell ({ frames := 1, cells := 0, slots := 0, locals := 22 }) (va_Pc [.ref h0, .int story, .int step, .int ar, .int ac, .int ai] (sj_B D [(h0, .inr (12, sj_M g th))] [] sz sj_n)) (sj_Qi (S := (List Value)) D (fun r u => u[0]? = some (.int 1)) (fun u => [(h0, .inr (12, u))]) (fun u => []) (va_A [(h0, .inr (12, sj_M g th))] sz)) 0 0 (va_A [(h0, .inr (12, sj_M g th))] sz) := by
  refine sj_met (cc := cX12_cell) (maxL := 8) (ret := (some .int)) (by decide) rfl (Nat.le_of_ble_eq_true rfl) ?_
  intro p e s m below meth c A ls hx hb hr hml hts hown hlocks hnm hA hsz hS hH hK hE hl
  have hown : s.vm.findClass RX12 = some m.cls := hown
  have hl : lv_has ls 8 [(0, .ref h0), (1, .int story), (2, .int step), (3, .int ar), (4, .int ac), (5, .int ai)] := hl
  have hH : sj_H D A ([(h0, .inr (12, sj_M g th))] ++ []) s.heap := hH
  refine lv_aload_n hx hb dX12_cell_0 rfl (lv_at hl 0 rfl) ?_
  refine lv_aload_n hx hb dX12_cell_1 rfl (lv_at hl 0 rfl) ?_
  refine lv_iload_n hx hb dX12_cell_2 rfl (lv_at hl 1 rfl) ?_
  refine lv_iload_n hx hb dX12_cell_3 rfl (lv_at hl 2 rfl) ?_
  refine sj_calli (wr := []) (va_runV (As := [.int story, .int step]) (rest := [.ref h0]) ⟨hx, hb, hml, hown, hts⟩ (c_X12_isStep l D h0 g th 0 0 0 0 0 0 0 0 0 0 0 0 0 0 0 0 0 0 0 0 0 0 0 0 0 0 0 0 0 0 0 0 0 story step s.heap.size) (cwV 2 hts gX12_cell_X12_isStep rfl rfl rfl (by decide +kernel) ⟨(Nat.le_of_ble_eq_true rfl), (Nat.le_of_ble_eq_true rfl)⟩) (sj_preV (q := (RX12, TX12, 86)) hH hK [0] rfl rfl [] rfl rfl rfl sj_bln sj_exn) rfl rfl hl.1 rfl (lv_room (Nat.le_of_ble_eq_true rfl)) dX12_cell_4 ⟨(Nat.le_of_ble_eq_true rfl), (Nat.le_of_ble_eq_true rfl)⟩) hH hK hS hA [0] [] rfl rfl rfl rfl (by decide) rfl rfl (fun r_1 u_2 H locs hw_3 hH hK hS => ?_)
  have hH : sj_H D A ([(h0, .inr (12, sj_M g th))] ++ []) H := hH
  have hK : va_K D vwCl [] s := by simpa using hK
  subst hw_3
  refine lv_if_eq (tgt := 31) hx hb dX12_cell_7 (by decide) (fun _ => ?_) (fun h => absurd (by decide) h)
  refine lv_iconst (v := 1) hx hb dX12_cell_31 (by decide) ?_
  refine lv_goto (tgt := 36) hx hb dX12_cell_32 (by decide) ?_
  refine sj_calli (wr := []) (va_runV (As := [.int 1]) (rest := []) ⟨hx, hb, hml, hown, hts⟩ (c_X12_throwsNow1 l D h0 g th 0 0 0 0 0 0 0 0 0 0 0 0 0 0 0 0 0 0 0 0 0 0 0 0 0 0 0 0 0 0 0 0 0 0 H.size) (cwV 1 hts gX12_cell_X12_throwsNow rfl rfl rfl (by decide +kernel) ⟨(Nat.le_of_ble_eq_true rfl), (Nat.le_of_ble_eq_true rfl)⟩) (sj_preV (q := (RX12, TX12, 86)) hH hK [0] rfl rfl [] rfl rfl rfl sj_bln sj_exn) rfl rfl hl.1 rfl (lv_room (Nat.le_of_ble_eq_true rfl)) dX12_cell_36 ⟨(Nat.le_of_ble_eq_true rfl), (Nat.le_of_ble_eq_true rfl)⟩) hH hK hS hA [0] [] rfl rfl rfl rfl (by decide) rfl rfl (fun r_5 u_6 H locs hw_7 hH hK hS => ?_)
  have hH : sj_H D A ([(h0, .inr (12, sj_M g 1))] ++ []) H := hH
  have hK : va_K D vwCl [] s := by simpa using hK
  subst hw_7
  refine lv_if_eq (tgt := 44) hx hb dX12_cell_39 (by decide) (fun h => absurd h (by decide)) (fun _ => ?_)
  refine lv_iconst (v := 0) hx hb dX12_cell_42 (by decide) ?_
  exact sj_zret hx hb hr hlocks rfl hS [.int 1, .ref (g 1), .int 0, .ref (g 3), .int 0, .ref (g 5), .int 0, .int 0, .int 0, .int 0, .int 0, .int 0, .ref (g 12), .int 0, .ref (g 14), .ref (g 15), .ref (g 16), .int 0, .int 0, .ref (g 19), .ref (g 20), .ref (g 21), .ref (g 22), .int 0, .ref (g 24), .ref (g 25), .int 0, .int 0, .ref (g 28), .ref (g 29), .ref (g 30), .ref (g 31), .ref (g 32), .int 0, .ref (g 34), .ref (g 35), .ref (g 36), .ref (g 37), .ref (g 38), .ref (g 39), .int 0, .int 0, .ref (g 42), .ref (g 43), .ref (g 44), .int 0, .ref (g 46), .ref (g 47), .ref (g 48), .int 0, .ref (g 50), .ref (g 51), .int 0, .ref (g 53), .int 0, .int 0, .ref (g 56), .int 0, .ref (g 58), .ref (g 59), .ref (g 60), .ref (g 61), .ref (g 62), .ref (g 63), .ref (g 64), .int 0, .int 0, .int 0, .ref (g 68), .ref (g 69), .ref (g 70), .ref (g 71), .ref (g 72), .ref (g 73), .int 0, .int 0, .int 0, .int 0, .int 0, .int 0, .int 0, .int 0, .ref (g 82), .ref (g 83), .ref (g 84), .ref (g 85)] rfl (sj_sub hH [0] rfl rfl) (sj_Knil hK) (Nat.le_of_ble_eq_true rfl) (Nat.le_of_ble_eq_true rfl) dX12_cell_43
set_option maxHeartbeats 4000000 in
set_option maxRecDepth 100000 in
theorem c_X12_define (l : Launch) (D : va_G) (h0 : Nat) (g : Nat → Nat) (th : Int32) (script : Int32) (sz : Nat)  : Met l yX12_define wsX12_define ({ frames := 2, cells := 0, slots := 0, locals := 41 }) (va_Pc [.ref h0, .int script] (sj_B D [(h0, .inr (12, sj_M g th))] [] sz sj_n)) (sj_Qi (S := (List Value)) D (fun r u => u[0]? = some (.int 2)) (fun u => [(h0, .inr (12, u))]) (fun u => []) (va_A [(h0, .inr (12, sj_M g th))] sz)) 0 0 (va_A [(h0, .inr (12, sj_M g th))] sz) := by
  refine sj_met (cc := cX12_define) (maxL := 5) (ret := (some .int)) (by decide) rfl (Nat.le_of_ble_eq_true rfl) ?_
  intro p e s m below meth c A ls hx hb hr hml hts hown hlocks hnm hA hsz hS hH hK hE hl
  have hown : s.vm.findClass RX12 = some m.cls := hown
  have in12 : ∀ w ∈ wsX120, w ∈ wsX12_define := by decide +kernel
  have wd0 := hts (.fieldLink RX12 12 "StoryDeskModel" "text" "[C") (by decide +kernel)
  have wd1 := hts (.fieldLink RX12 7 "StoryDeskModel" "size" "I") (by decide +kernel)
  have hl : lv_has ls 5 [(0, .ref h0), (1, .int script)] := hl
  have hH : sj_H D A ([(h0, .inr (12, sj_M g th))] ++ []) s.heap := hH
  refine lv_aload_n hx hb dX12_define_0 rfl (lv_at hl 0 rfl) ?_
  refine sj_calli (wr := []) (va_runV (As := []) (rest := []) ⟨hx, hb, hml, hown, hts⟩ (c_X12_busy l D h0 g th 0 0 0 0 0 0 0 0 0 0 0 0 0 0 0 0 0 0 0 0 0 0 0 0 0 0 0 0 0 0 0 0 0 s.heap.size) (cwV 0 hts gX12_define_X12_busy rfl rfl rfl (by decide +kernel) ⟨(Nat.le_of_ble_eq_true rfl), (Nat.le_of_ble_eq_true rfl)⟩) (sj_preV (q := (RX12, TX12, 86)) hH hK [0] rfl rfl [] rfl rfl rfl sj_bln sj_exn) rfl rfl hl.1 rfl (lv_room (Nat.le_of_ble_eq_true rfl)) dX12_define_1 ⟨(Nat.le_of_ble_eq_true rfl), (Nat.le_of_ble_eq_true rfl)⟩) hH hK hS hA [0] [] rfl rfl rfl rfl (by decide) rfl rfl (fun r_1 u_2 H locs hw_3 hH hK hS => ?_)
  have hH : sj_H D A ([(h0, .inr (12, sj_M g 0))] ++ []) H := hH
  have hK : va_K D vwCl [] s := by simpa using hK
  subst hw_3
  refine lv_if_eq (tgt := 9) hx hb dX12_define_4 (by decide) (fun _ => ?_) (fun h => absurd (by decide) h)
  refine lv_aload_n hx hb dX12_define_9 rfl (lv_at hl 0 rfl) ?_
  refine lv_aload_n hx hb dX12_define_10 rfl (lv_at hl 0 rfl) ?_
  refine va_get (D := D) (ci := 12) (v := .ref (g 1)) (C := RX12) (T := TX12) (N := 86) hx hb hts in12 hown hK hH.1 0 rfl rfl 1 (by decide) wd0 (fun _ h9 => h9) rfl dX12_define_11 ?_
  refine lv_iconst (v := 0) hx hb dX12_define_14 (by decide) ?_
  refine lv_aload_n hx hb dX12_define_15 rfl (lv_at hl 0 rfl) ?_
  refine va_get (D := D) (ci := 12) (v := .int 0) (C := RX12) (T := TX12) (N := 86) hx hb hts in12 hown hK hH.1 0 rfl rfl 2 (by decide) wd1 (fun _ h9 => h9) rfl dX12_define_16 ?_
  refine sj_calli (wr := []) (va_runV (As := [.ref (g 1), .int 0, .int 0]) (rest := []) ⟨hx, hb, hml, hown, hts⟩ (c_X12_parse l D h0 g 0 0 0 0 0 0 0 0 0 0 0 0 0 0 0 0 0 0 0 0 0 0 0 0 0 0 0 0 0 0 0 0 0 0 0 (g 1) H.size) (cwV 3 hts gX12_define_X12_parse rfl rfl rfl (by decide +kernel) ⟨(Nat.le_of_ble_eq_true rfl), (Nat.le_of_ble_eq_true rfl)⟩) (sj_preV (q := (RX12, TX12, 86)) hH hK [0] rfl rfl [] rfl rfl rfl sj_bln sj_exn) rfl rfl hl.1 rfl (lv_room (Nat.le_of_ble_eq_true rfl)) dX12_define_19 ⟨(Nat.le_of_ble_eq_true rfl), (Nat.le_of_ble_eq_true rfl)⟩) hH hK hS hA [0] [] rfl rfl rfl rfl (by decide) rfl rfl (fun r_5 u_6 H locs hw_7 hH hK hS => ?_)
  have hH : sj_H D A ([(h0, .inr (12, sj_M g 0))] ++ []) H := hH
  have hK : va_K D vwCl [] s := by simpa using hK
  subst hw_7
  refine lv_if_eq (tgt := 39) hx hb dX12_define_22 (by decide) (fun _ => ?_) (fun h => absurd (by decide) h)
  refine lv_iconst (v := 0) hx hb dX12_define_39 (by decide) ?_
  refine lv_istore_n (lv' := [(2, .int 0), (0, .ref h0), (1, .int script)]) hx hb dX12_define_40 rfl hl (by decide) rfl (fun ls hl => ?_)
  refine lv_aload_n hx hb dX12_define_41 rfl (lv_at hl 1 rfl) ?_
  refine va_get (D := D) (ci := 12) (v := .int 0) (C := RX12) (T := TX12) (N := 86) hx hb hts in12 hown hK hH.1 0 rfl rfl 2 (by decide) wd1 (fun _ h9 => h9) rfl dX12_define_42 ?_
  refine lv_istore_n (lv' := [(3, .int 0), (2, .int 0), (0, .ref h0), (1, .int script)]) hx hb dX12_define_45 rfl hl (by decide) rfl (fun ls hl => ?_)
  refine lv_aload_n hx hb dX12_define_46 rfl (lv_at hl 2 rfl) ?_
  refine lv_iconst (v := 0) hx hb dX12_define_47 (by decide) ?_
  refine sj_put (D := D) (ci := 12) (v := .int 0) (ty := .int) (C := RX12) (F := TX12) (N := 86) hx hb hts in12 tyX12 tyX12_ok nmX12 hown hK hH hS 0 rfl rfl 2 (by decide) wd1 (fun _ h9 => h9) rfl (by decide +kernel) rfl rfl (Nat.le_of_ble_eq_true rfl) dX12_define_48 (fun H locs (hH : sj_H D A ([(h0, .inr (12, sj_M g 0))] ++ []) H) hS => ?_)
  refine lv_aload_n hx hb dX12_define_51 rfl (lv_at hl 2 rfl) ?_
  refine lv_iload_n hx hb dX12_define_52 rfl (lv_at hl 1 rfl) ?_
  refine lv_if_ne (tgt := 60) hx hb dX12_define_53 (by decide) (fun h => absurd (by decide) h) (fun _ => ?_)
  refine lv_iconst (v := 2) hx hb dX12_define_56 (by decide) ?_
  refine lv_goto (tgt := 74) hx hb dX12_define_57 (by decide) ?_
  refine sj_calli (wr := []) (va_runV (As := [.int 2]) (rest := []) ⟨hx, hb, hml, hown, hts⟩ (c_X12_throwsNow2 l D h0 g 0 0 0 0 0 0 0 0 0 0 0 0 0 0 0 0 0 0 0 0 0 0 0 0 0 0 0 0 0 0 0 0 0 0 0 H.size) (cwV 1 hts gX12_define_X12_throwsNow rfl rfl rfl (by decide +kernel) ⟨(Nat.le_of_ble_eq_true rfl), (Nat.le_of_ble_eq_true rfl)⟩) (sj_preV (q := (RX12, TX12, 86)) hH hK [0] rfl rfl [] rfl rfl rfl sj_bln sj_exn) rfl rfl hl.1 rfl (lv_room (Nat.le_of_ble_eq_true rfl)) dX12_define_74 ⟨(Nat.le_of_ble_eq_true rfl), (Nat.le_of_ble_eq_true rfl)⟩) hH hK hS hA [0] [] rfl rfl rfl rfl (by decide) rfl rfl (fun r_10 u_11 H locs hw_12 hH hK hS => ?_)
  have hH : sj_H D A ([(h0, .inr (12, sj_M g 2))] ++ []) H := hH
  have hK : va_K D vwCl [] s := by simpa using hK
  subst hw_12
  refine lv_if_eq (tgt := 82) hx hb dX12_define_77 (by decide) (fun h => absurd h (by decide)) (fun _ => ?_)
  refine lv_iconst (v := 0) hx hb dX12_define_80 (by decide) ?_
  exact sj_zret hx hb hr hlocks rfl hS [.int 2, .ref (g 1), .int 0, .ref (g 3), .int 0, .ref (g 5), .int 0, .int 0, .int 0, .int 0, .int 0, .int 0, .ref (g 12), .int 0, .ref (g 14), .ref (g 15), .ref (g 16), .int 0, .int 0, .ref (g 19), .ref (g 20), .ref (g 21), .ref (g 22), .int 0, .ref (g 24), .ref (g 25), .int 0, .int 0, .ref (g 28), .ref (g 29), .ref (g 30), .ref (g 31), .ref (g 32), .int 0, .ref (g 34), .ref (g 35), .ref (g 36), .ref (g 37), .ref (g 38), .ref (g 39), .int 0, .int 0, .ref (g 42), .ref (g 43), .ref (g 44), .int 0, .ref (g 46), .ref (g 47), .ref (g 48), .int 0, .ref (g 50), .ref (g 51), .int 0, .ref (g 53), .int 0, .int 0, .ref (g 56), .int 0, .ref (g 58), .ref (g 59), .ref (g 60), .ref (g 61), .ref (g 62), .ref (g 63), .ref (g 64), .int 0, .int 0, .int 0, .ref (g 68), .ref (g 69), .ref (g 70), .ref (g 71), .ref (g 72), .ref (g 73), .int 0, .int 0, .int 0, .int 0, .int 0, .int 0, .int 0, .int 0, .ref (g 82), .ref (g 83), .ref (g 84), .ref (g 85)] rfl (sj_sub hH [0] rfl rfl) (sj_Knil hK) (Nat.le_of_ble_eq_true rfl) (Nat.le_of_ble_eq_true rfl) dX12_define_81
set_option maxHeartbeats 4000000 in
set_option maxRecDepth 100000 in
theorem c_X12_hook (l : Launch) (D : va_G) (h0 : Nat) (g : Nat → Nat) (th : Int32) (before : Int32) (script : Int32) (kt : ClassId) (kb : ClassId) (fb : Nat → Int32) (ki : ClassId) (fi : Nat → Int32) (sz : Nat)  : Met l yX12_hook wsX12_hook ({ frames := 2, cells := 0, slots := 0, locals := 41 }) (va_Pc [.ref h0, .int before, .int script] (sj_B D [(h0, .inr (12, sj_M g th)), ((g 62), .inl (kt, 9, .inl (fun _ => 0))), ((g 68), .inl (kb, 8, .inl fb)), ((g 69), .inl (ki, 8, .inl fi))] [(kt, .int), (kb, .boolean), (ki, .int)] sz sj_n)) (sj_Qi (S := (List Value)) D (fun r u => (r = 0 ∧ u[0]? = some (.int 0) ∧ 0 ≤ script.toInt ∧ script.toInt ≤ 7) ∨ (u[0]? = some (.int 2) ∧ ¬ (0 ≤ script.toInt ∧ script.toInt ≤ 7))) (fun u => [(h0, .inr (12, u))]) (fun u => []) (va_A [(h0, .inr (12, sj_M g th)), ((g 62), .inl (kt, 9, .inl (fun _ => 0))), ((g 68), .inl (kb, 8, .inl fb)), ((g 69), .inl (ki, 8, .inl fi))] sz)) 0 0 (va_A [(h0, .inr (12, sj_M g th)), ((g 62), .inl (kt, 9, .inl (fun _ => 0))), ((g 68), .inl (kb, 8, .inl fb)), ((g 69), .inl (ki, 8, .inl fi))] sz) := by
  refine sj_met (cc := cX12_hook) (maxL := 4) (ret := (some .int)) (by decide) rfl (Nat.le_of_ble_eq_true rfl) ?_
  intro p e s m below meth c A ls hx hb hr hml hts hown hlocks hnm hA hsz hS hH hK hE hl
  have hown : s.vm.findClass RX12 = some m.cls := hown
  have in12 : ∀ w ∈ wsX120, w ∈ wsX12_hook := by decide +kernel
  have wd0 := hts (.fieldLink RX12 12 "StoryDeskModel" "text" "[C") (by decide +kernel)
  have wd1 := hts (.fieldLink RX12 7 "StoryDeskModel" "size" "I") (by decide +kernel)
  have wd2 := hts (.fieldLink RX12 1 "StoryDeskModel" "thrown" "I") (by decide +kernel)
  have wd3 := hts (.fieldLink RX12 404 "StoryDeskModel" "hooks" "I") (by decide +kernel)
  have wd4 := hts (.fieldLink RX12 411 "StoryDeskModel" "early" "[Z") (by decide +kernel)
  have wd5 := hts (.fieldLink RX12 415 "StoryDeskModel" "hookScript" "[I") (by decide +kernel)
  have hl : lv_has ls 4 [(0, .ref h0), (1, .int before), (2, .int script)] := hl
  have hH : sj_H D A ([(h0, .inr (12, sj_M g th)), ((g 62), .inl (kt, 9, .inl (fun _ => 0))), ((g 68), .inl (kb, 8, .inl fb)), ((g 69), .inl (ki, 8, .inl fi))] ++ []) s.heap := hH
  refine lv_aload_n hx hb dX12_hook_0 rfl (lv_at hl 0 rfl) ?_
  refine sj_calli (wr := [((g 62), .inl (kt, 9, .inl (fun _ => 0))), ((g 68), .inl (kb, 8, .inl fb)), ((g 69), .inl (ki, 8, .inl fi))]) (va_runV (As := []) (rest := []) ⟨hx, hb, hml, hown, hts⟩ (c_X12_busy l D h0 g th 0 0 0 0 0 0 0 0 0 0 0 0 0 0 0 0 0 0 0 0 0 0 0 0 0 0 0 0 0 0 0 0 0 s.heap.size) (cwV 0 hts gX12_hook_X12_busy rfl rfl rfl (by decide +kernel) ⟨(Nat.le_of_ble_eq_true rfl), (Nat.le_of_ble_eq_true rfl)⟩) (sj_preV (q := (RX12, TX12, 86)) hH hK [0] rfl rfl [] rfl rfl rfl sj_bln sj_exn) rfl rfl hl.1 rfl (lv_room (Nat.le_of_ble_eq_true rfl)) dX12_hook_1 ⟨(Nat.le_of_ble_eq_true rfl), (Nat.le_of_ble_eq_true rfl)⟩) hH hK hS hA [0] [1, 2, 3] rfl rfl rfl rfl (by decide) rfl rfl (fun r_1 u_2 H locs hw_3 hH hK hS => ?_)
  have hH : sj_H D A ([((g 62), .inl (kt, 9, .inl (fun _ => 0))), ((g 68), .inl (kb, 8, .inl fb)), ((g 69), .inl (ki, 8, .inl fi)), (h0, .inr (12, sj_M g 0))] ++ []) H := hH
  have hK : va_K D vwCl [(kt, .int), (kb, .boolean), (ki, .int)] s := by simpa using hK
  subst hw_3
  refine lv_if_eq (tgt := 9) hx hb dX12_hook_4 (by decide) (fun _ => ?_) (fun h => absurd (by decide) h)
  refine lv_aload_n hx hb dX12_hook_9 rfl (lv_at hl 0 rfl) ?_
  refine lv_aload_n hx hb dX12_hook_10 rfl (lv_at hl 0 rfl) ?_
  refine va_get (D := D) (ci := 12) (v := .ref (g 1)) (C := RX12) (T := TX12) (N := 86) hx hb hts in12 hown hK hH.1 3 rfl rfl 1 (by decide) wd0 (fun _ h9 => h9) rfl dX12_hook_11 ?_
  refine lv_iconst (v := 0) hx hb dX12_hook_14 (by decide) ?_
  refine lv_aload_n hx hb dX12_hook_15 rfl (lv_at hl 0 rfl) ?_
  refine va_get (D := D) (ci := 12) (v := .int 0) (C := RX12) (T := TX12) (N := 86) hx hb hts in12 hown hK hH.1 3 rfl rfl 2 (by decide) wd1 (fun _ h9 => h9) rfl dX12_hook_16 ?_
  refine lv_iconst (v := 0) hx hb dX12_hook_19 (by decide) ?_
  refine sj_calli (wr := [((g 62), .inl (kt, 9, .inl (fun _ => 0))), ((g 68), .inl (kb, 8, .inl fb)), ((g 69), .inl (ki, 8, .inl fi))]) (va_runV (As := [.ref (g 1), .int 0, .int 0, .int 0]) (rest := []) ⟨hx, hb, hml, hown, hts⟩ (c_X12_test l D h0 g 0 0 0 0 0 0 0 0 0 0 0 0 0 0 0 0 0 0 0 0 0 0 0 0 0 0 0 0 0 0 0 0 0 0 0 (g 1) H.size) (cwV 4 hts gX12_hook_X12_test rfl rfl rfl (by decide +kernel) ⟨(Nat.le_of_ble_eq_true rfl), (Nat.le_of_ble_eq_true rfl)⟩) (sj_preV (q := (RX12, TX12, 86)) hH hK [3] rfl rfl [] rfl rfl rfl sj_bln sj_exn) rfl rfl hl.1 rfl (lv_room (Nat.le_of_ble_eq_true rfl)) dX12_hook_20 ⟨(Nat.le_of_ble_eq_true rfl), (Nat.le_of_ble_eq_true rfl)⟩) hH hK hS hA [3] [0, 1, 2] rfl rfl rfl rfl (by decide) rfl rfl (fun r_5 u_6 H locs hw_7 hH hK hS => ?_)
  have hH : sj_H D A ([((g 62), .inl (kt, 9, .inl (fun _ => 0))), ((g 68), .inl (kb, 8, .inl fb)), ((g 69), .inl (ki, 8, .inl fi)), (h0, .inr (12, sj_M g 0))] ++ []) H := hH
  have hK : va_K D vwCl [(kt, .int), (kb, .boolean), (ki, .int)] s := by simpa using hK
  subst hw_7
  refine lv_if_lt (tgt := 40) hx hb dX12_hook_23 (by decide) (fun h => absurd h (by decide)) (fun _ => ?_)
  refine lv_iload_n hx hb dX12_hook_26 rfl (lv_at hl 2 rfl) ?_
  refine lv_if_lt (tgt := 40) hx hb dX12_hook_27 (by decide) (fun c_9 => ?_) (fun c_9 => ?_)
  · skip
    have d_10 := sj_ltF (n := 0) (by decide) c_9
    refine lv_iconst (v := 0) hx hb dX12_hook_40 (by decide) ?_
    refine lv_istore_n (lv' := [(3, .int 0), (0, .ref h0), (1, .int before), (2, .int script)]) hx hb dX12_hook_41 rfl hl (by decide) rfl (fun ls hl => ?_)
    refine lv_aload_n hx hb dX12_hook_42 rfl (lv_at hl 1 rfl) ?_
    refine lv_iload_n hx hb dX12_hook_43 rfl (lv_at hl 0 rfl) ?_
    refine lv_if_ne (tgt := 51) hx hb dX12_hook_44 (by decide) (fun h => absurd (by decide) h) (fun _ => ?_)
    refine lv_iconst (v := 2) hx hb dX12_hook_47 (by decide) ?_
    refine lv_goto (tgt := 65) hx hb dX12_hook_48 (by decide) ?_
    refine sj_put (D := D) (ci := 12) (v := .int 2) (ty := .int) (C := RX12) (F := TX12) (N := 86) hx hb hts in12 tyX12 tyX12_ok nmX12 hown hK hH hS 3 rfl rfl 0 (by decide) wd2 (fun _ h9 => h9) rfl (by decide +kernel) rfl rfl (Nat.le_of_ble_eq_true rfl) dX12_hook_65 (fun H locs (hH : sj_H D A ([((g 62), .inl (kt, 9, .inl (fun _ => 0))), ((g 68), .inl (kb, 8, .inl fb)), ((g 69), .inl (ki, 8, .inl fi)), (h0, .inr (12, sj_M g 2))] ++ []) H) hS => ?_)
    refine lv_aload_n hx hb dX12_hook_68 rfl (lv_at hl 1 rfl) ?_
    refine va_get (D := D) (ci := 12) (v := .int 2) (C := RX12) (T := TX12) (N := 86) hx hb hts in12 hown hK hH.1 3 rfl rfl 0 (by decide) wd2 (fun _ h9 => h9) rfl dX12_hook_69 ?_
    refine lv_if_ne (tgt := 83) hx hb dX12_hook_72 (by decide) (fun _ => ?_) (fun h => absurd h (by decide))
    refine lv_aload_n hx hb dX12_hook_83 rfl (lv_at hl 1 rfl) ?_
    refine lv_iconst (v := 0) hx hb dX12_hook_84 (by decide) ?_
    refine sj_put (D := D) (ci := 12) (v := .int 0) (ty := .int) (C := RX12) (F := TX12) (N := 86) hx hb hts in12 tyX12 tyX12_ok nmX12 hown hK hH hS 3 rfl rfl 2 (by decide) wd1 (fun _ h9 => h9) rfl (by decide +kernel) rfl rfl (Nat.le_of_ble_eq_true rfl) dX12_hook_85 (fun H locs (hH : sj_H D A ([((g 62), .inl (kt, 9, .inl (fun _ => 0))), ((g 68), .inl (kb, 8, .inl fb)), ((g 69), .inl (ki, 8, .inl fi)), (h0, .inr (12, sj_M g 2))] ++ []) H) hS => ?_)
    refine lv_aload_n hx hb dX12_hook_88 rfl (lv_at hl 1 rfl) ?_
    refine va_get (D := D) (ci := 12) (v := .int 2) (C := RX12) (T := TX12) (N := 86) hx hb hts in12 hown hK hH.1 3 rfl rfl 0 (by decide) wd2 (fun _ h9 => h9) rfl dX12_hook_89 ?_
    refine lv_if_le (tgt := 97) hx hb dX12_hook_92 (by decide) (fun h => absurd h (by decide)) (fun _ => ?_)
    refine lv_iconst (v := 0) hx hb dX12_hook_95 (by decide) ?_
    exact sj_zret hx hb hr hlocks rfl hS [.int 2, .ref (g 1), .int 0, .ref (g 3), .int 0, .ref (g 5), .int 0, .int 0, .int 0, .int 0, .int 0, .int 0, .ref (g 12), .int 0, .ref (g 14), .ref (g 15), .ref (g 16), .int 0, .int 0, .ref (g 19), .ref (g 20), .ref (g 21), .ref (g 22), .int 0, .ref (g 24), .ref (g 25), .int 0, .int 0, .ref (g 28), .ref (g 29), .ref (g 30), .ref (g 31), .ref (g 32), .int 0, .ref (g 34), .ref (g 35), .ref (g 36), .ref (g 37), .ref (g 38), .ref (g 39), .int 0, .int 0, .ref (g 42), .ref (g 43), .ref (g 44), .int 0, .ref (g 46), .ref (g 47), .ref (g 48), .int 0, .ref (g 50), .ref (g 51), .int 0, .ref (g 53), .int 0, .int 0, .ref (g 56), .int 0, .ref (g 58), .ref (g 59), .ref (g 60), .ref (g 61), .ref (g 62), .ref (g 63), .ref (g 64), .int 0, .int 0, .int 0, .ref (g 68), .ref (g 69), .ref (g 70), .ref (g 71), .ref (g 72), .ref (g 73), .int 0, .int 0, .int 0, .int 0, .int 0, .int 0, .int 0, .int 0, .ref (g 82), .ref (g 83), .ref (g 84), .ref (g 85)] (Or.inr ⟨rfl, by omega⟩) (sj_sub hH [3] rfl rfl) (sj_Knil hK) (Nat.le_of_ble_eq_true rfl) (Nat.le_of_ble_eq_true rfl) dX12_hook_96
  · skip
    have d_14 := sj_nlt (n := 0) (by decide) c_9
    refine lv_iload_n hx hb dX12_hook_30 rfl (lv_at hl 2 rfl) ?_
    refine lv_bipush (v := 8) hx hb dX12_hook_31 (by decide) ?_
    refine lv_icmp_ge (tgt := 40) hx hb dX12_hook_33 (by decide) (fun c_15 => ?_) (fun c_15 => ?_)
    · skip
      have d_16 := sj_geF (n := 8) (by decide) c_15
      refine lv_iconst (v := 0) hx hb dX12_hook_40 (by decide) ?_
      refine lv_istore_n (lv' := [(3, .int 0), (0, .ref h0), (1, .int before), (2, .int script)]) hx hb dX12_hook_41 rfl hl (by decide) rfl (fun ls hl => ?_)
      refine lv_aload_n hx hb dX12_hook_42 rfl (lv_at hl 1 rfl) ?_
      refine lv_iload_n hx hb dX12_hook_43 rfl (lv_at hl 0 rfl) ?_
      refine lv_if_ne (tgt := 51) hx hb dX12_hook_44 (by decide) (fun h => absurd (by decide) h) (fun _ => ?_)
      refine lv_iconst (v := 2) hx hb dX12_hook_47 (by decide) ?_
      refine lv_goto (tgt := 65) hx hb dX12_hook_48 (by decide) ?_
      refine sj_put (D := D) (ci := 12) (v := .int 2) (ty := .int) (C := RX12) (F := TX12) (N := 86) hx hb hts in12 tyX12 tyX12_ok nmX12 hown hK hH hS 3 rfl rfl 0 (by decide) wd2 (fun _ h9 => h9) rfl (by decide +kernel) rfl rfl (Nat.le_of_ble_eq_true rfl) dX12_hook_65 (fun H locs (hH : sj_H D A ([((g 62), .inl (kt, 9, .inl (fun _ => 0))), ((g 68), .inl (kb, 8, .inl fb)), ((g 69), .inl (ki, 8, .inl fi)), (h0, .inr (12, sj_M g 2))] ++ []) H) hS => ?_)
      refine lv_aload_n hx hb dX12_hook_68 rfl (lv_at hl 1 rfl) ?_
      refine va_get (D := D) (ci := 12) (v := .int 2) (C := RX12) (T := TX12) (N := 86) hx hb hts in12 hown hK hH.1 3 rfl rfl 0 (by decide) wd2 (fun _ h9 => h9) rfl dX12_hook_69 ?_
      refine lv_if_ne (tgt := 83) hx hb dX12_hook_72 (by decide) (fun _ => ?_) (fun h => absurd h (by decide))
      refine lv_aload_n hx hb dX12_hook_83 rfl (lv_at hl 1 rfl) ?_
      refine lv_iconst (v := 0) hx hb dX12_hook_84 (by decide) ?_
      refine sj_put (D := D) (ci := 12) (v := .int 0) (ty := .int) (C := RX12) (F := TX12) (N := 86) hx hb hts in12 tyX12 tyX12_ok nmX12 hown hK hH hS 3 rfl rfl 2 (by decide) wd1 (fun _ h9 => h9) rfl (by decide +kernel) rfl rfl (Nat.le_of_ble_eq_true rfl) dX12_hook_85 (fun H locs (hH : sj_H D A ([((g 62), .inl (kt, 9, .inl (fun _ => 0))), ((g 68), .inl (kb, 8, .inl fb)), ((g 69), .inl (ki, 8, .inl fi)), (h0, .inr (12, sj_M g 2))] ++ []) H) hS => ?_)
      refine lv_aload_n hx hb dX12_hook_88 rfl (lv_at hl 1 rfl) ?_
      refine va_get (D := D) (ci := 12) (v := .int 2) (C := RX12) (T := TX12) (N := 86) hx hb hts in12 hown hK hH.1 3 rfl rfl 0 (by decide) wd2 (fun _ h9 => h9) rfl dX12_hook_89 ?_
      refine lv_if_le (tgt := 97) hx hb dX12_hook_92 (by decide) (fun h => absurd h (by decide)) (fun _ => ?_)
      refine lv_iconst (v := 0) hx hb dX12_hook_95 (by decide) ?_
      exact sj_zret hx hb hr hlocks rfl hS [.int 2, .ref (g 1), .int 0, .ref (g 3), .int 0, .ref (g 5), .int 0, .int 0, .int 0, .int 0, .int 0, .int 0, .ref (g 12), .int 0, .ref (g 14), .ref (g 15), .ref (g 16), .int 0, .int 0, .ref (g 19), .ref (g 20), .ref (g 21), .ref (g 22), .int 0, .ref (g 24), .ref (g 25), .int 0, .int 0, .ref (g 28), .ref (g 29), .ref (g 30), .ref (g 31), .ref (g 32), .int 0, .ref (g 34), .ref (g 35), .ref (g 36), .ref (g 37), .ref (g 38), .ref (g 39), .int 0, .int 0, .ref (g 42), .ref (g 43), .ref (g 44), .int 0, .ref (g 46), .ref (g 47), .ref (g 48), .int 0, .ref (g 50), .ref (g 51), .int 0, .ref (g 53), .int 0, .int 0, .ref (g 56), .int 0, .ref (g 58), .ref (g 59), .ref (g 60), .ref (g 61), .ref (g 62), .ref (g 63), .ref (g 64), .int 0, .int 0, .int 0, .ref (g 68), .ref (g 69), .ref (g 70), .ref (g 71), .ref (g 72), .ref (g 73), .int 0, .int 0, .int 0, .int 0, .int 0, .int 0, .int 0, .int 0, .ref (g 82), .ref (g 83), .ref (g 84), .ref (g 85)] (Or.inr ⟨rfl, by omega⟩) (sj_sub hH [3] rfl rfl) (sj_Knil hK) (Nat.le_of_ble_eq_true rfl) (Nat.le_of_ble_eq_true rfl) dX12_hook_96
    · skip
      have d_20 := sj_nge (n := 8) (by decide) c_15
      refine lv_iconst (v := 1) hx hb dX12_hook_36 (by decide) ?_
      refine lv_goto (tgt := 41) hx hb dX12_hook_37 (by decide) ?_
      refine lv_istore_n (lv' := [(3, .int 1), (0, .ref h0), (1, .int before), (2, .int script)]) hx hb dX12_hook_41 rfl hl (by decide) rfl (fun ls hl => ?_)
      refine lv_aload_n hx hb dX12_hook_42 rfl (lv_at hl 1 rfl) ?_
      refine lv_iload_n hx hb dX12_hook_43 rfl (lv_at hl 0 rfl) ?_
      refine lv_if_ne (tgt := 51) hx hb dX12_hook_44 (by decide) (fun _ => ?_) (fun h => absurd h (by decide))
      refine lv_aload_n hx hb dX12_hook_51 rfl (lv_at hl 1 rfl) ?_
      refine va_get (D := D) (ci := 12) (v := .int 0) (C := RX12) (T := TX12) (N := 86) hx hb hts in12 hown hK hH.1 3 rfl rfl 67 (by decide) wd3 (fun _ h9 => h9) rfl dX12_hook_52 ?_
      refine lv_bipush (v := 8) hx hb dX12_hook_55 (by decide) ?_
      refine lv_icmp_ne (tgt := 64) hx hb dX12_hook_57 (by decide) (fun _ => ?_) (fun h => absurd h (by decide))
      refine lv_iconst (v := 0) hx hb dX12_hook_64 (by decide) ?_
      refine sj_put (D := D) (ci := 12) (v := .int 0) (ty := .int) (C := RX12) (F := TX12) (N := 86) hx hb hts in12 tyX12 tyX12_ok nmX12 hown hK hH hS 3 rfl rfl 0 (by decide) wd2 (fun _ h9 => h9) rfl (by decide +kernel) rfl rfl (Nat.le_of_ble_eq_true rfl) dX12_hook_65 (fun H locs (hH : sj_H D A ([((g 62), .inl (kt, 9, .inl (fun _ => 0))), ((g 68), .inl (kb, 8, .inl fb)), ((g 69), .inl (ki, 8, .inl fi)), (h0, .inr (12, sj_M g 0))] ++ []) H) hS => ?_)
      refine lv_aload_n hx hb dX12_hook_68 rfl (lv_at hl 1 rfl) ?_
      refine va_get (D := D) (ci := 12) (v := .int 0) (C := RX12) (T := TX12) (N := 86) hx hb hts in12 hown hK hH.1 3 rfl rfl 0 (by decide) wd2 (fun _ h9 => h9) rfl dX12_hook_69 ?_
      refine lv_if_ne (tgt := 83) hx hb dX12_hook_72 (by decide) (fun h => absurd (by decide) h) (fun _ => ?_)
      refine lv_aload_n hx hb dX12_hook_75 rfl (lv_at hl 1 rfl) ?_
      refine lv_aload_n hx hb dX12_hook_76 rfl (lv_at hl 1 rfl) ?_
      refine va_get (D := D) (ci := 12) (v := .int 0) (C := RX12) (T := TX12) (N := 86) hx hb hts in12 hown hK hH.1 3 rfl rfl 67 (by decide) wd3 (fun _ h9 => h9) rfl dX12_hook_77 ?_
      refine sj_callv (wr := [((g 68), .inl (kb, 8, .inl fb)), ((g 69), .inl (ki, 8, .inl fi))]) (va_runV (As := [.int 0]) (rest := []) ⟨hx, hb, hml, hown, hts⟩ (c_X12_keep0 l D h0 g 0 0 0 0 0 0 0 0 0 0 0 0 0 0 0 0 0 0 0 0 0 0 0 0 0 0 0 0 0 0 0 0 0 0 (fun _ => 0) kt H.size) (cwV 1 hts gX12_hook_X12_keep rfl rfl rfl (by decide +kernel) ⟨(Nat.le_of_ble_eq_true rfl), (Nat.le_of_ble_eq_true rfl)⟩) (sj_preV (q := (RX12, TX12, 86)) hH hK [3, 0] rfl rfl [0] rfl rfl rfl sj_bln sj_exn) rfl rfl hl.1 rfl (lv_room (Nat.le_of_ble_eq_true rfl)) dX12_hook_80 ⟨(Nat.le_of_ble_eq_true rfl), (Nat.le_of_ble_eq_true rfl)⟩) hH hK hS hA [3, 0] [1, 2] rfl rfl rfl rfl (by decide) rfl rfl (fun u_25 H locs hw_26 hH hK hS => ?_)
      have hH : sj_H D A ([((g 68), .inl (kb, 8, .inl fb)), ((g 69), .inl (ki, 8, .inl fi)), (h0, .inr (12, sj_M g 0))] ++ []) H := hH
      have hK : va_K D vwCl [(kt, .int), (kb, .boolean), (ki, .int)] s := by simpa using hK
      refine lv_aload_n hx hb dX12_hook_83 rfl (lv_at hl 1 rfl) ?_
      refine lv_iconst (v := 0) hx hb dX12_hook_84 (by decide) ?_
      refine sj_put (D := D) (ci := 12) (v := .int 0) (ty := .int) (C := RX12) (F := TX12) (N := 86) hx hb hts in12 tyX12 tyX12_ok nmX12 hown hK hH hS 2 rfl rfl 2 (by decide) wd1 (fun _ h9 => h9) rfl (by decide +kernel) rfl rfl (Nat.le_of_ble_eq_true rfl) dX12_hook_85 (fun H locs (hH : sj_H D A ([((g 68), .inl (kb, 8, .inl fb)), ((g 69), .inl (ki, 8, .inl fi)), (h0, .inr (12, sj_M g 0))] ++ []) H) hS => ?_)
      refine lv_aload_n hx hb dX12_hook_88 rfl (lv_at hl 1 rfl) ?_
      refine va_get (D := D) (ci := 12) (v := .int 0) (C := RX12) (T := TX12) (N := 86) hx hb hts in12 hown hK hH.1 2 rfl rfl 0 (by decide) wd2 (fun _ h9 => h9) rfl dX12_hook_89 ?_
      refine lv_if_le (tgt := 97) hx hb dX12_hook_92 (by decide) (fun _ => ?_) (fun h => absurd (by decide) h)
      refine lv_aload_n hx hb dX12_hook_97 rfl (lv_at hl 1 rfl) ?_
      refine va_get (D := D) (ci := 12) (v := .ref (g 68)) (C := RX12) (T := TX12) (N := 86) hx hb hts in12 hown hK hH.1 2 rfl rfl 68 (by decide) wd4 (fun _ h9 => h9) rfl dX12_hook_98 ?_
      refine lv_aload_n hx hb dX12_hook_101 rfl (lv_at hl 1 rfl) ?_
      refine va_get (D := D) (ci := 12) (v := .int 0) (C := RX12) (T := TX12) (N := 86) hx hb hts in12 hown hK hH.1 2 rfl rfl 67 (by decide) wd3 (fun _ h9 => h9) rfl dX12_hook_102 ?_
      refine lv_iload_n hx hb dX12_hook_105 rfl (lv_at hl 2 rfl) ?_
      refine sj_zast hx hb hK hH hS 0 1 rfl rfl (sj_vin (by decide) (by decide)) dX12_hook_106 (fun H locs hH hS => ?_)
      have hH : sj_H D A ([((g 68), .inl (kb, 8, .inl (upd fb 0 (vp_nar .boolean before)))), ((g 69), .inl (ki, 8, .inl fi)), (h0, .inr (12, sj_M g 0))] ++ []) H := hH
      refine lv_aload_n hx hb dX12_hook_107 rfl (lv_at hl 1 rfl) ?_
      refine va_get (D := D) (ci := 12) (v := .ref (g 69)) (C := RX12) (T := TX12) (N := 86) hx hb hts in12 hown hK hH.1 2 rfl rfl 69 (by decide) wd5 (fun _ h9 => h9) rfl dX12_hook_108 ?_
      refine lv_aload_n hx hb dX12_hook_111 rfl (lv_at hl 1 rfl) ?_
      refine va_get (D := D) (ci := 12) (v := .int 0) (C := RX12) (T := TX12) (N := 86) hx hb hts in12 hown hK hH.1 2 rfl rfl 67 (by decide) wd3 (fun _ h9 => h9) rfl dX12_hook_112 ?_
      refine lv_iload_n hx hb dX12_hook_115 rfl (lv_at hl 3 rfl) ?_
      refine sj_iast hx hb hK hH hS 1 2 rfl rfl (sj_vin (by decide) (by decide)) dX12_hook_116 (fun H locs hH hS => ?_)
      have hH : sj_H D A ([((g 68), .inl (kb, 8, .inl (upd fb 0 (vp_nar .boolean before)))), ((g 69), .inl (ki, 8, .inl (upd fi 0 script))), (h0, .inr (12, sj_M g 0))] ++ []) H := hH
      refine lv_aload_n hx hb dX12_hook_117 rfl (lv_at hl 1 rfl) ?_
      refine lv_dup hx hb dX12_hook_118 rfl ?_
      refine va_get (D := D) (ci := 12) (v := .int 0) (C := RX12) (T := TX12) (N := 86) hx hb hts in12 hown hK hH.1 2 rfl rfl 67 (by decide) wd3 (fun _ h9 => h9) rfl dX12_hook_119 ?_
      refine lv_iconst (v := 1) hx hb dX12_hook_122 (by decide) ?_
      refine lv_iadd hx hb dX12_hook_123 ?_
      refine sj_i (y := 1) (by decide) ?_
      refine sj_put (D := D) (ci := 12) (v := .int 1) (ty := .int) (C := RX12) (F := TX12) (N := 86) hx hb hts in12 tyX12 tyX12_ok nmX12 hown hK hH hS 2 rfl rfl 67 (by decide) wd3 (fun _ h9 => h9) rfl (by decide +kernel) rfl rfl (Nat.le_of_ble_eq_true rfl) dX12_hook_124 (fun H locs (hH : sj_H D A ([((g 68), .inl (kb, 8, .inl (upd fb 0 (vp_nar .boolean before)))), ((g 69), .inl (ki, 8, .inl (upd fi 0 script))), (h0, .inr (12, [.int 0, .ref (g 1), .int 0, .ref (g 3), .int 0, .ref (g 5), .int 0, .int 0, .int 0, .int 0, .int 0, .int 0, .ref (g 12), .int 0, .ref (g 14), .ref (g 15), .ref (g 16), .int 0, .int 0, .ref (g 19), .ref (g 20), .ref (g 21), .ref (g 22), .int 0, .ref (g 24), .ref (g 25), .int 0, .int 0, .ref (g 28), .ref (g 29), .ref (g 30), .ref (g 31), .ref (g 32), .int 0, .ref (g 34), .ref (g 35), .ref (g 36), .ref (g 37), .ref (g 38), .ref (g 39), .int 0, .int 0, .ref (g 42), .ref (g 43), .ref (g 44), .int 0, .ref (g 46), .ref (g 47), .ref (g 48), .int 0, .ref (g 50), .ref (g 51), .int 0, .ref (g 53), .int 0, .int 0, .ref (g 56), .int 0, .ref (g 58), .ref (g 59), .ref (g 60), .ref (g 61), .ref (g 62), .ref (g 63), .ref (g 64), .int 0, .int 0, .int 1, .ref (g 68), .ref (g 69), .ref (g 70), .ref (g 71), .ref (g 72), .ref (g 73), .int 0, .int 0, .int 0, .int 0, .int 0, .int 0, .int 0, .int 0, .ref (g 82), .ref (g 83), .ref (g 84), .ref (g 85)]))] ++ []) H) hS => ?_)
      refine lv_aload_n hx hb dX12_hook_127 rfl (lv_at hl 1 rfl) ?_
      refine va_get (D := D) (ci := 12) (v := .int 1) (C := RX12) (T := TX12) (N := 86) hx hb hts in12 hown hK hH.1 2 rfl rfl 67 (by decide) wd3 (fun _ h9 => h9) rfl dX12_hook_128 ?_
      refine lv_iconst (v := 1) hx hb dX12_hook_131 (by decide) ?_
      refine lv_isub hx hb dX12_hook_132 ?_
      refine sj_i (y := 0) (by decide) ?_
      exact sj_zret hx hb hr hlocks rfl hS [.int 0, .ref (g 1), .int 0, .ref (g 3), .int 0, .ref (g 5), .int 0, .int 0, .int 0, .int 0, .int 0, .int 0, .ref (g 12), .int 0, .ref (g 14), .ref (g 15), .ref (g 16), .int 0, .int 0, .ref (g 19), .ref (g 20), .ref (g 21), .ref (g 22), .int 0, .ref (g 24), .ref (g 25), .int 0, .int 0, .ref (g 28), .ref (g 29), .ref (g 30), .ref (g 31), .ref (g 32), .int 0, .ref (g 34), .ref (g 35), .ref (g 36), .ref (g 37), .ref (g 38), .ref (g 39), .int 0, .int 0, .ref (g 42), .ref (g 43), .ref (g 44), .int 0, .ref (g 46), .ref (g 47), .ref (g 48), .int 0, .ref (g 50), .ref (g 51), .int 0, .ref (g 53), .int 0, .int 0, .ref (g 56), .int 0, .ref (g 58), .ref (g 59), .ref (g 60), .ref (g 61), .ref (g 62), .ref (g 63), .ref (g 64), .int 0, .int 0, .int 1, .ref (g 68), .ref (g 69), .ref (g 70), .ref (g 71), .ref (g 72), .ref (g 73), .int 0, .int 0, .int 0, .int 0, .int 0, .int 0, .int 0, .int 0, .ref (g 82), .ref (g 83), .ref (g 84), .ref (g 85)] (Or.inl ⟨rfl, rfl, by omega, by omega⟩) (sj_sub hH [2] rfl rfl) (sj_Knil hK) (Nat.le_of_ble_eq_true rfl) (Nat.le_of_ble_eq_true rfl) dX12_hook_133
set_option maxHeartbeats 4000000 in
set_option maxRecDepth 100000 in
theorem c_X12_filter (l : Launch) (D : va_G) (h0 : Nat) (g : Nat → Nat) (th : Int32) (kt : ClassId) (sz : Nat)  : Met l yX12_filter wsX12_filter ({ frames := 2, cells := 0, slots := 0, locals := 41 }) (va_Pc [.ref h0] (sj_B D [(h0, .inr (12, sj_M g th)), ((g 62), .inl (kt, 9, .inl (fun _ => 0)))] [(kt, .int)] sz sj_n)) (sj_Qi (S := (List Value)) D (fun r u => r = 0 ∧ u[0]? = some (.int 0)) (fun u => [(h0, .inr (12, u))]) (fun u => []) (va_A [(h0, .inr (12, sj_M g th)), ((g 62), .inl (kt, 9, .inl (fun _ => 0)))] sz)) 0 0 (va_A [(h0, .inr (12, sj_M g th)), ((g 62), .inl (kt, 9, .inl (fun _ => 0)))] sz) := by
  refine sj_met (cc := cX12_filter) (maxL := 1) (ret := (some .int)) (by decide) rfl (Nat.le_of_ble_eq_true rfl) ?_
  intro p e s m below meth c A ls hx hb hr hml hts hown hlocks hnm hA hsz hS hH hK hE hl
  have hown : s.vm.findClass RX12 = some m.cls := hown
  have in12 : ∀ w ∈ wsX120, w ∈ wsX12_filter := by decide +kernel
  have wd0 := hts (.fieldLink RX12 12 "StoryDeskModel" "text" "[C") (by decide +kernel)
  have wd1 := hts (.fieldLink RX12 7 "StoryDeskModel" "size" "I") (by decide +kernel)
  have wd2 := hts (.fieldLink RX12 1 "StoryDeskModel" "thrown" "I") (by decide +kernel)
  have hl : lv_has ls 1 [(0, .ref h0)] := hl
  have hH : sj_H D A ([(h0, .inr (12, sj_M g th)), ((g 62), .inl (kt, 9, .inl (fun _ => 0)))] ++ []) s.heap := hH
  refine lv_aload_n hx hb dX12_filter_0 rfl (lv_at hl 0 rfl) ?_
  refine sj_calli (wr := [((g 62), .inl (kt, 9, .inl (fun _ => 0)))]) (va_runV (As := []) (rest := []) ⟨hx, hb, hml, hown, hts⟩ (c_X12_busy l D h0 g th 0 0 0 0 0 0 0 0 0 0 0 0 0 0 0 0 0 0 0 0 0 0 0 0 0 0 0 0 0 0 0 0 0 s.heap.size) (cwV 0 hts gX12_filter_X12_busy rfl rfl rfl (by decide +kernel) ⟨(Nat.le_of_ble_eq_true rfl), (Nat.le_of_ble_eq_true rfl)⟩) (sj_preV (q := (RX12, TX12, 86)) hH hK [0] rfl rfl [] rfl rfl rfl sj_bln sj_exn) rfl rfl hl.1 rfl (lv_room (Nat.le_of_ble_eq_true rfl)) dX12_filter_1 ⟨(Nat.le_of_ble_eq_true rfl), (Nat.le_of_ble_eq_true rfl)⟩) hH hK hS hA [0] [1] rfl rfl rfl rfl (by decide) rfl rfl (fun r_1 u_2 H locs hw_3 hH hK hS => ?_)
  have hH : sj_H D A ([((g 62), .inl (kt, 9, .inl (fun _ => 0))), (h0, .inr (12, sj_M g 0))] ++ []) H := hH
  have hK : va_K D vwCl [(kt, .int)] s := by simpa using hK
  subst hw_3
  refine lv_if_eq (tgt := 9) hx hb dX12_filter_4 (by decide) (fun _ => ?_) (fun h => absurd (by decide) h)
  refine lv_aload_n hx hb dX12_filter_9 rfl (lv_at hl 0 rfl) ?_
  refine lv_aload_n hx hb dX12_filter_10 rfl (lv_at hl 0 rfl) ?_
  refine lv_aload_n hx hb dX12_filter_11 rfl (lv_at hl 0 rfl) ?_
  refine va_get (D := D) (ci := 12) (v := .ref (g 1)) (C := RX12) (T := TX12) (N := 86) hx hb hts in12 hown hK hH.1 1 rfl rfl 1 (by decide) wd0 (fun _ h9 => h9) rfl dX12_filter_12 ?_
  refine lv_iconst (v := 0) hx hb dX12_filter_15 (by decide) ?_
  refine lv_aload_n hx hb dX12_filter_16 rfl (lv_at hl 0 rfl) ?_
  refine va_get (D := D) (ci := 12) (v := .int 0) (C := RX12) (T := TX12) (N := 86) hx hb hts in12 hown hK hH.1 1 rfl rfl 2 (by decide) wd1 (fun _ h9 => h9) rfl dX12_filter_17 ?_
  refine lv_iconst (v := 0) hx hb dX12_filter_20 (by decide) ?_
  refine sj_calli (wr := [((g 62), .inl (kt, 9, .inl (fun _ => 0)))]) (va_runV (As := [.ref (g 1), .int 0, .int 0, .int 0]) (rest := [.ref h0]) ⟨hx, hb, hml, hown, hts⟩ (c_X12_test l D h0 g 0 0 0 0 0 0 0 0 0 0 0 0 0 0 0 0 0 0 0 0 0 0 0 0 0 0 0 0 0 0 0 0 0 0 0 (g 1) H.size) (cwV 4 hts gX12_filter_X12_test rfl rfl rfl (by decide +kernel) ⟨(Nat.le_of_ble_eq_true rfl), (Nat.le_of_ble_eq_true rfl)⟩) (sj_preV (q := (RX12, TX12, 86)) hH hK [1] rfl rfl [] rfl rfl rfl sj_bln sj_exn) rfl rfl hl.1 rfl (lv_room (Nat.le_of_ble_eq_true rfl)) dX12_filter_21 ⟨(Nat.le_of_ble_eq_true rfl), (Nat.le_of_ble_eq_true rfl)⟩) hH hK hS hA [1] [0] rfl rfl rfl rfl (by decide) rfl rfl (fun r_5 u_6 H locs hw_7 hH hK hS => ?_)
  have hH : sj_H D A ([((g 62), .inl (kt, 9, .inl (fun _ => 0))), (h0, .inr (12, sj_M g 0))] ++ []) H := hH
  have hK : va_K D vwCl [(kt, .int)] s := by simpa using hK
  subst hw_7
  refine lv_if_lt (tgt := 31) hx hb dX12_filter_24 (by decide) (fun h => absurd h (by decide)) (fun _ => ?_)
  refine lv_iconst (v := 0) hx hb dX12_filter_27 (by decide) ?_
  refine lv_goto (tgt := 32) hx hb dX12_filter_28 (by decide) ?_
  refine sj_put (D := D) (ci := 12) (v := .int 0) (ty := .int) (C := RX12) (F := TX12) (N := 86) hx hb hts in12 tyX12 tyX12_ok nmX12 hown hK hH hS 1 rfl rfl 0 (by decide) wd2 (fun _ h9 => h9) rfl (by decide +kernel) rfl rfl (Nat.le_of_ble_eq_true rfl) dX12_filter_32 (fun H locs (hH : sj_H D A ([((g 62), .inl (kt, 9, .inl (fun _ => 0))), (h0, .inr (12, sj_M g 0))] ++ []) H) hS => ?_)
  refine lv_aload_n hx hb dX12_filter_35 rfl (lv_at hl 0 rfl) ?_
  refine va_get (D := D) (ci := 12) (v := .int 0) (C := RX12) (T := TX12) (N := 86) hx hb hts in12 hown hK hH.1 1 rfl rfl 0 (by decide) wd2 (fun _ h9 => h9) rfl dX12_filter_36 ?_
  refine lv_if_ne (tgt := 48) hx hb dX12_filter_39 (by decide) (fun h => absurd (by decide) h) (fun _ => ?_)
  refine lv_aload_n hx hb dX12_filter_42 rfl (lv_at hl 0 rfl) ?_
  refine lv_bipush (v := 8) hx hb dX12_filter_43 (by decide) ?_
  refine sj_callv (wr := []) (va_runV (As := [.int 8]) (rest := []) ⟨hx, hb, hml, hown, hts⟩ (c_X12_keep8 l D h0 g 0 0 0 0 0 0 0 0 0 0 0 0 0 0 0 0 0 0 0 0 0 0 0 0 0 0 0 0 0 0 0 0 0 0 (fun _ => 0) kt H.size) (cwV 1 hts gX12_filter_X12_keep rfl rfl rfl (by decide +kernel) ⟨(Nat.le_of_ble_eq_true rfl), (Nat.le_of_ble_eq_true rfl)⟩) (sj_preV (q := (RX12, TX12, 86)) hH hK [1, 0] rfl rfl [0] rfl rfl rfl sj_bln sj_exn) rfl rfl hl.1 rfl (lv_room (Nat.le_of_ble_eq_true rfl)) dX12_filter_45 ⟨(Nat.le_of_ble_eq_true rfl), (Nat.le_of_ble_eq_true rfl)⟩) hH hK hS hA [1, 0] [] rfl rfl rfl rfl (by decide) rfl rfl (fun u_11 H locs hw_12 hH hK hS => ?_)
  have hH : sj_H D A ([(h0, .inr (12, sj_M g 0))] ++ []) H := hH
  have hK : va_K D vwCl [(kt, .int)] s := by simpa using hK
  refine lv_aload_n hx hb dX12_filter_48 rfl (lv_at hl 0 rfl) ?_
  refine lv_iconst (v := 0) hx hb dX12_filter_49 (by decide) ?_
  refine sj_put (D := D) (ci := 12) (v := .int 0) (ty := .int) (C := RX12) (F := TX12) (N := 86) hx hb hts in12 tyX12 tyX12_ok nmX12 hown hK hH hS 0 rfl rfl 2 (by decide) wd1 (fun _ h9 => h9) rfl (by decide +kernel) rfl rfl (Nat.le_of_ble_eq_true rfl) dX12_filter_50 (fun H locs (hH : sj_H D A ([(h0, .inr (12, sj_M g 0))] ++ []) H) hS => ?_)
  refine lv_aload_n hx hb dX12_filter_53 rfl (lv_at hl 0 rfl) ?_
  refine va_get (D := D) (ci := 12) (v := .int 0) (C := RX12) (T := TX12) (N := 86) hx hb hts in12 hown hK hH.1 0 rfl rfl 0 (by decide) wd2 (fun _ h9 => h9) rfl dX12_filter_54 ?_
  refine lv_if_le (tgt := 64) hx hb dX12_filter_57 (by decide) (fun _ => ?_) (fun h => absurd (by decide) h)
  refine lv_aload_n hx hb dX12_filter_64 rfl (lv_at hl 0 rfl) ?_
  refine sj_calli (wr := []) (va_runV (As := []) (rest := []) ⟨hx, hb, hml, hown, hts⟩ (c_X12_wanted l D h0 g 0 0 0 0 0 0 0 0 0 0 0 0 0 0 0 0 0 0 0 0 0 0 0 0 0 0 0 0 0 0 0 0 0 0 H.size) (cwV 0 hts gX12_filter_X12_wanted rfl rfl rfl (by decide +kernel) ⟨(Nat.le_of_ble_eq_true rfl), (Nat.le_of_ble_eq_true rfl)⟩) (sj_preV (q := (RX12, TX12, 86)) hH hK [0] rfl rfl [] rfl rfl rfl sj_bln sj_exn) rfl rfl hl.1 rfl (lv_room (Nat.le_of_ble_eq_true rfl)) dX12_filter_65 ⟨(Nat.le_of_ble_eq_true rfl), (Nat.le_of_ble_eq_true rfl)⟩) hH hK hS hA [0] [] rfl rfl rfl rfl (by decide) rfl rfl (fun r_14 u_15 H locs hw_16 hH hK hS => ?_)
  have hH : sj_H D A ([(h0, .inr (12, sj_M g 0))] ++ []) H := hH
  have hK : va_K D vwCl [(kt, .int)] s := by simpa using hK
  subst hw_16
  exact sj_zret hx hb hr hlocks rfl hS [.int 0, .ref (g 1), .int 0, .ref (g 3), .int 0, .ref (g 5), .int 0, .int 0, .int 0, .int 0, .int 0, .int 0, .ref (g 12), .int 0, .ref (g 14), .ref (g 15), .ref (g 16), .int 0, .int 0, .ref (g 19), .ref (g 20), .ref (g 21), .ref (g 22), .int 0, .ref (g 24), .ref (g 25), .int 0, .int 0, .ref (g 28), .ref (g 29), .ref (g 30), .ref (g 31), .ref (g 32), .int 0, .ref (g 34), .ref (g 35), .ref (g 36), .ref (g 37), .ref (g 38), .ref (g 39), .int 0, .int 0, .ref (g 42), .ref (g 43), .ref (g 44), .int 0, .ref (g 46), .ref (g 47), .ref (g 48), .int 0, .ref (g 50), .ref (g 51), .int 0, .ref (g 53), .int 0, .int 0, .ref (g 56), .int 0, .ref (g 58), .ref (g 59), .ref (g 60), .ref (g 61), .ref (g 62), .ref (g 63), .ref (g 64), .int 0, .int 0, .int 0, .ref (g 68), .ref (g 69), .ref (g 70), .ref (g 71), .ref (g 72), .ref (g 73), .int 0, .int 0, .int 0, .int 0, .int 0, .int 0, .int 0, .int 0, .ref (g 82), .ref (g 83), .ref (g 84), .ref (g 85)] ⟨rfl, rfl⟩ (sj_sub hH [0] rfl rfl) (sj_Knil hK) (Nat.le_of_ble_eq_true rfl) (Nat.le_of_ble_eq_true rfl) dX12_filter_68
set_option maxHeartbeats 4000000 in
set_option maxRecDepth 100000 in
theorem c_X12_command (l : Launch) (D : va_G) (h0 : Nat) (g : Nat → Nat) (th : Int32) (script : Int32) (command : Int32) (k : Int32) (kc : ClassId) (fc : Nat → Int32) (kn : ClassId) (fn : Nat → Int32) (ks : ClassId) (sz : Nat)  : Met l yX12_command wsX12_command ({ frames := 0, cells := 0, slots := 0, locals := 0 }) (va_Pc [.ref h0, .int script, .int command, .int k] (sj_B D [(h0, .inr (12, sj_M g th)), ((g 70), .inl (kc, 32, .inl fc)), ((g 71), .inl (kn, 32, .inl fn)), ((g 72), .inl (ks, 8, .inl (fun _ => 0)))] [(kc, .int), (kn, .int), (ks, .int)] sz sj_n)) (sj_Qi (S := (List Value)) D (fun r _ => r = if (0 ≤ script.toInt ∧ script.toInt ≤ 7) ∧ 0 ≤ command.toInt ∧ command.toInt ≤ 8 then 1 else 0) (fun u => [(h0, .inr (12, u))]) (fun u => []) (va_A [(h0, .inr (12, sj_M g th)), ((g 70), .inl (kc, 32, .inl fc)), ((g 71), .inl (kn, 32, .inl fn)), ((g 72), .inl (ks, 8, .inl (fun _ => 0)))] sz)) 0 0 (va_A [(h0, .inr (12, sj_M g th)), ((g 70), .inl (kc, 32, .inl fc)), ((g 71), .inl (kn, 32, .inl fn)), ((g 72), .inl (ks, 8, .inl (fun _ => 0)))] sz) := by
  refine sj_met (cc := cX12_command) (maxL := 5) (ret := (some .boolean)) (by decide) rfl (Nat.le_of_ble_eq_true rfl) ?_
  intro p e s m below meth c A ls hx hb hr hml hts hown hlocks hnm hA hsz hS hH hK hE hl
  have hown : s.vm.findClass RX12 = some m.cls := hown
  have in12 : ∀ w ∈ wsX120, w ∈ wsX12_command := by decide +kernel
  have wd0 := hts (.fieldLink RX12 1 "StoryDeskModel" "thrown" "I") (by decide +kernel)
  have wd1 := hts (.fieldLink RX12 168 "StoryDeskModel" "running" "Z") (by decide +kernel)
  have wd2 := hts (.fieldLink RX12 424 "StoryDeskModel" "scripted" "[I") (by decide +kernel)
  have wd3 := hts (.fieldLink RX12 427 "StoryDeskModel" "commands" "[I") (by decide +kernel)
  have wd4 := hts (.fieldLink RX12 430 "StoryDeskModel" "numbers" "[I") (by decide +kernel)
  have hl : lv_has ls 5 [(0, .ref h0), (1, .int script), (2, .int command), (3, .int k)] := hl
  have hH : sj_H D A ([(h0, .inr (12, sj_M g th)), ((g 70), .inl (kc, 32, .inl fc)), ((g 71), .inl (kn, 32, .inl fn)), ((g 72), .inl (ks, 8, .inl (fun _ => 0)))] ++ []) s.heap := hH
  refine lv_aload_n hx hb dX12_command_0 rfl (lv_at hl 0 rfl) ?_
  refine lv_iconst (v := 0) hx hb dX12_command_1 (by decide) ?_
  refine sj_put (D := D) (ci := 12) (v := .int 0) (ty := .int) (C := RX12) (F := TX12) (N := 86) hx hb hts in12 tyX12 tyX12_ok nmX12 hown hK hH hS 0 rfl rfl 0 (by decide) wd0 (fun _ h9 => h9) rfl (by decide +kernel) rfl rfl (Nat.le_of_ble_eq_true rfl) dX12_command_2 (fun H locs (hH : sj_H D A ([(h0, .inr (12, sj_M g 0)), ((g 70), .inl (kc, 32, .inl fc)), ((g 71), .inl (kn, 32, .inl fn)), ((g 72), .inl (ks, 8, .inl (fun _ => 0)))] ++ []) H) hS => ?_)
  refine lv_aload_n hx hb dX12_command_5 rfl (lv_at hl 0 rfl) ?_
  refine va_get (D := D) (ci := 12) (v := .int 0) (C := RX12) (T := TX12) (N := 86) hx hb hts in12 hown hK hH.1 0 rfl rfl 76 (by decide) wd1 (fun _ h9 => h9) rfl dX12_command_6 ?_
  refine lv_if_ne (tgt := 42) hx hb dX12_command_9 (by decide) (fun h => absurd (by decide) h) (fun _ => ?_)
  refine lv_iload_n hx hb dX12_command_12 rfl (lv_at hl 1 rfl) ?_
  refine lv_if_lt (tgt := 42) hx hb dX12_command_13 (by decide) (fun c_2 => ?_) (fun c_2 => ?_)
  · skip
    have d_3 := sj_ltF (n := 0) (by decide) c_2
    refine lv_iconst (v := 0) hx hb dX12_command_42 (by decide) ?_
    exact sj_zret hx hb hr hlocks (by decide +kernel) hS [.int 0, .ref (g 1), .int 0, .ref (g 3), .int 0, .ref (g 5), .int 0, .int 0, .int 0, .int 0, .int 0, .int 0, .ref (g 12), .int 0, .ref (g 14), .ref (g 15), .ref (g 16), .int 0, .int 0, .ref (g 19), .ref (g 20), .ref (g 21), .ref (g 22), .int 0, .ref (g 24), .ref (g 25), .int 0, .int 0, .ref (g 28), .ref (g 29), .ref (g 30), .ref (g 31), .ref (g 32), .int 0, .ref (g 34), .ref (g 35), .ref (g 36), .ref (g 37), .ref (g 38), .ref (g 39), .int 0, .int 0, .ref (g 42), .ref (g 43), .ref (g 44), .int 0, .ref (g 46), .ref (g 47), .ref (g 48), .int 0, .ref (g 50), .ref (g 51), .int 0, .ref (g 53), .int 0, .int 0, .ref (g 56), .int 0, .ref (g 58), .ref (g 59), .ref (g 60), .ref (g 61), .ref (g 62), .ref (g 63), .ref (g 64), .int 0, .int 0, .int 0, .ref (g 68), .ref (g 69), .ref (g 70), .ref (g 71), .ref (g 72), .ref (g 73), .int 0, .int 0, .int 0, .int 0, .int 0, .int 0, .int 0, .int 0, .ref (g 82), .ref (g 83), .ref (g 84), .ref (g 85)] (if_neg (by omega)).symm (sj_sub hH [0] rfl rfl) (sj_Knil hK) (Nat.le_of_ble_eq_true rfl) (Nat.le_of_ble_eq_true rfl) dX12_command_43
  · skip
    have d_4 := sj_nlt (n := 0) (by decide) c_2
    refine lv_iload_n hx hb dX12_command_16 rfl (lv_at hl 1 rfl) ?_
    refine lv_bipush (v := 7) hx hb dX12_command_17 (by decide) ?_
    refine lv_icmp_gt (tgt := 42) hx hb dX12_command_19 (by decide) (fun c_5 => ?_) (fun c_5 => ?_)
    · skip
      have d_6 := sj_gtF (n := 7) (by decide) c_5
      refine lv_iconst (v := 0) hx hb dX12_command_42 (by decide) ?_
      exact sj_zret hx hb hr hlocks (by decide +kernel) hS [.int 0, .ref (g 1), .int 0, .ref (g 3), .int 0, .ref (g 5), .int 0, .int 0, .int 0, .int 0, .int 0, .int 0, .ref (g 12), .int 0, .ref (g 14), .ref (g 15), .ref (g 16), .int 0, .int 0, .ref (g 19), .ref (g 20), .ref (g 21), .ref (g 22), .int 0, .ref (g 24), .ref (g 25), .int 0, .int 0, .ref (g 28), .ref (g 29), .ref (g 30), .ref (g 31), .ref (g 32), .int 0, .ref (g 34), .ref (g 35), .ref (g 36), .ref (g 37), .ref (g 38), .ref (g 39), .int 0, .int 0, .ref (g 42), .ref (g 43), .ref (g 44), .int 0, .ref (g 46), .ref (g 47), .ref (g 48), .int 0, .ref (g 50), .ref (g 51), .int 0, .ref (g 53), .int 0, .int 0, .ref (g 56), .int 0, .ref (g 58), .ref (g 59), .ref (g 60), .ref (g 61), .ref (g 62), .ref (g 63), .ref (g 64), .int 0, .int 0, .int 0, .ref (g 68), .ref (g 69), .ref (g 70), .ref (g 71), .ref (g 72), .ref (g 73), .int 0, .int 0, .int 0, .int 0, .int 0, .int 0, .int 0, .int 0, .ref (g 82), .ref (g 83), .ref (g 84), .ref (g 85)] (if_neg (by omega)).symm (sj_sub hH [0] rfl rfl) (sj_Knil hK) (Nat.le_of_ble_eq_true rfl) (Nat.le_of_ble_eq_true rfl) dX12_command_43
    · skip
      have d_7 := sj_ngt (n := 7) (by decide) c_5
      refine lv_iload_n hx hb dX12_command_22 rfl (lv_at hl 2 rfl) ?_
      refine lv_if_lt (tgt := 42) hx hb dX12_command_23 (by decide) (fun c_8 => ?_) (fun c_8 => ?_)
      · skip
        have d_9 := sj_ltF (n := 0) (by decide) c_8
        refine lv_iconst (v := 0) hx hb dX12_command_42 (by decide) ?_
        exact sj_zret hx hb hr hlocks (by decide +kernel) hS [.int 0, .ref (g 1), .int 0, .ref (g 3), .int 0, .ref (g 5), .int 0, .int 0, .int 0, .int 0, .int 0, .int 0, .ref (g 12), .int 0, .ref (g 14), .ref (g 15), .ref (g 16), .int 0, .int 0, .ref (g 19), .ref (g 20), .ref (g 21), .ref (g 22), .int 0, .ref (g 24), .ref (g 25), .int 0, .int 0, .ref (g 28), .ref (g 29), .ref (g 30), .ref (g 31), .ref (g 32), .int 0, .ref (g 34), .ref (g 35), .ref (g 36), .ref (g 37), .ref (g 38), .ref (g 39), .int 0, .int 0, .ref (g 42), .ref (g 43), .ref (g 44), .int 0, .ref (g 46), .ref (g 47), .ref (g 48), .int 0, .ref (g 50), .ref (g 51), .int 0, .ref (g 53), .int 0, .int 0, .ref (g 56), .int 0, .ref (g 58), .ref (g 59), .ref (g 60), .ref (g 61), .ref (g 62), .ref (g 63), .ref (g 64), .int 0, .int 0, .int 0, .ref (g 68), .ref (g 69), .ref (g 70), .ref (g 71), .ref (g 72), .ref (g 73), .int 0, .int 0, .int 0, .int 0, .int 0, .int 0, .int 0, .int 0, .ref (g 82), .ref (g 83), .ref (g 84), .ref (g 85)] (if_neg (by omega)).symm (sj_sub hH [0] rfl rfl) (sj_Knil hK) (Nat.le_of_ble_eq_true rfl) (Nat.le_of_ble_eq_true rfl) dX12_command_43
      · skip
        have d_10 := sj_nlt (n := 0) (by decide) c_8
        refine lv_iload_n hx hb dX12_command_26 rfl (lv_at hl 2 rfl) ?_
        refine lv_bipush (v := 8) hx hb dX12_command_27 (by decide) ?_
        refine lv_icmp_gt (tgt := 42) hx hb dX12_command_29 (by decide) (fun c_11 => ?_) (fun c_11 => ?_)
        · skip
          have d_12 := sj_gtF (n := 8) (by decide) c_11
          refine lv_iconst (v := 0) hx hb dX12_command_42 (by decide) ?_
          exact sj_zret hx hb hr hlocks (by decide +kernel) hS [.int 0, .ref (g 1), .int 0, .ref (g 3), .int 0, .ref (g 5), .int 0, .int 0, .int 0, .int 0, .int 0, .int 0, .ref (g 12), .int 0, .ref (g 14), .ref (g 15), .ref (g 16), .int 0, .int 0, .ref (g 19), .ref (g 20), .ref (g 21), .ref (g 22), .int 0, .ref (g 24), .ref (g 25), .int 0, .int 0, .ref (g 28), .ref (g 29), .ref (g 30), .ref (g 31), .ref (g 32), .int 0, .ref (g 34), .ref (g 35), .ref (g 36), .ref (g 37), .ref (g 38), .ref (g 39), .int 0, .int 0, .ref (g 42), .ref (g 43), .ref (g 44), .int 0, .ref (g 46), .ref (g 47), .ref (g 48), .int 0, .ref (g 50), .ref (g 51), .int 0, .ref (g 53), .int 0, .int 0, .ref (g 56), .int 0, .ref (g 58), .ref (g 59), .ref (g 60), .ref (g 61), .ref (g 62), .ref (g 63), .ref (g 64), .int 0, .int 0, .int 0, .ref (g 68), .ref (g 69), .ref (g 70), .ref (g 71), .ref (g 72), .ref (g 73), .int 0, .int 0, .int 0, .int 0, .int 0, .int 0, .int 0, .int 0, .ref (g 82), .ref (g 83), .ref (g 84), .ref (g 85)] (if_neg (by omega)).symm (sj_sub hH [0] rfl rfl) (sj_Knil hK) (Nat.le_of_ble_eq_true rfl) (Nat.le_of_ble_eq_true rfl) dX12_command_43
        · skip
          have d_13 := sj_ngt (n := 8) (by decide) c_11
          have sp_14 : script = 0 ∨ script = 1 ∨ script = 2 ∨ script = 3 ∨ script = 4 ∨ script = 5 ∨ script = 6 ∨ script = 7 := by
            rcases (show script.toInt = 0 ∨ script.toInt = 1 ∨ script.toInt = 2 ∨ script.toInt = 3 ∨ script.toInt = 4 ∨ script.toInt = 5 ∨ script.toInt = 6 ∨ script.toInt = 7 by omega) with h | h | h | h | h | h | h | h
            · exact Or.inl (sj_eqP (by decide) h)
            · exact Or.inr (Or.inl (sj_eqP (by decide) h))
            · exact Or.inr (Or.inr (Or.inl (sj_eqP (by decide) h)))
            · exact Or.inr (Or.inr (Or.inr (Or.inl (sj_eqP (by decide) h))))
            · exact Or.inr (Or.inr (Or.inr (Or.inr (Or.inl (sj_eqP (by decide) h)))))
            · exact Or.inr (Or.inr (Or.inr (Or.inr (Or.inr (Or.inl (sj_eqP (by decide) h))))))
            · exact Or.inr (Or.inr (Or.inr (Or.inr (Or.inr (Or.inr (Or.inl (sj_eqP (by decide) h)))))))
            · exact Or.inr (Or.inr (Or.inr (Or.inr (Or.inr (Or.inr (Or.inr (sj_eqP (by decide) h)))))))
          rcases sp_14 with rfl | rfl | rfl | rfl | rfl | rfl | rfl | rfl
          · skip
            refine lv_aload_n hx hb dX12_command_32 rfl (lv_at hl 0 rfl) ?_
            refine va_get (D := D) (ci := 12) (v := .ref (g 72)) (C := RX12) (T := TX12) (N := 86) hx hb hts in12 hown hK hH.1 0 rfl rfl 72 (by decide) wd2 (fun _ h9 => h9) rfl dX12_command_33 ?_
            refine lv_iload_n hx hb dX12_command_36 rfl (lv_at hl 1 rfl) ?_
            refine va_iald hx hb hK hH.1 3 2 rfl rfl (sj_vin (by decide) (by decide)) dX12_command_37 ?_
            refine sj_i (y := 0) (rfl) ?_
            refine lv_iconst (v := 4) hx hb dX12_command_38 (by decide) ?_
            refine lv_icmp_ne (tgt := 44) hx hb dX12_command_39 (by decide) (fun _ => ?_) (fun h => absurd h (by decide))
            refine lv_iconst (v := 4) hx hb dX12_command_44 (by decide) ?_
            refine lv_iload_n hx hb dX12_command_45 rfl (lv_at hl 1 rfl) ?_
            refine lv_imul hx hb dX12_command_46 ?_
            refine sj_i (y := 0) (by decide) ?_
            refine lv_aload_n hx hb dX12_command_47 rfl (lv_at hl 0 rfl) ?_
            refine va_get (D := D) (ci := 12) (v := .ref (g 72)) (C := RX12) (T := TX12) (N := 86) hx hb hts in12 hown hK hH.1 0 rfl rfl 72 (by decide) wd2 (fun _ h9 => h9) rfl dX12_command_48 ?_
            refine lv_iload_n hx hb dX12_command_51 rfl (lv_at hl 1 rfl) ?_
            refine va_iald hx hb hK hH.1 3 2 rfl rfl (sj_vin (by decide) (by decide)) dX12_command_52 ?_
            refine sj_i (y := 0) (rfl) ?_
            refine lv_iadd hx hb dX12_command_53 ?_
            refine sj_i (y := 0) (by decide) ?_
            refine lv_istore (lv' := [(4, .int 0), (0, .ref h0), (1, .int 0), (2, .int command), (3, .int k)]) hx hb dX12_command_54 hl (by decide) rfl (fun ls hl => ?_)
            refine lv_aload_n hx hb dX12_command_56 rfl (lv_at hl 1 rfl) ?_
            refine va_get (D := D) (ci := 12) (v := .ref (g 70)) (C := RX12) (T := TX12) (N := 86) hx hb hts in12 hown hK hH.1 0 rfl rfl 70 (by decide) wd3 (fun _ h9 => h9) rfl dX12_command_57 ?_
            refine lv_iload hx hb dX12_command_60 (lv_at hl 0 rfl) ?_
            refine lv_iload_n hx hb dX12_command_62 rfl (lv_at hl 3 rfl) ?_
            refine sj_iast hx hb hK hH hS 1 0 rfl rfl (sj_vin (by decide) (by decide)) dX12_command_63 (fun H locs hH hS => ?_)
            have hH : sj_H D A ([(h0, .inr (12, sj_M g 0)), ((g 70), .inl (kc, 32, .inl (upd fc 0 command))), ((g 71), .inl (kn, 32, .inl fn)), ((g 72), .inl (ks, 8, .inl (fun _ => 0)))] ++ []) H := hH
            refine lv_aload_n hx hb dX12_command_64 rfl (lv_at hl 1 rfl) ?_
            refine va_get (D := D) (ci := 12) (v := .ref (g 71)) (C := RX12) (T := TX12) (N := 86) hx hb hts in12 hown hK hH.1 0 rfl rfl 71 (by decide) wd4 (fun _ h9 => h9) rfl dX12_command_65 ?_
            refine lv_iload hx hb dX12_command_68 (lv_at hl 0 rfl) ?_
            refine lv_iload_n hx hb dX12_command_70 rfl (lv_at hl 4 rfl) ?_
            refine sj_iast hx hb hK hH hS 2 1 rfl rfl (sj_vin (by decide) (by decide)) dX12_command_71 (fun H locs hH hS => ?_)
            have hH : sj_H D A ([(h0, .inr (12, sj_M g 0)), ((g 70), .inl (kc, 32, .inl (upd fc 0 command))), ((g 71), .inl (kn, 32, .inl (upd fn 0 k))), ((g 72), .inl (ks, 8, .inl (fun _ => 0)))] ++ []) H := hH
            refine lv_aload_n hx hb dX12_command_72 rfl (lv_at hl 1 rfl) ?_
            refine va_get (D := D) (ci := 12) (v := .ref (g 72)) (C := RX12) (T := TX12) (N := 86) hx hb hts in12 hown hK hH.1 0 rfl rfl 72 (by decide) wd2 (fun _ h9 => h9) rfl dX12_command_73 ?_
            refine lv_iload_n hx hb dX12_command_76 rfl (lv_at hl 2 rfl) ?_
            refine lv_dup2_11 hx hb dX12_command_77 rfl rfl ?_
            refine va_iald hx hb hK hH.1 3 2 rfl rfl (sj_vin (by decide) (by decide)) dX12_command_78 ?_
            refine sj_i (y := 0) (rfl) ?_
            refine lv_iconst (v := 1) hx hb dX12_command_79 (by decide) ?_
            refine lv_iadd hx hb dX12_command_80 ?_
            refine sj_i (y := 1) (by decide) ?_
            refine sj_iast hx hb hK hH hS 3 2 rfl rfl (sj_vin (by decide) (by decide)) dX12_command_81 (fun H locs hH hS => ?_)
            have hH : sj_H D A ([(h0, .inr (12, sj_M g 0)), ((g 70), .inl (kc, 32, .inl (upd fc 0 command))), ((g 71), .inl (kn, 32, .inl (upd fn 0 k))), ((g 72), .inl (ks, 8, .inl (upd (fun _ => 0) 0 1)))] ++ []) H := hH
            refine lv_iconst (v := 1) hx hb dX12_command_82 (by decide) ?_
            exact sj_zret hx hb hr hlocks (by decide +kernel) hS [.int 0, .ref (g 1), .int 0, .ref (g 3), .int 0, .ref (g 5), .int 0, .int 0, .int 0, .int 0, .int 0, .int 0, .ref (g 12), .int 0, .ref (g 14), .ref (g 15), .ref (g 16), .int 0, .int 0, .ref (g 19), .ref (g 20), .ref (g 21), .ref (g 22), .int 0, .ref (g 24), .ref (g 25), .int 0, .int 0, .ref (g 28), .ref (g 29), .ref (g 30), .ref (g 31), .ref (g 32), .int 0, .ref (g 34), .ref (g 35), .ref (g 36), .ref (g 37), .ref (g 38), .ref (g 39), .int 0, .int 0, .ref (g 42), .ref (g 43), .ref (g 44), .int 0, .ref (g 46), .ref (g 47), .ref (g 48), .int 0, .ref (g 50), .ref (g 51), .int 0, .ref (g 53), .int 0, .int 0, .ref (g 56), .int 0, .ref (g 58), .ref (g 59), .ref (g 60), .ref (g 61), .ref (g 62), .ref (g 63), .ref (g 64), .int 0, .int 0, .int 0, .ref (g 68), .ref (g 69), .ref (g 70), .ref (g 71), .ref (g 72), .ref (g 73), .int 0, .int 0, .int 0, .int 0, .int 0, .int 0, .int 0, .int 0, .ref (g 82), .ref (g 83), .ref (g 84), .ref (g 85)] (if_pos ⟨⟨by first | omega | decide, by first | omega | decide⟩, by omega, by omega⟩).symm (sj_sub hH [0] rfl rfl) (sj_Knil hK) (Nat.le_of_ble_eq_true rfl) (Nat.le_of_ble_eq_true rfl) dX12_command_83
          · skip
            refine lv_aload_n hx hb dX12_command_32 rfl (lv_at hl 0 rfl) ?_
            refine va_get (D := D) (ci := 12) (v := .ref (g 72)) (C := RX12) (T := TX12) (N := 86) hx hb hts in12 hown hK hH.1 0 rfl rfl 72 (by decide) wd2 (fun _ h9 => h9) rfl dX12_command_33 ?_
            refine lv_iload_n hx hb dX12_command_36 rfl (lv_at hl 1 rfl) ?_
            refine va_iald hx hb hK hH.1 3 2 rfl rfl (sj_vin (by decide) (by decide)) dX12_command_37 ?_
            refine sj_i (y := 0) (rfl) ?_
            refine lv_iconst (v := 4) hx hb dX12_command_38 (by decide) ?_
            refine lv_icmp_ne (tgt := 44) hx hb dX12_command_39 (by decide) (fun _ => ?_) (fun h => absurd h (by decide))
            refine lv_iconst (v := 4) hx hb dX12_command_44 (by decide) ?_
            refine lv_iload_n hx hb dX12_command_45 rfl (lv_at hl 1 rfl) ?_
            refine lv_imul hx hb dX12_command_46 ?_
            refine sj_i (y := 4) (by decide) ?_
            refine lv_aload_n hx hb dX12_command_47 rfl (lv_at hl 0 rfl) ?_
            refine va_get (D := D) (ci := 12) (v := .ref (g 72)) (C := RX12) (T := TX12) (N := 86) hx hb hts in12 hown hK hH.1 0 rfl rfl 72 (by decide) wd2 (fun _ h9 => h9) rfl dX12_command_48 ?_
            refine lv_iload_n hx hb dX12_command_51 rfl (lv_at hl 1 rfl) ?_
            refine va_iald hx hb hK hH.1 3 2 rfl rfl (sj_vin (by decide) (by decide)) dX12_command_52 ?_
            refine sj_i (y := 0) (rfl) ?_
            refine lv_iadd hx hb dX12_command_53 ?_
            refine sj_i (y := 4) (by decide) ?_
            refine lv_istore (lv' := [(4, .int 4), (0, .ref h0), (1, .int 1), (2, .int command), (3, .int k)]) hx hb dX12_command_54 hl (by decide) rfl (fun ls hl => ?_)
            refine lv_aload_n hx hb dX12_command_56 rfl (lv_at hl 1 rfl) ?_
            refine va_get (D := D) (ci := 12) (v := .ref (g 70)) (C := RX12) (T := TX12) (N := 86) hx hb hts in12 hown hK hH.1 0 rfl rfl 70 (by decide) wd3 (fun _ h9 => h9) rfl dX12_command_57 ?_
            refine lv_iload hx hb dX12_command_60 (lv_at hl 0 rfl) ?_
            refine lv_iload_n hx hb dX12_command_62 rfl (lv_at hl 3 rfl) ?_
            refine sj_iast hx hb hK hH hS 1 0 rfl rfl (sj_vin (by decide) (by decide)) dX12_command_63 (fun H locs hH hS => ?_)
            have hH : sj_H D A ([(h0, .inr (12, sj_M g 0)), ((g 70), .inl (kc, 32, .inl (upd fc 4 command))), ((g 71), .inl (kn, 32, .inl fn)), ((g 72), .inl (ks, 8, .inl (fun _ => 0)))] ++ []) H := hH
            refine lv_aload_n hx hb dX12_command_64 rfl (lv_at hl 1 rfl) ?_
            refine va_get (D := D) (ci := 12) (v := .ref (g 71)) (C := RX12) (T := TX12) (N := 86) hx hb hts in12 hown hK hH.1 0 rfl rfl 71 (by decide) wd4 (fun _ h9 => h9) rfl dX12_command_65 ?_
            refine lv_iload hx hb dX12_command_68 (lv_at hl 0 rfl) ?_
            refine lv_iload_n hx hb dX12_command_70 rfl (lv_at hl 4 rfl) ?_
            refine sj_iast hx hb hK hH hS 2 1 rfl rfl (sj_vin (by decide) (by decide)) dX12_command_71 (fun H locs hH hS => ?_)
            have hH : sj_H D A ([(h0, .inr (12, sj_M g 0)), ((g 70), .inl (kc, 32, .inl (upd fc 4 command))), ((g 71), .inl (kn, 32, .inl (upd fn 4 k))), ((g 72), .inl (ks, 8, .inl (fun _ => 0)))] ++ []) H := hH
            refine lv_aload_n hx hb dX12_command_72 rfl (lv_at hl 1 rfl) ?_
            refine va_get (D := D) (ci := 12) (v := .ref (g 72)) (C := RX12) (T := TX12) (N := 86) hx hb hts in12 hown hK hH.1 0 rfl rfl 72 (by decide) wd2 (fun _ h9 => h9) rfl dX12_command_73 ?_
            refine lv_iload_n hx hb dX12_command_76 rfl (lv_at hl 2 rfl) ?_
            refine lv_dup2_11 hx hb dX12_command_77 rfl rfl ?_
            refine va_iald hx hb hK hH.1 3 2 rfl rfl (sj_vin (by decide) (by decide)) dX12_command_78 ?_
            refine sj_i (y := 0) (rfl) ?_
            refine lv_iconst (v := 1) hx hb dX12_command_79 (by decide) ?_
            refine lv_iadd hx hb dX12_command_80 ?_
            refine sj_i (y := 1) (by decide) ?_
            refine sj_iast hx hb hK hH hS 3 2 rfl rfl (sj_vin (by decide) (by decide)) dX12_command_81 (fun H locs hH hS => ?_)
            have hH : sj_H D A ([(h0, .inr (12, sj_M g 0)), ((g 70), .inl (kc, 32, .inl (upd fc 4 command))), ((g 71), .inl (kn, 32, .inl (upd fn 4 k))), ((g 72), .inl (ks, 8, .inl (upd (fun _ => 0) 1 1)))] ++ []) H := hH
            refine lv_iconst (v := 1) hx hb dX12_command_82 (by decide) ?_
            exact sj_zret hx hb hr hlocks (by decide +kernel) hS [.int 0, .ref (g 1), .int 0, .ref (g 3), .int 0, .ref (g 5), .int 0, .int 0, .int 0, .int 0, .int 0, .int 0, .ref (g 12), .int 0, .ref (g 14), .ref (g 15), .ref (g 16), .int 0, .int 0, .ref (g 19), .ref (g 20), .ref (g 21), .ref (g 22), .int 0, .ref (g 24), .ref (g 25), .int 0, .int 0, .ref (g 28), .ref (g 29), .ref (g 30), .ref (g 31), .ref (g 32), .int 0, .ref (g 34), .ref (g 35), .ref (g 36), .ref (g 37), .ref (g 38), .ref (g 39), .int 0, .int 0, .ref (g 42), .ref (g 43), .ref (g 44), .int 0, .ref (g 46), .ref (g 47), .ref (g 48), .int 0, .ref (g 50), .ref (g 51), .int 0, .ref (g 53), .int 0, .int 0, .ref (g 56), .int 0, .ref (g 58), .ref (g 59), .ref (g 60), .ref (g 61), .ref (g 62), .ref (g 63), .ref (g 64), .int 0, .int 0, .int 0, .ref (g 68), .ref (g 69), .ref (g 70), .ref (g 71), .ref (g 72), .ref (g 73), .int 0, .int 0, .int 0, .int 0, .int 0, .int 0, .int 0, .int 0, .ref (g 82), .ref (g 83), .ref (g 84), .ref (g 85)] (if_pos ⟨⟨by first | omega | decide, by first | omega | decide⟩, by omega, by omega⟩).symm (sj_sub hH [0] rfl rfl) (sj_Knil hK) (Nat.le_of_ble_eq_true rfl) (Nat.le_of_ble_eq_true rfl) dX12_command_83
          · skip
            refine lv_aload_n hx hb dX12_command_32 rfl (lv_at hl 0 rfl) ?_
            refine va_get (D := D) (ci := 12) (v := .ref (g 72)) (C := RX12) (T := TX12) (N := 86) hx hb hts in12 hown hK hH.1 0 rfl rfl 72 (by decide) wd2 (fun _ h9 => h9) rfl dX12_command_33 ?_
            refine lv_iload_n hx hb dX12_command_36 rfl (lv_at hl 1 rfl) ?_
            refine va_iald hx hb hK hH.1 3 2 rfl rfl (sj_vin (by decide) (by decide)) dX12_command_37 ?_
            refine sj_i (y := 0) (rfl) ?_
            refine lv_iconst (v := 4) hx hb dX12_command_38 (by decide) ?_
            refine lv_icmp_ne (tgt := 44) hx hb dX12_command_39 (by decide) (fun _ => ?_) (fun h => absurd h (by decide))
            refine lv_iconst (v := 4) hx hb dX12_command_44 (by decide) ?_
            refine lv_iload_n hx hb dX12_command_45 rfl (lv_at hl 1 rfl) ?_
            refine lv_imul hx hb dX12_command_46 ?_
            refine sj_i (y := 8) (by decide) ?_
            refine lv_aload_n hx hb dX12_command_47 rfl (lv_at hl 0 rfl) ?_
            refine va_get (D := D) (ci := 12) (v := .ref (g 72)) (C := RX12) (T := TX12) (N := 86) hx hb hts in12 hown hK hH.1 0 rfl rfl 72 (by decide) wd2 (fun _ h9 => h9) rfl dX12_command_48 ?_
            refine lv_iload_n hx hb dX12_command_51 rfl (lv_at hl 1 rfl) ?_
            refine va_iald hx hb hK hH.1 3 2 rfl rfl (sj_vin (by decide) (by decide)) dX12_command_52 ?_
            refine sj_i (y := 0) (rfl) ?_
            refine lv_iadd hx hb dX12_command_53 ?_
            refine sj_i (y := 8) (by decide) ?_
            refine lv_istore (lv' := [(4, .int 8), (0, .ref h0), (1, .int 2), (2, .int command), (3, .int k)]) hx hb dX12_command_54 hl (by decide) rfl (fun ls hl => ?_)
            refine lv_aload_n hx hb dX12_command_56 rfl (lv_at hl 1 rfl) ?_
            refine va_get (D := D) (ci := 12) (v := .ref (g 70)) (C := RX12) (T := TX12) (N := 86) hx hb hts in12 hown hK hH.1 0 rfl rfl 70 (by decide) wd3 (fun _ h9 => h9) rfl dX12_command_57 ?_
            refine lv_iload hx hb dX12_command_60 (lv_at hl 0 rfl) ?_
            refine lv_iload_n hx hb dX12_command_62 rfl (lv_at hl 3 rfl) ?_
            refine sj_iast hx hb hK hH hS 1 0 rfl rfl (sj_vin (by decide) (by decide)) dX12_command_63 (fun H locs hH hS => ?_)
            have hH : sj_H D A ([(h0, .inr (12, sj_M g 0)), ((g 70), .inl (kc, 32, .inl (upd fc 8 command))), ((g 71), .inl (kn, 32, .inl fn)), ((g 72), .inl (ks, 8, .inl (fun _ => 0)))] ++ []) H := hH
            refine lv_aload_n hx hb dX12_command_64 rfl (lv_at hl 1 rfl) ?_
            refine va_get (D := D) (ci := 12) (v := .ref (g 71)) (C := RX12) (T := TX12) (N := 86) hx hb hts in12 hown hK hH.1 0 rfl rfl 71 (by decide) wd4 (fun _ h9 => h9) rfl dX12_command_65 ?_
            refine lv_iload hx hb dX12_command_68 (lv_at hl 0 rfl) ?_
            refine lv_iload_n hx hb dX12_command_70 rfl (lv_at hl 4 rfl) ?_
            refine sj_iast hx hb hK hH hS 2 1 rfl rfl (sj_vin (by decide) (by decide)) dX12_command_71 (fun H locs hH hS => ?_)
            have hH : sj_H D A ([(h0, .inr (12, sj_M g 0)), ((g 70), .inl (kc, 32, .inl (upd fc 8 command))), ((g 71), .inl (kn, 32, .inl (upd fn 8 k))), ((g 72), .inl (ks, 8, .inl (fun _ => 0)))] ++ []) H := hH
            refine lv_aload_n hx hb dX12_command_72 rfl (lv_at hl 1 rfl) ?_
            refine va_get (D := D) (ci := 12) (v := .ref (g 72)) (C := RX12) (T := TX12) (N := 86) hx hb hts in12 hown hK hH.1 0 rfl rfl 72 (by decide) wd2 (fun _ h9 => h9) rfl dX12_command_73 ?_
            refine lv_iload_n hx hb dX12_command_76 rfl (lv_at hl 2 rfl) ?_
            refine lv_dup2_11 hx hb dX12_command_77 rfl rfl ?_
            refine va_iald hx hb hK hH.1 3 2 rfl rfl (sj_vin (by decide) (by decide)) dX12_command_78 ?_
            refine sj_i (y := 0) (rfl) ?_
            refine lv_iconst (v := 1) hx hb dX12_command_79 (by decide) ?_
            refine lv_iadd hx hb dX12_command_80 ?_
            refine sj_i (y := 1) (by decide) ?_
            refine sj_iast hx hb hK hH hS 3 2 rfl rfl (sj_vin (by decide) (by decide)) dX12_command_81 (fun H locs hH hS => ?_)
            have hH : sj_H D A ([(h0, .inr (12, sj_M g 0)), ((g 70), .inl (kc, 32, .inl (upd fc 8 command))), ((g 71), .inl (kn, 32, .inl (upd fn 8 k))), ((g 72), .inl (ks, 8, .inl (upd (fun _ => 0) 2 1)))] ++ []) H := hH
            refine lv_iconst (v := 1) hx hb dX12_command_82 (by decide) ?_
            exact sj_zret hx hb hr hlocks (by decide +kernel) hS [.int 0, .ref (g 1), .int 0, .ref (g 3), .int 0, .ref (g 5), .int 0, .int 0, .int 0, .int 0, .int 0, .int 0, .ref (g 12), .int 0, .ref (g 14), .ref (g 15), .ref (g 16), .int 0, .int 0, .ref (g 19), .ref (g 20), .ref (g 21), .ref (g 22), .int 0, .ref (g 24), .ref (g 25), .int 0, .int 0, .ref (g 28), .ref (g 29), .ref (g 30), .ref (g 31), .ref (g 32), .int 0, .ref (g 34), .ref (g 35), .ref (g 36), .ref (g 37), .ref (g 38), .ref (g 39), .int 0, .int 0, .ref (g 42), .ref (g 43), .ref (g 44), .int 0, .ref (g 46), .ref (g 47), .ref (g 48), .int 0, .ref (g 50), .ref (g 51), .int 0, .ref (g 53), .int 0, .int 0, .ref (g 56), .int 0, .ref (g 58), .ref (g 59), .ref (g 60), .ref (g 61), .ref (g 62), .ref (g 63), .ref (g 64), .int 0, .int 0, .int 0, .ref (g 68), .ref (g 69), .ref (g 70), .ref (g 71), .ref (g 72), .ref (g 73), .int 0, .int 0, .int 0, .int 0, .int 0, .int 0, .int 0, .int 0, .ref (g 82), .ref (g 83), .ref (g 84), .ref (g 85)] (if_pos ⟨⟨by first | omega | decide, by first | omega | decide⟩, by omega, by omega⟩).symm (sj_sub hH [0] rfl rfl) (sj_Knil hK) (Nat.le_of_ble_eq_true rfl) (Nat.le_of_ble_eq_true rfl) dX12_command_83
          · skip
            refine lv_aload_n hx hb dX12_command_32 rfl (lv_at hl 0 rfl) ?_
            refine va_get (D := D) (ci := 12) (v := .ref (g 72)) (C := RX12) (T := TX12) (N := 86) hx hb hts in12 hown hK hH.1 0 rfl rfl 72 (by decide) wd2 (fun _ h9 => h9) rfl dX12_command_33 ?_
            refine lv_iload_n hx hb dX12_command_36 rfl (lv_at hl 1 rfl) ?_
            refine va_iald hx hb hK hH.1 3 2 rfl rfl (sj_vin (by decide) (by decide)) dX12_command_37 ?_
            refine sj_i (y := 0) (rfl) ?_
            refine lv_iconst (v := 4) hx hb dX12_command_38 (by decide) ?_
            refine lv_icmp_ne (tgt := 44) hx hb dX12_command_39 (by decide) (fun _ => ?_) (fun h => absurd h (by decide))
            refine lv_iconst (v := 4) hx hb dX12_command_44 (by decide) ?_
            refine lv_iload_n hx hb dX12_command_45 rfl (lv_at hl 1 rfl) ?_
            refine lv_imul hx hb dX12_command_46 ?_
            refine sj_i (y := 12) (by decide) ?_
            refine lv_aload_n hx hb dX12_command_47 rfl (lv_at hl 0 rfl) ?_
            refine va_get (D := D) (ci := 12) (v := .ref (g 72)) (C := RX12) (T := TX12) (N := 86) hx hb hts in12 hown hK hH.1 0 rfl rfl 72 (by decide) wd2 (fun _ h9 => h9) rfl dX12_command_48 ?_
            refine lv_iload_n hx hb dX12_command_51 rfl (lv_at hl 1 rfl) ?_
            refine va_iald hx hb hK hH.1 3 2 rfl rfl (sj_vin (by decide) (by decide)) dX12_command_52 ?_
            refine sj_i (y := 0) (rfl) ?_
            refine lv_iadd hx hb dX12_command_53 ?_
            refine sj_i (y := 12) (by decide) ?_
            refine lv_istore (lv' := [(4, .int 12), (0, .ref h0), (1, .int 3), (2, .int command), (3, .int k)]) hx hb dX12_command_54 hl (by decide) rfl (fun ls hl => ?_)
            refine lv_aload_n hx hb dX12_command_56 rfl (lv_at hl 1 rfl) ?_
            refine va_get (D := D) (ci := 12) (v := .ref (g 70)) (C := RX12) (T := TX12) (N := 86) hx hb hts in12 hown hK hH.1 0 rfl rfl 70 (by decide) wd3 (fun _ h9 => h9) rfl dX12_command_57 ?_
            refine lv_iload hx hb dX12_command_60 (lv_at hl 0 rfl) ?_
            refine lv_iload_n hx hb dX12_command_62 rfl (lv_at hl 3 rfl) ?_
            refine sj_iast hx hb hK hH hS 1 0 rfl rfl (sj_vin (by decide) (by decide)) dX12_command_63 (fun H locs hH hS => ?_)
            have hH : sj_H D A ([(h0, .inr (12, sj_M g 0)), ((g 70), .inl (kc, 32, .inl (upd fc 12 command))), ((g 71), .inl (kn, 32, .inl fn)), ((g 72), .inl (ks, 8, .inl (fun _ => 0)))] ++ []) H := hH
            refine lv_aload_n hx hb dX12_command_64 rfl (lv_at hl 1 rfl) ?_
            refine va_get (D := D) (ci := 12) (v := .ref (g 71)) (C := RX12) (T := TX12) (N := 86) hx hb hts in12 hown hK hH.1 0 rfl rfl 71 (by decide) wd4 (fun _ h9 => h9) rfl dX12_command_65 ?_
            refine lv_iload hx hb dX12_command_68 (lv_at hl 0 rfl) ?_
            refine lv_iload_n hx hb dX12_command_70 rfl (lv_at hl 4 rfl) ?_
            refine sj_iast hx hb hK hH hS 2 1 rfl rfl (sj_vin (by decide) (by decide)) dX12_command_71 (fun H locs hH hS => ?_)
            have hH : sj_H D A ([(h0, .inr (12, sj_M g 0)), ((g 70), .inl (kc, 32, .inl (upd fc 12 command))), ((g 71), .inl (kn, 32, .inl (upd fn 12 k))), ((g 72), .inl (ks, 8, .inl (fun _ => 0)))] ++ []) H := hH
            refine lv_aload_n hx hb dX12_command_72 rfl (lv_at hl 1 rfl) ?_
            refine va_get (D := D) (ci := 12) (v := .ref (g 72)) (C := RX12) (T := TX12) (N := 86) hx hb hts in12 hown hK hH.1 0 rfl rfl 72 (by decide) wd2 (fun _ h9 => h9) rfl dX12_command_73 ?_
            refine lv_iload_n hx hb dX12_command_76 rfl (lv_at hl 2 rfl) ?_
            refine lv_dup2_11 hx hb dX12_command_77 rfl rfl ?_
            refine va_iald hx hb hK hH.1 3 2 rfl rfl (sj_vin (by decide) (by decide)) dX12_command_78 ?_
            refine sj_i (y := 0) (rfl) ?_
            refine lv_iconst (v := 1) hx hb dX12_command_79 (by decide) ?_
            refine lv_iadd hx hb dX12_command_80 ?_
            refine sj_i (y := 1) (by decide) ?_
            refine sj_iast hx hb hK hH hS 3 2 rfl rfl (sj_vin (by decide) (by decide)) dX12_command_81 (fun H locs hH hS => ?_)
            have hH : sj_H D A ([(h0, .inr (12, sj_M g 0)), ((g 70), .inl (kc, 32, .inl (upd fc 12 command))), ((g 71), .inl (kn, 32, .inl (upd fn 12 k))), ((g 72), .inl (ks, 8, .inl (upd (fun _ => 0) 3 1)))] ++ []) H := hH
            refine lv_iconst (v := 1) hx hb dX12_command_82 (by decide) ?_
            exact sj_zret hx hb hr hlocks (by decide +kernel) hS [.int 0, .ref (g 1), .int 0, .ref (g 3), .int 0, .ref (g 5), .int 0, .int 0, .int 0, .int 0, .int 0, .int 0, .ref (g 12), .int 0, .ref (g 14), .ref (g 15), .ref (g 16), .int 0, .int 0, .ref (g 19), .ref (g 20), .ref (g 21), .ref (g 22), .int 0, .ref (g 24), .ref (g 25), .int 0, .int 0, .ref (g 28), .ref (g 29), .ref (g 30), .ref (g 31), .ref (g 32), .int 0, .ref (g 34), .ref (g 35), .ref (g 36), .ref (g 37), .ref (g 38), .ref (g 39), .int 0, .int 0, .ref (g 42), .ref (g 43), .ref (g 44), .int 0, .ref (g 46), .ref (g 47), .ref (g 48), .int 0, .ref (g 50), .ref (g 51), .int 0, .ref (g 53), .int 0, .int 0, .ref (g 56), .int 0, .ref (g 58), .ref (g 59), .ref (g 60), .ref (g 61), .ref (g 62), .ref (g 63), .ref (g 64), .int 0, .int 0, .int 0, .ref (g 68), .ref (g 69), .ref (g 70), .ref (g 71), .ref (g 72), .ref (g 73), .int 0, .int 0, .int 0, .int 0, .int 0, .int 0, .int 0, .int 0, .ref (g 82), .ref (g 83), .ref (g 84), .ref (g 85)] (if_pos ⟨⟨by first | omega | decide, by first | omega | decide⟩, by omega, by omega⟩).symm (sj_sub hH [0] rfl rfl) (sj_Knil hK) (Nat.le_of_ble_eq_true rfl) (Nat.le_of_ble_eq_true rfl) dX12_command_83
          · skip
            refine lv_aload_n hx hb dX12_command_32 rfl (lv_at hl 0 rfl) ?_
            refine va_get (D := D) (ci := 12) (v := .ref (g 72)) (C := RX12) (T := TX12) (N := 86) hx hb hts in12 hown hK hH.1 0 rfl rfl 72 (by decide) wd2 (fun _ h9 => h9) rfl dX12_command_33 ?_
            refine lv_iload_n hx hb dX12_command_36 rfl (lv_at hl 1 rfl) ?_
            refine va_iald hx hb hK hH.1 3 2 rfl rfl (sj_vin (by decide) (by decide)) dX12_command_37 ?_
            refine sj_i (y := 0) (rfl) ?_
            refine lv_iconst (v := 4) hx hb dX12_command_38 (by decide) ?_
            refine lv_icmp_ne (tgt := 44) hx hb dX12_command_39 (by decide) (fun _ => ?_) (fun h => absurd h (by decide))
            refine lv_iconst (v := 4) hx hb dX12_command_44 (by decide) ?_
            refine lv_iload_n hx hb dX12_command_45 rfl (lv_at hl 1 rfl) ?_
            refine lv_imul hx hb dX12_command_46 ?_
            refine sj_i (y := 16) (by decide) ?_
            refine lv_aload_n hx hb dX12_command_47 rfl (lv_at hl 0 rfl) ?_
            refine va_get (D := D) (ci := 12) (v := .ref (g 72)) (C := RX12) (T := TX12) (N := 86) hx hb hts in12 hown hK hH.1 0 rfl rfl 72 (by decide) wd2 (fun _ h9 => h9) rfl dX12_command_48 ?_
            refine lv_iload_n hx hb dX12_command_51 rfl (lv_at hl 1 rfl) ?_
            refine va_iald hx hb hK hH.1 3 2 rfl rfl (sj_vin (by decide) (by decide)) dX12_command_52 ?_
            refine sj_i (y := 0) (rfl) ?_
            refine lv_iadd hx hb dX12_command_53 ?_
            refine sj_i (y := 16) (by decide) ?_
            refine lv_istore (lv' := [(4, .int 16), (0, .ref h0), (1, .int 4), (2, .int command), (3, .int k)]) hx hb dX12_command_54 hl (by decide) rfl (fun ls hl => ?_)
            refine lv_aload_n hx hb dX12_command_56 rfl (lv_at hl 1 rfl) ?_
            refine va_get (D := D) (ci := 12) (v := .ref (g 70)) (C := RX12) (T := TX12) (N := 86) hx hb hts in12 hown hK hH.1 0 rfl rfl 70 (by decide) wd3 (fun _ h9 => h9) rfl dX12_command_57 ?_
            refine lv_iload hx hb dX12_command_60 (lv_at hl 0 rfl) ?_
            refine lv_iload_n hx hb dX12_command_62 rfl (lv_at hl 3 rfl) ?_
            refine sj_iast hx hb hK hH hS 1 0 rfl rfl (sj_vin (by decide) (by decide)) dX12_command_63 (fun H locs hH hS => ?_)
            have hH : sj_H D A ([(h0, .inr (12, sj_M g 0)), ((g 70), .inl (kc, 32, .inl (upd fc 16 command))), ((g 71), .inl (kn, 32, .inl fn)), ((g 72), .inl (ks, 8, .inl (fun _ => 0)))] ++ []) H := hH
            refine lv_aload_n hx hb dX12_command_64 rfl (lv_at hl 1 rfl) ?_
            refine va_get (D := D) (ci := 12) (v := .ref (g 71)) (C := RX12) (T := TX12) (N := 86) hx hb hts in12 hown hK hH.1 0 rfl rfl 71 (by decide) wd4 (fun _ h9 => h9) rfl dX12_command_65 ?_
            refine lv_iload hx hb dX12_command_68 (lv_at hl 0 rfl) ?_
            refine lv_iload_n hx hb dX12_command_70 rfl (lv_at hl 4 rfl) ?_
            refine sj_iast hx hb hK hH hS 2 1 rfl rfl (sj_vin (by decide) (by decide)) dX12_command_71 (fun H locs hH hS => ?_)
            have hH : sj_H D A ([(h0, .inr (12, sj_M g 0)), ((g 70), .inl (kc, 32, .inl (upd fc 16 command))), ((g 71), .inl (kn, 32, .inl (upd fn 16 k))), ((g 72), .inl (ks, 8, .inl (fun _ => 0)))] ++ []) H := hH
            refine lv_aload_n hx hb dX12_command_72 rfl (lv_at hl 1 rfl) ?_
            refine va_get (D := D) (ci := 12) (v := .ref (g 72)) (C := RX12) (T := TX12) (N := 86) hx hb hts in12 hown hK hH.1 0 rfl rfl 72 (by decide) wd2 (fun _ h9 => h9) rfl dX12_command_73 ?_
            refine lv_iload_n hx hb dX12_command_76 rfl (lv_at hl 2 rfl) ?_
            refine lv_dup2_11 hx hb dX12_command_77 rfl rfl ?_
            refine va_iald hx hb hK hH.1 3 2 rfl rfl (sj_vin (by decide) (by decide)) dX12_command_78 ?_
            refine sj_i (y := 0) (rfl) ?_
            refine lv_iconst (v := 1) hx hb dX12_command_79 (by decide) ?_
            refine lv_iadd hx hb dX12_command_80 ?_
            refine sj_i (y := 1) (by decide) ?_
            refine sj_iast hx hb hK hH hS 3 2 rfl rfl (sj_vin (by decide) (by decide)) dX12_command_81 (fun H locs hH hS => ?_)
            have hH : sj_H D A ([(h0, .inr (12, sj_M g 0)), ((g 70), .inl (kc, 32, .inl (upd fc 16 command))), ((g 71), .inl (kn, 32, .inl (upd fn 16 k))), ((g 72), .inl (ks, 8, .inl (upd (fun _ => 0) 4 1)))] ++ []) H := hH
            refine lv_iconst (v := 1) hx hb dX12_command_82 (by decide) ?_
            exact sj_zret hx hb hr hlocks (by decide +kernel) hS [.int 0, .ref (g 1), .int 0, .ref (g 3), .int 0, .ref (g 5), .int 0, .int 0, .int 0, .int 0, .int 0, .int 0, .ref (g 12), .int 0, .ref (g 14), .ref (g 15), .ref (g 16), .int 0, .int 0, .ref (g 19), .ref (g 20), .ref (g 21), .ref (g 22), .int 0, .ref (g 24), .ref (g 25), .int 0, .int 0, .ref (g 28), .ref (g 29), .ref (g 30), .ref (g 31), .ref (g 32), .int 0, .ref (g 34), .ref (g 35), .ref (g 36), .ref (g 37), .ref (g 38), .ref (g 39), .int 0, .int 0, .ref (g 42), .ref (g 43), .ref (g 44), .int 0, .ref (g 46), .ref (g 47), .ref (g 48), .int 0, .ref (g 50), .ref (g 51), .int 0, .ref (g 53), .int 0, .int 0, .ref (g 56), .int 0, .ref (g 58), .ref (g 59), .ref (g 60), .ref (g 61), .ref (g 62), .ref (g 63), .ref (g 64), .int 0, .int 0, .int 0, .ref (g 68), .ref (g 69), .ref (g 70), .ref (g 71), .ref (g 72), .ref (g 73), .int 0, .int 0, .int 0, .int 0, .int 0, .int 0, .int 0, .int 0, .ref (g 82), .ref (g 83), .ref (g 84), .ref (g 85)] (if_pos ⟨⟨by first | omega | decide, by first | omega | decide⟩, by omega, by omega⟩).symm (sj_sub hH [0] rfl rfl) (sj_Knil hK) (Nat.le_of_ble_eq_true rfl) (Nat.le_of_ble_eq_true rfl) dX12_command_83
          · skip
            refine lv_aload_n hx hb dX12_command_32 rfl (lv_at hl 0 rfl) ?_
            refine va_get (D := D) (ci := 12) (v := .ref (g 72)) (C := RX12) (T := TX12) (N := 86) hx hb hts in12 hown hK hH.1 0 rfl rfl 72 (by decide) wd2 (fun _ h9 => h9) rfl dX12_command_33 ?_
            refine lv_iload_n hx hb dX12_command_36 rfl (lv_at hl 1 rfl) ?_
            refine va_iald hx hb hK hH.1 3 2 rfl rfl (sj_vin (by decide) (by decide)) dX12_command_37 ?_
            refine sj_i (y := 0) (rfl) ?_
            refine lv_iconst (v := 4) hx hb dX12_command_38 (by decide) ?_
            refine lv_icmp_ne (tgt := 44) hx hb dX12_command_39 (by decide) (fun _ => ?_) (fun h => absurd h (by decide))
            refine lv_iconst (v := 4) hx hb dX12_command_44 (by decide) ?_
            refine lv_iload_n hx hb dX12_command_45 rfl (lv_at hl 1 rfl) ?_
            refine lv_imul hx hb dX12_command_46 ?_
            refine sj_i (y := 20) (by decide) ?_
            refine lv_aload_n hx hb dX12_command_47 rfl (lv_at hl 0 rfl) ?_
            refine va_get (D := D) (ci := 12) (v := .ref (g 72)) (C := RX12) (T := TX12) (N := 86) hx hb hts in12 hown hK hH.1 0 rfl rfl 72 (by decide) wd2 (fun _ h9 => h9) rfl dX12_command_48 ?_
            refine lv_iload_n hx hb dX12_command_51 rfl (lv_at hl 1 rfl) ?_
            refine va_iald hx hb hK hH.1 3 2 rfl rfl (sj_vin (by decide) (by decide)) dX12_command_52 ?_
            refine sj_i (y := 0) (rfl) ?_
            refine lv_iadd hx hb dX12_command_53 ?_
            refine sj_i (y := 20) (by decide) ?_
            refine lv_istore (lv' := [(4, .int 20), (0, .ref h0), (1, .int 5), (2, .int command), (3, .int k)]) hx hb dX12_command_54 hl (by decide) rfl (fun ls hl => ?_)
            refine lv_aload_n hx hb dX12_command_56 rfl (lv_at hl 1 rfl) ?_
            refine va_get (D := D) (ci := 12) (v := .ref (g 70)) (C := RX12) (T := TX12) (N := 86) hx hb hts in12 hown hK hH.1 0 rfl rfl 70 (by decide) wd3 (fun _ h9 => h9) rfl dX12_command_57 ?_
            refine lv_iload hx hb dX12_command_60 (lv_at hl 0 rfl) ?_
            refine lv_iload_n hx hb dX12_command_62 rfl (lv_at hl 3 rfl) ?_
            refine sj_iast hx hb hK hH hS 1 0 rfl rfl (sj_vin (by decide) (by decide)) dX12_command_63 (fun H locs hH hS => ?_)
            have hH : sj_H D A ([(h0, .inr (12, sj_M g 0)), ((g 70), .inl (kc, 32, .inl (upd fc 20 command))), ((g 71), .inl (kn, 32, .inl fn)), ((g 72), .inl (ks, 8, .inl (fun _ => 0)))] ++ []) H := hH
            refine lv_aload_n hx hb dX12_command_64 rfl (lv_at hl 1 rfl) ?_
            refine va_get (D := D) (ci := 12) (v := .ref (g 71)) (C := RX12) (T := TX12) (N := 86) hx hb hts in12 hown hK hH.1 0 rfl rfl 71 (by decide) wd4 (fun _ h9 => h9) rfl dX12_command_65 ?_
            refine lv_iload hx hb dX12_command_68 (lv_at hl 0 rfl) ?_
            refine lv_iload_n hx hb dX12_command_70 rfl (lv_at hl 4 rfl) ?_
            refine sj_iast hx hb hK hH hS 2 1 rfl rfl (sj_vin (by decide) (by decide)) dX12_command_71 (fun H locs hH hS => ?_)
            have hH : sj_H D A ([(h0, .inr (12, sj_M g 0)), ((g 70), .inl (kc, 32, .inl (upd fc 20 command))), ((g 71), .inl (kn, 32, .inl (upd fn 20 k))), ((g 72), .inl (ks, 8, .inl (fun _ => 0)))] ++ []) H := hH
            refine lv_aload_n hx hb dX12_command_72 rfl (lv_at hl 1 rfl) ?_
            refine va_get (D := D) (ci := 12) (v := .ref (g 72)) (C := RX12) (T := TX12) (N := 86) hx hb hts in12 hown hK hH.1 0 rfl rfl 72 (by decide) wd2 (fun _ h9 => h9) rfl dX12_command_73 ?_
            refine lv_iload_n hx hb dX12_command_76 rfl (lv_at hl 2 rfl) ?_
            refine lv_dup2_11 hx hb dX12_command_77 rfl rfl ?_
            refine va_iald hx hb hK hH.1 3 2 rfl rfl (sj_vin (by decide) (by decide)) dX12_command_78 ?_
            refine sj_i (y := 0) (rfl) ?_
            refine lv_iconst (v := 1) hx hb dX12_command_79 (by decide) ?_
            refine lv_iadd hx hb dX12_command_80 ?_
            refine sj_i (y := 1) (by decide) ?_
            refine sj_iast hx hb hK hH hS 3 2 rfl rfl (sj_vin (by decide) (by decide)) dX12_command_81 (fun H locs hH hS => ?_)
            have hH : sj_H D A ([(h0, .inr (12, sj_M g 0)), ((g 70), .inl (kc, 32, .inl (upd fc 20 command))), ((g 71), .inl (kn, 32, .inl (upd fn 20 k))), ((g 72), .inl (ks, 8, .inl (upd (fun _ => 0) 5 1)))] ++ []) H := hH
            refine lv_iconst (v := 1) hx hb dX12_command_82 (by decide) ?_
            exact sj_zret hx hb hr hlocks (by decide +kernel) hS [.int 0, .ref (g 1), .int 0, .ref (g 3), .int 0, .ref (g 5), .int 0, .int 0, .int 0, .int 0, .int 0, .int 0, .ref (g 12), .int 0, .ref (g 14), .ref (g 15), .ref (g 16), .int 0, .int 0, .ref (g 19), .ref (g 20), .ref (g 21), .ref (g 22), .int 0, .ref (g 24), .ref (g 25), .int 0, .int 0, .ref (g 28), .ref (g 29), .ref (g 30), .ref (g 31), .ref (g 32), .int 0, .ref (g 34), .ref (g 35), .ref (g 36), .ref (g 37), .ref (g 38), .ref (g 39), .int 0, .int 0, .ref (g 42), .ref (g 43), .ref (g 44), .int 0, .ref (g 46), .ref (g 47), .ref (g 48), .int 0, .ref (g 50), .ref (g 51), .int 0, .ref (g 53), .int 0, .int 0, .ref (g 56), .int 0, .ref (g 58), .ref (g 59), .ref (g 60), .ref (g 61), .ref (g 62), .ref (g 63), .ref (g 64), .int 0, .int 0, .int 0, .ref (g 68), .ref (g 69), .ref (g 70), .ref (g 71), .ref (g 72), .ref (g 73), .int 0, .int 0, .int 0, .int 0, .int 0, .int 0, .int 0, .int 0, .ref (g 82), .ref (g 83), .ref (g 84), .ref (g 85)] (if_pos ⟨⟨by first | omega | decide, by first | omega | decide⟩, by omega, by omega⟩).symm (sj_sub hH [0] rfl rfl) (sj_Knil hK) (Nat.le_of_ble_eq_true rfl) (Nat.le_of_ble_eq_true rfl) dX12_command_83
          · skip
            refine lv_aload_n hx hb dX12_command_32 rfl (lv_at hl 0 rfl) ?_
            refine va_get (D := D) (ci := 12) (v := .ref (g 72)) (C := RX12) (T := TX12) (N := 86) hx hb hts in12 hown hK hH.1 0 rfl rfl 72 (by decide) wd2 (fun _ h9 => h9) rfl dX12_command_33 ?_
            refine lv_iload_n hx hb dX12_command_36 rfl (lv_at hl 1 rfl) ?_
            refine va_iald hx hb hK hH.1 3 2 rfl rfl (sj_vin (by decide) (by decide)) dX12_command_37 ?_
            refine sj_i (y := 0) (rfl) ?_
            refine lv_iconst (v := 4) hx hb dX12_command_38 (by decide) ?_
            refine lv_icmp_ne (tgt := 44) hx hb dX12_command_39 (by decide) (fun _ => ?_) (fun h => absurd h (by decide))
            refine lv_iconst (v := 4) hx hb dX12_command_44 (by decide) ?_
            refine lv_iload_n hx hb dX12_command_45 rfl (lv_at hl 1 rfl) ?_
            refine lv_imul hx hb dX12_command_46 ?_
            refine sj_i (y := 24) (by decide) ?_
            refine lv_aload_n hx hb dX12_command_47 rfl (lv_at hl 0 rfl) ?_
            refine va_get (D := D) (ci := 12) (v := .ref (g 72)) (C := RX12) (T := TX12) (N := 86) hx hb hts in12 hown hK hH.1 0 rfl rfl 72 (by decide) wd2 (fun _ h9 => h9) rfl dX12_command_48 ?_
            refine lv_iload_n hx hb dX12_command_51 rfl (lv_at hl 1 rfl) ?_
            refine va_iald hx hb hK hH.1 3 2 rfl rfl (sj_vin (by decide) (by decide)) dX12_command_52 ?_
            refine sj_i (y := 0) (rfl) ?_
            refine lv_iadd hx hb dX12_command_53 ?_
            refine sj_i (y := 24) (by decide) ?_
            refine lv_istore (lv' := [(4, .int 24), (0, .ref h0), (1, .int 6), (2, .int command), (3, .int k)]) hx hb dX12_command_54 hl (by decide) rfl (fun ls hl => ?_)
            refine lv_aload_n hx hb dX12_command_56 rfl (lv_at hl 1 rfl) ?_
            refine va_get (D := D) (ci := 12) (v := .ref (g 70)) (C := RX12) (T := TX12) (N := 86) hx hb hts in12 hown hK hH.1 0 rfl rfl 70 (by decide) wd3 (fun _ h9 => h9) rfl dX12_command_57 ?_
            refine lv_iload hx hb dX12_command_60 (lv_at hl 0 rfl) ?_
            refine lv_iload_n hx hb dX12_command_62 rfl (lv_at hl 3 rfl) ?_
            refine sj_iast hx hb hK hH hS 1 0 rfl rfl (sj_vin (by decide) (by decide)) dX12_command_63 (fun H locs hH hS => ?_)
            have hH : sj_H D A ([(h0, .inr (12, sj_M g 0)), ((g 70), .inl (kc, 32, .inl (upd fc 24 command))), ((g 71), .inl (kn, 32, .inl fn)), ((g 72), .inl (ks, 8, .inl (fun _ => 0)))] ++ []) H := hH
            refine lv_aload_n hx hb dX12_command_64 rfl (lv_at hl 1 rfl) ?_
            refine va_get (D := D) (ci := 12) (v := .ref (g 71)) (C := RX12) (T := TX12) (N := 86) hx hb hts in12 hown hK hH.1 0 rfl rfl 71 (by decide) wd4 (fun _ h9 => h9) rfl dX12_command_65 ?_
            refine lv_iload hx hb dX12_command_68 (lv_at hl 0 rfl) ?_
            refine lv_iload_n hx hb dX12_command_70 rfl (lv_at hl 4 rfl) ?_
            refine sj_iast hx hb hK hH hS 2 1 rfl rfl (sj_vin (by decide) (by decide)) dX12_command_71 (fun H locs hH hS => ?_)
            have hH : sj_H D A ([(h0, .inr (12, sj_M g 0)), ((g 70), .inl (kc, 32, .inl (upd fc 24 command))), ((g 71), .inl (kn, 32, .inl (upd fn 24 k))), ((g 72), .inl (ks, 8, .inl (fun _ => 0)))] ++ []) H := hH
            refine lv_aload_n hx hb dX12_command_72 rfl (lv_at hl 1 rfl) ?_
            refine va_get (D := D) (ci := 12) (v := .ref (g 72)) (C := RX12) (T := TX12) (N := 86) hx hb hts in12 hown hK hH.1 0 rfl rfl 72 (by decide) wd2 (fun _ h9 => h9) rfl dX12_command_73 ?_
            refine lv_iload_n hx hb dX12_command_76 rfl (lv_at hl 2 rfl) ?_
            refine lv_dup2_11 hx hb dX12_command_77 rfl rfl ?_
            refine va_iald hx hb hK hH.1 3 2 rfl rfl (sj_vin (by decide) (by decide)) dX12_command_78 ?_
            refine sj_i (y := 0) (rfl) ?_
            refine lv_iconst (v := 1) hx hb dX12_command_79 (by decide) ?_
            refine lv_iadd hx hb dX12_command_80 ?_
            refine sj_i (y := 1) (by decide) ?_
            refine sj_iast hx hb hK hH hS 3 2 rfl rfl (sj_vin (by decide) (by decide)) dX12_command_81 (fun H locs hH hS => ?_)
            have hH : sj_H D A ([(h0, .inr (12, sj_M g 0)), ((g 70), .inl (kc, 32, .inl (upd fc 24 command))), ((g 71), .inl (kn, 32, .inl (upd fn 24 k))), ((g 72), .inl (ks, 8, .inl (upd (fun _ => 0) 6 1)))] ++ []) H := hH
            refine lv_iconst (v := 1) hx hb dX12_command_82 (by decide) ?_
            exact sj_zret hx hb hr hlocks (by decide +kernel) hS [.int 0, .ref (g 1), .int 0, .ref (g 3), .int 0, .ref (g 5), .int 0, .int 0, .int 0, .int 0, .int 0, .int 0, .ref (g 12), .int 0, .ref (g 14), .ref (g 15), .ref (g 16), .int 0, .int 0, .ref (g 19), .ref (g 20), .ref (g 21), .ref (g 22), .int 0, .ref (g 24), .ref (g 25), .int 0, .int 0, .ref (g 28), .ref (g 29), .ref (g 30), .ref (g 31), .ref (g 32), .int 0, .ref (g 34), .ref (g 35), .ref (g 36), .ref (g 37), .ref (g 38), .ref (g 39), .int 0, .int 0, .ref (g 42), .ref (g 43), .ref (g 44), .int 0, .ref (g 46), .ref (g 47), .ref (g 48), .int 0, .ref (g 50), .ref (g 51), .int 0, .ref (g 53), .int 0, .int 0, .ref (g 56), .int 0, .ref (g 58), .ref (g 59), .ref (g 60), .ref (g 61), .ref (g 62), .ref (g 63), .ref (g 64), .int 0, .int 0, .int 0, .ref (g 68), .ref (g 69), .ref (g 70), .ref (g 71), .ref (g 72), .ref (g 73), .int 0, .int 0, .int 0, .int 0, .int 0, .int 0, .int 0, .int 0, .ref (g 82), .ref (g 83), .ref (g 84), .ref (g 85)] (if_pos ⟨⟨by first | omega | decide, by first | omega | decide⟩, by omega, by omega⟩).symm (sj_sub hH [0] rfl rfl) (sj_Knil hK) (Nat.le_of_ble_eq_true rfl) (Nat.le_of_ble_eq_true rfl) dX12_command_83
          · skip
            refine lv_aload_n hx hb dX12_command_32 rfl (lv_at hl 0 rfl) ?_
            refine va_get (D := D) (ci := 12) (v := .ref (g 72)) (C := RX12) (T := TX12) (N := 86) hx hb hts in12 hown hK hH.1 0 rfl rfl 72 (by decide) wd2 (fun _ h9 => h9) rfl dX12_command_33 ?_
            refine lv_iload_n hx hb dX12_command_36 rfl (lv_at hl 1 rfl) ?_
            refine va_iald hx hb hK hH.1 3 2 rfl rfl (sj_vin (by decide) (by decide)) dX12_command_37 ?_
            refine sj_i (y := 0) (rfl) ?_
            refine lv_iconst (v := 4) hx hb dX12_command_38 (by decide) ?_
            refine lv_icmp_ne (tgt := 44) hx hb dX12_command_39 (by decide) (fun _ => ?_) (fun h => absurd h (by decide))
            refine lv_iconst (v := 4) hx hb dX12_command_44 (by decide) ?_
            refine lv_iload_n hx hb dX12_command_45 rfl (lv_at hl 1 rfl) ?_
            refine lv_imul hx hb dX12_command_46 ?_
            refine sj_i (y := 28) (by decide) ?_
            refine lv_aload_n hx hb dX12_command_47 rfl (lv_at hl 0 rfl) ?_
            refine va_get (D := D) (ci := 12) (v := .ref (g 72)) (C := RX12) (T := TX12) (N := 86) hx hb hts in12 hown hK hH.1 0 rfl rfl 72 (by decide) wd2 (fun _ h9 => h9) rfl dX12_command_48 ?_
            refine lv_iload_n hx hb dX12_command_51 rfl (lv_at hl 1 rfl) ?_
            refine va_iald hx hb hK hH.1 3 2 rfl rfl (sj_vin (by decide) (by decide)) dX12_command_52 ?_
            refine sj_i (y := 0) (rfl) ?_
            refine lv_iadd hx hb dX12_command_53 ?_
            refine sj_i (y := 28) (by decide) ?_
            refine lv_istore (lv' := [(4, .int 28), (0, .ref h0), (1, .int 7), (2, .int command), (3, .int k)]) hx hb dX12_command_54 hl (by decide) rfl (fun ls hl => ?_)
            refine lv_aload_n hx hb dX12_command_56 rfl (lv_at hl 1 rfl) ?_
            refine va_get (D := D) (ci := 12) (v := .ref (g 70)) (C := RX12) (T := TX12) (N := 86) hx hb hts in12 hown hK hH.1 0 rfl rfl 70 (by decide) wd3 (fun _ h9 => h9) rfl dX12_command_57 ?_
            refine lv_iload hx hb dX12_command_60 (lv_at hl 0 rfl) ?_
            refine lv_iload_n hx hb dX12_command_62 rfl (lv_at hl 3 rfl) ?_
            refine sj_iast hx hb hK hH hS 1 0 rfl rfl (sj_vin (by decide) (by decide)) dX12_command_63 (fun H locs hH hS => ?_)
            have hH : sj_H D A ([(h0, .inr (12, sj_M g 0)), ((g 70), .inl (kc, 32, .inl (upd fc 28 command))), ((g 71), .inl (kn, 32, .inl fn)), ((g 72), .inl (ks, 8, .inl (fun _ => 0)))] ++ []) H := hH
            refine lv_aload_n hx hb dX12_command_64 rfl (lv_at hl 1 rfl) ?_
            refine va_get (D := D) (ci := 12) (v := .ref (g 71)) (C := RX12) (T := TX12) (N := 86) hx hb hts in12 hown hK hH.1 0 rfl rfl 71 (by decide) wd4 (fun _ h9 => h9) rfl dX12_command_65 ?_
            refine lv_iload hx hb dX12_command_68 (lv_at hl 0 rfl) ?_
            refine lv_iload_n hx hb dX12_command_70 rfl (lv_at hl 4 rfl) ?_
            refine sj_iast hx hb hK hH hS 2 1 rfl rfl (sj_vin (by decide) (by decide)) dX12_command_71 (fun H locs hH hS => ?_)
            have hH : sj_H D A ([(h0, .inr (12, sj_M g 0)), ((g 70), .inl (kc, 32, .inl (upd fc 28 command))), ((g 71), .inl (kn, 32, .inl (upd fn 28 k))), ((g 72), .inl (ks, 8, .inl (fun _ => 0)))] ++ []) H := hH
            refine lv_aload_n hx hb dX12_command_72 rfl (lv_at hl 1 rfl) ?_
            refine va_get (D := D) (ci := 12) (v := .ref (g 72)) (C := RX12) (T := TX12) (N := 86) hx hb hts in12 hown hK hH.1 0 rfl rfl 72 (by decide) wd2 (fun _ h9 => h9) rfl dX12_command_73 ?_
            refine lv_iload_n hx hb dX12_command_76 rfl (lv_at hl 2 rfl) ?_
            refine lv_dup2_11 hx hb dX12_command_77 rfl rfl ?_
            refine va_iald hx hb hK hH.1 3 2 rfl rfl (sj_vin (by decide) (by decide)) dX12_command_78 ?_
            refine sj_i (y := 0) (rfl) ?_
            refine lv_iconst (v := 1) hx hb dX12_command_79 (by decide) ?_
            refine lv_iadd hx hb dX12_command_80 ?_
            refine sj_i (y := 1) (by decide) ?_
            refine sj_iast hx hb hK hH hS 3 2 rfl rfl (sj_vin (by decide) (by decide)) dX12_command_81 (fun H locs hH hS => ?_)
            have hH : sj_H D A ([(h0, .inr (12, sj_M g 0)), ((g 70), .inl (kc, 32, .inl (upd fc 28 command))), ((g 71), .inl (kn, 32, .inl (upd fn 28 k))), ((g 72), .inl (ks, 8, .inl (upd (fun _ => 0) 7 1)))] ++ []) H := hH
            refine lv_iconst (v := 1) hx hb dX12_command_82 (by decide) ?_
            exact sj_zret hx hb hr hlocks (by decide +kernel) hS [.int 0, .ref (g 1), .int 0, .ref (g 3), .int 0, .ref (g 5), .int 0, .int 0, .int 0, .int 0, .int 0, .int 0, .ref (g 12), .int 0, .ref (g 14), .ref (g 15), .ref (g 16), .int 0, .int 0, .ref (g 19), .ref (g 20), .ref (g 21), .ref (g 22), .int 0, .ref (g 24), .ref (g 25), .int 0, .int 0, .ref (g 28), .ref (g 29), .ref (g 30), .ref (g 31), .ref (g 32), .int 0, .ref (g 34), .ref (g 35), .ref (g 36), .ref (g 37), .ref (g 38), .ref (g 39), .int 0, .int 0, .ref (g 42), .ref (g 43), .ref (g 44), .int 0, .ref (g 46), .ref (g 47), .ref (g 48), .int 0, .ref (g 50), .ref (g 51), .int 0, .ref (g 53), .int 0, .int 0, .ref (g 56), .int 0, .ref (g 58), .ref (g 59), .ref (g 60), .ref (g 61), .ref (g 62), .ref (g 63), .ref (g 64), .int 0, .int 0, .int 0, .ref (g 68), .ref (g 69), .ref (g 70), .ref (g 71), .ref (g 72), .ref (g 73), .int 0, .int 0, .int 0, .int 0, .int 0, .int 0, .int 0, .int 0, .ref (g 82), .ref (g 83), .ref (g 84), .ref (g 85)] (if_pos ⟨⟨by first | omega | decide, by first | omega | decide⟩, by omega, by omega⟩).symm (sj_sub hH [0] rfl rfl) (sj_Knil hK) (Nat.le_of_ble_eq_true rfl) (Nat.le_of_ble_eq_true rfl) dX12_command_83
set_option maxHeartbeats 4000000 in
set_option maxRecDepth 100000 in
theorem c_X12_start (l : Launch) (D : va_G) (h0 : Nat) (g : Nat → Nat) (th : Int32) (workers : Int32) (kj : ClassId) (fv : Nat → Int32) (kv : ClassId) (sz : Nat)  : Met l yX12_start wsX12_start ({ frames := 2, cells := 0, slots := 0, locals := 47 }) (va_Pc [.ref h0, .int workers] (sj_B D [(h0, .inr (12, sj_M g th)), ((g 83), .inl (kj, 3, .inl (upd (upd (upd (fun _ => 0) 0 (-1)) 1 (-1)) 2 (-1)))), ((g 82), .inl (kv, 256, .inl fv))] [(kj, .int), (kv, .int)] sz sj_n)) (sj_Qi (S := (List Value)) D (fun r u => (r = 0 ∧ u[0]? = some (.int 0) ∧ 1 ≤ workers.toInt ∧ workers.toInt ≤ 3) ∨ (u[0]? = some (.int 2) ∧ ¬ (1 ≤ workers.toInt ∧ workers.toInt ≤ 3))) (fun u => [(h0, .inr (12, u))]) (fun u => []) (va_A [(h0, .inr (12, sj_M g th)), ((g 83), .inl (kj, 3, .inl (upd (upd (upd (fun _ => 0) 0 (-1)) 1 (-1)) 2 (-1)))), ((g 82), .inl (kv, 256, .inl fv))] sz)) 0 0 (va_A [(h0, .inr (12, sj_M g th)), ((g 83), .inl (kj, 3, .inl (upd (upd (upd (fun _ => 0) 0 (-1)) 1 (-1)) 2 (-1)))), ((g 82), .inl (kv, 256, .inl fv))] sz) := by
  refine sj_met (cc := cX12_start) (maxL := 3) (ret := (some .int)) (by decide) rfl (Nat.le_of_ble_eq_true rfl) ?_
  intro p e s m below meth c A ls hx hb hr hml hts hown hlocks hnm hA hsz hS hH hK hE hl
  have hown : s.vm.findClass RX12 = some m.cls := hown
  have in12 : ∀ w ∈ wsX120, w ∈ wsX12_start := by decide +kernel
  have wd0 := hts (.fieldLink RX12 507 "StoryDeskModel" "workers" "I") (by decide +kernel)
  have wd1 := hts (.fieldLink RX12 516 "StoryDeskModel" "turn" "I") (by decide +kernel)
  have wd2 := hts (.fieldLink RX12 504 "StoryDeskModel" "upcoming" "I") (by decide +kernel)
  have wd3 := hts (.fieldLink RX12 510 "StoryDeskModel" "worst" "I") (by decide +kernel)
  have wd4 := hts (.fieldLink RX12 460 "StoryDeskModel" "units" "I") (by decide +kernel)
  have wd5 := hts (.fieldLink RX12 165 "StoryDeskModel" "cases" "I") (by decide +kernel)
  have wd6 := hts (.fieldLink RX12 168 "StoryDeskModel" "running" "Z") (by decide +kernel)
  have hl : lv_has ls 3 [(0, .ref h0), (1, .int workers)] := hl
  have hH : sj_H D A ([(h0, .inr (12, sj_M g th)), ((g 83), .inl (kj, 3, .inl (upd (upd (upd (fun _ => 0) 0 (-1)) 1 (-1)) 2 (-1)))), ((g 82), .inl (kv, 256, .inl fv))] ++ []) s.heap := hH
  refine lv_aload_n hx hb dX12_start_0 rfl (lv_at hl 0 rfl) ?_
  refine sj_calli (wr := [((g 83), .inl (kj, 3, .inl (upd (upd (upd (fun _ => 0) 0 (-1)) 1 (-1)) 2 (-1)))), ((g 82), .inl (kv, 256, .inl fv))]) (va_runV (As := []) (rest := []) ⟨hx, hb, hml, hown, hts⟩ (c_X12_busy l D h0 g th 0 0 0 0 0 0 0 0 0 0 0 0 0 0 0 0 0 0 0 0 0 0 0 0 0 0 0 0 0 0 0 0 0 s.heap.size) (cwV 0 hts gX12_start_X12_busy rfl rfl rfl (by decide +kernel) ⟨(Nat.le_of_ble_eq_true rfl), (Nat.le_of_ble_eq_true rfl)⟩) (sj_preV (q := (RX12, TX12, 86)) hH hK [0] rfl rfl [] rfl rfl rfl sj_bln sj_exn) rfl rfl hl.1 rfl (lv_room (Nat.le_of_ble_eq_true rfl)) dX12_start_1 ⟨(Nat.le_of_ble_eq_true rfl), (Nat.le_of_ble_eq_true rfl)⟩) hH hK hS hA [0] [1, 2] rfl rfl rfl rfl (by decide) rfl rfl (fun r_1 u_2 H locs hw_3 hH hK hS => ?_)
  have hH : sj_H D A ([((g 83), .inl (kj, 3, .inl (upd (upd (upd (fun _ => 0) 0 (-1)) 1 (-1)) 2 (-1)))), ((g 82), .inl (kv, 256, .inl fv)), (h0, .inr (12, sj_M g 0))] ++ []) H := hH
  have hK : va_K D vwCl [(kj, .int), (kv, .int)] s := by simpa using hK
  subst hw_3
  refine lv_if_eq (tgt := 9) hx hb dX12_start_4 (by decide) (fun _ => ?_) (fun h => absurd (by decide) h)
  refine lv_aload_n hx hb dX12_start_9 rfl (lv_at hl 0 rfl) ?_
  refine lv_iload_n hx hb dX12_start_10 rfl (lv_at hl 1 rfl) ?_
  refine lv_iconst (v := 1) hx hb dX12_start_11 (by decide) ?_
  refine lv_icmp_lt (tgt := 20) hx hb dX12_start_12 (by decide) (fun c_5 => ?_) (fun c_5 => ?_)
  · skip
    have d_6 := sj_ltF (n := 1) (by decide) c_5
    refine lv_iconst (v := 2) hx hb dX12_start_20 (by decide) ?_
    refine lv_goto (tgt := 25) hx hb dX12_start_21 (by decide) ?_
    refine sj_calli (wr := [((g 83), .inl (kj, 3, .inl (upd (upd (upd (fun _ => 0) 0 (-1)) 1 (-1)) 2 (-1)))), ((g 82), .inl (kv, 256, .inl fv))]) (va_runV (As := [.int 2]) (rest := []) ⟨hx, hb, hml, hown, hts⟩ (c_X12_throwsNow2 l D h0 g 0 0 0 0 0 0 0 0 0 0 0 0 0 0 0 0 0 0 0 0 0 0 0 0 0 0 0 0 0 0 0 0 0 0 0 H.size) (cwV 1 hts gX12_start_X12_throwsNow rfl rfl rfl (by decide +kernel) ⟨(Nat.le_of_ble_eq_true rfl), (Nat.le_of_ble_eq_true rfl)⟩) (sj_preV (q := (RX12, TX12, 86)) hH hK [2] rfl rfl [] rfl rfl rfl sj_bln sj_exn) rfl rfl hl.1 rfl (lv_room (Nat.le_of_ble_eq_true rfl)) dX12_start_25 ⟨(Nat.le_of_ble_eq_true rfl), (Nat.le_of_ble_eq_true rfl)⟩) hH hK hS hA [2] [0, 1] rfl rfl rfl rfl (by decide) rfl rfl (fun r_7 u_8 H locs hw_9 hH hK hS => ?_)
    have hH : sj_H D A ([((g 83), .inl (kj, 3, .inl (upd (upd (upd (fun _ => 0) 0 (-1)) 1 (-1)) 2 (-1)))), ((g 82), .inl (kv, 256, .inl fv)), (h0, .inr (12, sj_M g 2))] ++ []) H := hH
    have hK : va_K D vwCl [(kj, .int), (kv, .int)] s := by simpa using hK
    subst hw_9
    refine lv_if_eq (tgt := 33) hx hb dX12_start_28 (by decide) (fun h => absurd h (by decide)) (fun _ => ?_)
    refine lv_iconst (v := 0) hx hb dX12_start_31 (by decide) ?_
    exact sj_zret hx hb hr hlocks rfl hS [.int 2, .ref (g 1), .int 0, .ref (g 3), .int 0, .ref (g 5), .int 0, .int 0, .int 0, .int 0, .int 0, .int 0, .ref (g 12), .int 0, .ref (g 14), .ref (g 15), .ref (g 16), .int 0, .int 0, .ref (g 19), .ref (g 20), .ref (g 21), .ref (g 22), .int 0, .ref (g 24), .ref (g 25), .int 0, .int 0, .ref (g 28), .ref (g 29), .ref (g 30), .ref (g 31), .ref (g 32), .int 0, .ref (g 34), .ref (g 35), .ref (g 36), .ref (g 37), .ref (g 38), .ref (g 39), .int 0, .int 0, .ref (g 42), .ref (g 43), .ref (g 44), .int 0, .ref (g 46), .ref (g 47), .ref (g 48), .int 0, .ref (g 50), .ref (g 51), .int 0, .ref (g 53), .int 0, .int 0, .ref (g 56), .int 0, .ref (g 58), .ref (g 59), .ref (g 60), .ref (g 61), .ref (g 62), .ref (g 63), .ref (g 64), .int 0, .int 0, .int 0, .ref (g 68), .ref (g 69), .ref (g 70), .ref (g 71), .ref (g 72), .ref (g 73), .int 0, .int 0, .int 0, .int 0, .int 0, .int 0, .int 0, .int 0, .ref (g 82), .ref (g 83), .ref (g 84), .ref (g 85)] (Or.inr ⟨rfl, by omega⟩) (sj_sub hH [2] rfl rfl) (sj_Knil hK) (Nat.le_of_ble_eq_true rfl) (Nat.le_of_ble_eq_true rfl) dX12_start_32
  · skip
    have d_11 := sj_nlt (n := 1) (by decide) c_5
    refine lv_iload_n hx hb dX12_start_15 rfl (lv_at hl 1 rfl) ?_
    refine lv_iconst (v := 3) hx hb dX12_start_16 (by decide) ?_
    refine lv_icmp_le (tgt := 24) hx hb dX12_start_17 (by decide) (fun c_12 => ?_) (fun c_12 => ?_)
    · skip
      have d_13 := sj_leF (n := 3) (by decide) c_12
      refine lv_iconst (v := 0) hx hb dX12_start_24 (by decide) ?_
      refine sj_calli (wr := [((g 83), .inl (kj, 3, .inl (upd (upd (upd (fun _ => 0) 0 (-1)) 1 (-1)) 2 (-1)))), ((g 82), .inl (kv, 256, .inl fv))]) (va_runV (As := [.int 0]) (rest := []) ⟨hx, hb, hml, hown, hts⟩ (c_X12_throwsNow0 l D h0 g 0 0 0 0 0 0 0 0 0 0 0 0 0 0 0 0 0 0 0 0 0 0 0 0 0 0 0 0 0 0 0 0 0 0 0 H.size) (cwV 1 hts gX12_start_X12_throwsNow rfl rfl rfl (by decide +kernel) ⟨(Nat.le_of_ble_eq_true rfl), (Nat.le_of_ble_eq_true rfl)⟩) (sj_preV (q := (RX12, TX12, 86)) hH hK [2] rfl rfl [] rfl rfl rfl sj_bln sj_exn) rfl rfl hl.1 rfl (lv_room (Nat.le_of_ble_eq_true rfl)) dX12_start_25 ⟨(Nat.le_of_ble_eq_true rfl), (Nat.le_of_ble_eq_true rfl)⟩) hH hK hS hA [2] [0, 1] rfl rfl rfl rfl (by decide) rfl rfl (fun r_14 u_15 H locs hw_16 hH hK hS => ?_)
      have hH : sj_H D A ([((g 83), .inl (kj, 3, .inl (upd (upd (upd (fun _ => 0) 0 (-1)) 1 (-1)) 2 (-1)))), ((g 82), .inl (kv, 256, .inl fv)), (h0, .inr (12, sj_M g 0))] ++ []) H := hH
      have hK : va_K D vwCl [(kj, .int), (kv, .int)] s := by simpa using hK
      subst hw_16
      refine lv_if_eq (tgt := 33) hx hb dX12_start_28 (by decide) (fun _ => ?_) (fun h => absurd (by decide) h)
      have sp_18 : workers = 1 ∨ workers = 2 ∨ workers = 3 := by
        rcases (show workers.toInt = 1 ∨ workers.toInt = 2 ∨ workers.toInt = 3 by omega) with h | h | h
        · exact Or.inl (sj_eqP (by decide) h)
        · exact Or.inr (Or.inl (sj_eqP (by decide) h))
        · exact Or.inr (Or.inr (sj_eqP (by decide) h))
      rcases sp_18 with rfl | rfl | rfl
      · skip
        refine lv_aload_n hx hb dX12_start_33 rfl (lv_at hl 0 rfl) ?_
        refine lv_iload_n hx hb dX12_start_34 rfl (lv_at hl 1 rfl) ?_
        refine sj_put (D := D) (ci := 12) (v := .int 1) (ty := .int) (C := RX12) (F := TX12) (N := 86) hx hb hts in12 tyX12 tyX12_ok nmX12 hown hK hH hS 2 rfl rfl 77 (by decide) wd0 (fun _ h9 => h9) rfl (by decide +kernel) rfl rfl (Nat.le_of_ble_eq_true rfl) dX12_start_35 (fun H locs (hH : sj_H D A ([((g 83), .inl (kj, 3, .inl (upd (upd (upd (fun _ => 0) 0 (-1)) 1 (-1)) 2 (-1)))), ((g 82), .inl (kv, 256, .inl fv)), (h0, .inr (12, [.int 0, .ref (g 1), .int 0, .ref (g 3), .int 0, .ref (g 5), .int 0, .int 0, .int 0, .int 0, .int 0, .int 0, .ref (g 12), .int 0, .ref (g 14), .ref (g 15), .ref (g 16), .int 0, .int 0, .ref (g 19), .ref (g 20), .ref (g 21), .ref (g 22), .int 0, .ref (g 24), .ref (g 25), .int 0, .int 0, .ref (g 28), .ref (g 29), .ref (g 30), .ref (g 31), .ref (g 32), .int 0, .ref (g 34), .ref (g 35), .ref (g 36), .ref (g 37), .ref (g 38), .ref (g 39), .int 0, .int 0, .ref (g 42), .ref (g 43), .ref (g 44), .int 0, .ref (g 46), .ref (g 47), .ref (g 48), .int 0, .ref (g 50), .ref (g 51), .int 0, .ref (g 53), .int 0, .int 0, .ref (g 56), .int 0, .ref (g 58), .ref (g 59), .ref (g 60), .ref (g 61), .ref (g 62), .ref (g 63), .ref (g 64), .int 0, .int 0, .int 0, .ref (g 68), .ref (g 69), .ref (g 70), .ref (g 71), .ref (g 72), .ref (g 73), .int 0, .int 0, .int 0, .int 1, .int 0, .int 0, .int 0, .int 0, .ref (g 82), .ref (g 83), .ref (g 84), .ref (g 85)]))] ++ []) H) hS => ?_)
        refine lv_aload_n hx hb dX12_start_38 rfl (lv_at hl 0 rfl) ?_
        refine lv_iconst (v := 0) hx hb dX12_start_39 (by decide) ?_
        refine sj_put (D := D) (ci := 12) (v := .int 0) (ty := .int) (C := RX12) (F := TX12) (N := 86) hx hb hts in12 tyX12 tyX12_ok nmX12 hown hK hH hS 2 rfl rfl 78 (by decide) wd1 (fun _ h9 => h9) rfl (by decide +kernel) rfl rfl (Nat.le_of_ble_eq_true rfl) dX12_start_40 (fun H locs (hH : sj_H D A ([((g 83), .inl (kj, 3, .inl (upd (upd (upd (fun _ => 0) 0 (-1)) 1 (-1)) 2 (-1)))), ((g 82), .inl (kv, 256, .inl fv)), (h0, .inr (12, [.int 0, .ref (g 1), .int 0, .ref (g 3), .int 0, .ref (g 5), .int 0, .int 0, .int 0, .int 0, .int 0, .int 0, .ref (g 12), .int 0, .ref (g 14), .ref (g 15), .ref (g 16), .int 0, .int 0, .ref (g 19), .ref (g 20), .ref (g 21), .ref (g 22), .int 0, .ref (g 24), .ref (g 25), .int 0, .int 0, .ref (g 28), .ref (g 29), .ref (g 30), .ref (g 31), .ref (g 32), .int 0, .ref (g 34), .ref (g 35), .ref (g 36), .ref (g 37), .ref (g 38), .ref (g 39), .int 0, .int 0, .ref (g 42), .ref (g 43), .ref (g 44), .int 0, .ref (g 46), .ref (g 47), .ref (g 48), .int 0, .ref (g 50), .ref (g 51), .int 0, .ref (g 53), .int 0, .int 0, .ref (g 56), .int 0, .ref (g 58), .ref (g 59), .ref (g 60), .ref (g 61), .ref (g 62), .ref (g 63), .ref (g 64), .int 0, .int 0, .int 0, .ref (g 68), .ref (g 69), .ref (g 70), .ref (g 71), .ref (g 72), .ref (g 73), .int 0, .int 0, .int 0, .int 1, .int 0, .int 0, .int 0, .int 0, .ref (g 82), .ref (g 83), .ref (g 84), .ref (g 85)]))] ++ []) H) hS => ?_)
        refine lv_aload_n hx hb dX12_start_43 rfl (lv_at hl 0 rfl) ?_
        refine lv_iconst (v := 0) hx hb dX12_start_44 (by decide) ?_
        refine sj_put (D := D) (ci := 12) (v := .int 0) (ty := .int) (C := RX12) (F := TX12) (N := 86) hx hb hts in12 tyX12 tyX12_ok nmX12 hown hK hH hS 2 rfl rfl 79 (by decide) wd2 (fun _ h9 => h9) rfl (by decide +kernel) rfl rfl (Nat.le_of_ble_eq_true rfl) dX12_start_45 (fun H locs (hH : sj_H D A ([((g 83), .inl (kj, 3, .inl (upd (upd (upd (fun _ => 0) 0 (-1)) 1 (-1)) 2 (-1)))), ((g 82), .inl (kv, 256, .inl fv)), (h0, .inr (12, [.int 0, .ref (g 1), .int 0, .ref (g 3), .int 0, .ref (g 5), .int 0, .int 0, .int 0, .int 0, .int 0, .int 0, .ref (g 12), .int 0, .ref (g 14), .ref (g 15), .ref (g 16), .int 0, .int 0, .ref (g 19), .ref (g 20), .ref (g 21), .ref (g 22), .int 0, .ref (g 24), .ref (g 25), .int 0, .int 0, .ref (g 28), .ref (g 29), .ref (g 30), .ref (g 31), .ref (g 32), .int 0, .ref (g 34), .ref (g 35), .ref (g 36), .ref (g 37), .ref (g 38), .ref (g 39), .int 0, .int 0, .ref (g 42), .ref (g 43), .ref (g 44), .int 0, .ref (g 46), .ref (g 47), .ref (g 48), .int 0, .ref (g 50), .ref (g 51), .int 0, .ref (g 53), .int 0, .int 0, .ref (g 56), .int 0, .ref (g 58), .ref (g 59), .ref (g 60), .ref (g 61), .ref (g 62), .ref (g 63), .ref (g 64), .int 0, .int 0, .int 0, .ref (g 68), .ref (g 69), .ref (g 70), .ref (g 71), .ref (g 72), .ref (g 73), .int 0, .int 0, .int 0, .int 1, .int 0, .int 0, .int 0, .int 0, .ref (g 82), .ref (g 83), .ref (g 84), .ref (g 85)]))] ++ []) H) hS => ?_)
        refine lv_aload_n hx hb dX12_start_48 rfl (lv_at hl 0 rfl) ?_
        refine lv_iconst (v := 0) hx hb dX12_start_49 (by decide) ?_
        refine sj_put (D := D) (ci := 12) (v := .int 0) (ty := .int) (C := RX12) (F := TX12) (N := 86) hx hb hts in12 tyX12 tyX12_ok nmX12 hown hK hH hS 2 rfl rfl 80 (by decide) wd3 (fun _ h9 => h9) rfl (by decide +kernel) rfl rfl (Nat.le_of_ble_eq_true rfl) dX12_start_50 (fun H locs (hH : sj_H D A ([((g 83), .inl (kj, 3, .inl (upd (upd (upd (fun _ => 0) 0 (-1)) 1 (-1)) 2 (-1)))), ((g 82), .inl (kv, 256, .inl fv)), (h0, .inr (12, [.int 0, .ref (g 1), .int 0, .ref (g 3), .int 0, .ref (g 5), .int 0, .int 0, .int 0, .int 0, .int 0, .int 0, .ref (g 12), .int 0, .ref (g 14), .ref (g 15), .ref (g 16), .int 0, .int 0, .ref (g 19), .ref (g 20), .ref (g 21), .ref (g 22), .int 0, .ref (g 24), .ref (g 25), .int 0, .int 0, .ref (g 28), .ref (g 29), .ref (g 30), .ref (g 31), .ref (g 32), .int 0, .ref (g 34), .ref (g 35), .ref (g 36), .ref (g 37), .ref (g 38), .ref (g 39), .int 0, .int 0, .ref (g 42), .ref (g 43), .ref (g 44), .int 0, .ref (g 46), .ref (g 47), .ref (g 48), .int 0, .ref (g 50), .ref (g 51), .int 0, .ref (g 53), .int 0, .int 0, .ref (g 56), .int 0, .ref (g 58), .ref (g 59), .ref (g 60), .ref (g 61), .ref (g 62), .ref (g 63), .ref (g 64), .int 0, .int 0, .int 0, .ref (g 68), .ref (g 69), .ref (g 70), .ref (g 71), .ref (g 72), .ref (g 73), .int 0, .int 0, .int 0, .int 1, .int 0, .int 0, .int 0, .int 0, .ref (g 82), .ref (g 83), .ref (g 84), .ref (g 85)]))] ++ []) H) hS => ?_)
        refine lv_aload_n hx hb dX12_start_53 rfl (lv_at hl 0 rfl) ?_
        refine lv_iconst (v := 0) hx hb dX12_start_54 (by decide) ?_
        refine sj_put (D := D) (ci := 12) (v := .int 0) (ty := .int) (C := RX12) (F := TX12) (N := 86) hx hb hts in12 tyX12 tyX12_ok nmX12 hown hK hH hS 2 rfl rfl 75 (by decide) wd4 (fun _ h9 => h9) rfl (by decide +kernel) rfl rfl (Nat.le_of_ble_eq_true rfl) dX12_start_55 (fun H locs (hH : sj_H D A ([((g 83), .inl (kj, 3, .inl (upd (upd (upd (fun _ => 0) 0 (-1)) 1 (-1)) 2 (-1)))), ((g 82), .inl (kv, 256, .inl fv)), (h0, .inr (12, [.int 0, .ref (g 1), .int 0, .ref (g 3), .int 0, .ref (g 5), .int 0, .int 0, .int 0, .int 0, .int 0, .int 0, .ref (g 12), .int 0, .ref (g 14), .ref (g 15), .ref (g 16), .int 0, .int 0, .ref (g 19), .ref (g 20), .ref (g 21), .ref (g 22), .int 0, .ref (g 24), .ref (g 25), .int 0, .int 0, .ref (g 28), .ref (g 29), .ref (g 30), .ref (g 31), .ref (g 32), .int 0, .ref (g 34), .ref (g 35), .ref (g 36), .ref (g 37), .ref (g 38), .ref (g 39), .int 0, .int 0, .ref (g 42), .ref (g 43), .ref (g 44), .int 0, .ref (g 46), .ref (g 47), .ref (g 48), .int 0, .ref (g 50), .ref (g 51), .int 0, .ref (g 53), .int 0, .int 0, .ref (g 56), .int 0, .ref (g 58), .ref (g 59), .ref (g 60), .ref (g 61), .ref (g 62), .ref (g 63), .ref (g 64), .int 0, .int 0, .int 0, .ref (g 68), .ref (g 69), .ref (g 70), .ref (g 71), .ref (g 72), .ref (g 73), .int 0, .int 0, .int 0, .int 1, .int 0, .int 0, .int 0, .int 0, .ref (g 82), .ref (g 83), .ref (g 84), .ref (g 85)]))] ++ []) H) hS => ?_)
        refine lv_iconst (v := 0) hx hb dX12_start_58 (by decide) ?_
        refine lv_istore_n (lv' := [(2, .int 0), (0, .ref h0), (1, .int 1)]) hx hb dX12_start_59 rfl hl (by decide) rfl (fun ls hl => ?_)
        refine lv_iload_n hx hb dX12_start_60 rfl (lv_at hl 0 rfl) ?_
        refine lv_aload_n hx hb dX12_start_61 rfl (lv_at hl 1 rfl) ?_
        refine va_get (D := D) (ci := 12) (v := .int 0) (C := RX12) (T := TX12) (N := 86) hx hb hts in12 hown hK hH.1 2 rfl rfl 33 (by decide) wd5 (fun _ h9 => h9) rfl dX12_start_62 ?_
        refine lv_icmp_ge (tgt := 81) hx hb dX12_start_65 (by decide) (fun _ => ?_) (fun h => absurd (by decide) h)
        refine lv_aload_n hx hb dX12_start_81 rfl (lv_at hl 1 rfl) ?_
        refine lv_iconst (v := 1) hx hb dX12_start_82 (by decide) ?_
        refine sj_put (D := D) (ci := 12) (v := .int 1) (ty := .boolean) (C := RX12) (F := TX12) (N := 86) hx hb hts in12 tyX12 tyX12_ok nmX12 hown hK hH hS 2 rfl rfl 76 (by decide) wd6 (fun _ h9 => h9) rfl (by decide +kernel) (by decide +kernel) (by decide +kernel) (Nat.le_of_ble_eq_true rfl) dX12_start_83 (fun H locs (hH : sj_H D A ([((g 83), .inl (kj, 3, .inl (upd (upd (upd (fun _ => 0) 0 (-1)) 1 (-1)) 2 (-1)))), ((g 82), .inl (kv, 256, .inl fv)), (h0, .inr (12, [.int 0, .ref (g 1), .int 0, .ref (g 3), .int 0, .ref (g 5), .int 0, .int 0, .int 0, .int 0, .int 0, .int 0, .ref (g 12), .int 0, .ref (g 14), .ref (g 15), .ref (g 16), .int 0, .int 0, .ref (g 19), .ref (g 20), .ref (g 21), .ref (g 22), .int 0, .ref (g 24), .ref (g 25), .int 0, .int 0, .ref (g 28), .ref (g 29), .ref (g 30), .ref (g 31), .ref (g 32), .int 0, .ref (g 34), .ref (g 35), .ref (g 36), .ref (g 37), .ref (g 38), .ref (g 39), .int 0, .int 0, .ref (g 42), .ref (g 43), .ref (g 44), .int 0, .ref (g 46), .ref (g 47), .ref (g 48), .int 0, .ref (g 50), .ref (g 51), .int 0, .ref (g 53), .int 0, .int 0, .ref (g 56), .int 0, .ref (g 58), .ref (g 59), .ref (g 60), .ref (g 61), .ref (g 62), .ref (g 63), .ref (g 64), .int 0, .int 0, .int 0, .ref (g 68), .ref (g 69), .ref (g 70), .ref (g 71), .ref (g 72), .ref (g 73), .int 0, .int 0, .int 1, .int 1, .int 0, .int 0, .int 0, .int 0, .ref (g 82), .ref (g 83), .ref (g 84), .ref (g 85)]))] ++ []) H) hS => ?_)
        refine lv_aload_n hx hb dX12_start_86 rfl (lv_at hl 1 rfl) ?_
        refine lv_iconst (v := 0) hx hb dX12_start_87 (by decide) ?_
        refine lv_aload_n hx hb dX12_start_88 rfl (lv_at hl 1 rfl) ?_
        refine sj_calli (wr := [((g 83), .inl (kj, 3, .inl (upd (upd (upd (fun _ => 0) 0 (-1)) 1 (-1)) 2 (-1)))), ((g 82), .inl (kv, 256, .inl fv))]) (va_runV (As := []) (rest := [.int 0, .ref h0]) ⟨hx, hb, hml, hown, hts⟩ (c_X12_wanted l D h0 g 0 0 0 0 0 0 0 0 0 0 0 0 0 0 0 0 0 0 0 0 0 0 0 0 0 0 0 0 1 1 0 0 0 0 H.size) (cwV 0 hts gX12_start_X12_wanted rfl rfl rfl (by decide +kernel) ⟨(Nat.le_of_ble_eq_true rfl), (Nat.le_of_ble_eq_true rfl)⟩) (sj_preV (q := (RX12, TX12, 86)) hH hK [2] rfl rfl [] rfl rfl rfl sj_bln sj_exn) rfl rfl hl.1 rfl (lv_room (Nat.le_of_ble_eq_true rfl)) dX12_start_89 ⟨(Nat.le_of_ble_eq_true rfl), (Nat.le_of_ble_eq_true rfl)⟩) hH hK hS hA [2] [0, 1] rfl rfl rfl rfl (by decide) rfl rfl (fun r_20 u_21 H locs hw_22 hH hK hS => ?_)
        have hH : sj_H D A ([((g 83), .inl (kj, 3, .inl (upd (upd (upd (fun _ => 0) 0 (-1)) 1 (-1)) 2 (-1)))), ((g 82), .inl (kv, 256, .inl fv)), (h0, .inr (12, [.int 0, .ref (g 1), .int 0, .ref (g 3), .int 0, .ref (g 5), .int 0, .int 0, .int 0, .int 0, .int 0, .int 0, .ref (g 12), .int 0, .ref (g 14), .ref (g 15), .ref (g 16), .int 0, .int 0, .ref (g 19), .ref (g 20), .ref (g 21), .ref (g 22), .int 0, .ref (g 24), .ref (g 25), .int 0, .int 0, .ref (g 28), .ref (g 29), .ref (g 30), .ref (g 31), .ref (g 32), .int 0, .ref (g 34), .ref (g 35), .ref (g 36), .ref (g 37), .ref (g 38), .ref (g 39), .int 0, .int 0, .ref (g 42), .ref (g 43), .ref (g 44), .int 0, .ref (g 46), .ref (g 47), .ref (g 48), .int 0, .ref (g 50), .ref (g 51), .int 0, .ref (g 53), .int 0, .int 0, .ref (g 56), .int 0, .ref (g 58), .ref (g 59), .ref (g 60), .ref (g 61), .ref (g 62), .ref (g 63), .ref (g 64), .int 0, .int 0, .int 0, .ref (g 68), .ref (g 69), .ref (g 70), .ref (g 71), .ref (g 72), .ref (g 73), .int 0, .int 0, .int 1, .int 1, .int 0, .int 0, .int 0, .int 0, .ref (g 82), .ref (g 83), .ref (g 84), .ref (g 85)]))] ++ []) H := hH
        have hK : va_K D vwCl [(kj, .int), (kv, .int)] s := by simpa using hK
        subst hw_22
        refine lv_iload_n hx hb dX12_start_92 rfl (lv_at hl 2 rfl) ?_
        refine lv_iconst (v := 0) hx hb dX12_start_93 (by decide) ?_
        refine sj_callv (wr := [((g 83), .inl (kj, 3, .inl (upd (upd (upd (fun _ => 0) 0 (-1)) 1 (-1)) 2 (-1))))]) (va_runV (As := [.int 0, .int 0, .int 1, .int 0]) (rest := []) ⟨hx, hb, hml, hown, hts⟩ (c_X12_tell0 l D h0 g 0 0 0 0 0 0 0 0 0 0 0 0 0 0 0 0 0 0 0 0 0 0 0 0 0 0 0 0 0 1 1 0 0 0 0 0 1 0 fv kv H.size) (cwV 4 hts gX12_start_X12_tell rfl rfl rfl (by decide +kernel) ⟨(Nat.le_of_ble_eq_true rfl), (Nat.le_of_ble_eq_true rfl)⟩) (sj_preV (q := (RX12, TX12, 86)) hH hK [2, 1] rfl rfl [1] rfl rfl rfl sj_bln sj_exn) rfl rfl hl.1 rfl (lv_room (Nat.le_of_ble_eq_true rfl)) dX12_start_94 ⟨(Nat.le_of_ble_eq_true rfl), (Nat.le_of_ble_eq_true rfl)⟩) hH hK hS hA [2, 1] [0] rfl rfl rfl rfl (by decide) rfl rfl (fun u_24 H locs hw_25 hH hK hS => ?_)
        have hH : sj_H D A ([((g 83), .inl (kj, 3, .inl (upd (upd (upd (fun _ => 0) 0 (-1)) 1 (-1)) 2 (-1)))), (h0, .inr (12, [.int 0, .ref (g 1), .int 0, .ref (g 3), .int 0, .ref (g 5), .int 0, .int 0, .int 0, .int 0, .int 0, .int 0, .ref (g 12), .int 0, .ref (g 14), .ref (g 15), .ref (g 16), .int 0, .int 0, .ref (g 19), .ref (g 20), .ref (g 21), .ref (g 22), .int 0, .ref (g 24), .ref (g 25), .int 0, .int 0, .ref (g 28), .ref (g 29), .ref (g 30), .ref (g 31), .ref (g 32), .int 0, .ref (g 34), .ref (g 35), .ref (g 36), .ref (g 37), .ref (g 38), .ref (g 39), .int 0, .int 0, .ref (g 42), .ref (g 43), .ref (g 44), .int 0, .ref (g 46), .ref (g 47), .ref (g 48), .int 0, .ref (g 50), .ref (g 51), .int 0, .ref (g 53), .int 0, .int 0, .ref (g 56), .int 0, .ref (g 58), .ref (g 59), .ref (g 60), .ref (g 61), .ref (g 62), .ref (g 63), .ref (g 64), .int 0, .int 0, .int 0, .ref (g 68), .ref (g 69), .ref (g 70), .ref (g 71), .ref (g 72), .ref (g 73), .int 0, .int 0, .int 1, .int 1, .int 0, .int 0, .int 0, .int 1, .ref (g 82), .ref (g 83), .ref (g 84), .ref (g 85)])), ((g 82), .inl (kv, 256, .inl (upd (upd (upd (upd fv 0 0) 1 0) 2 1) 3 0)))] ++ []) H := hH
        have hK : va_K D vwCl [(kj, .int), (kv, .int)] s := by simpa using hK
        refine lv_aload_n hx hb dX12_start_97 rfl (lv_at hl 1 rfl) ?_
        refine sj_calli (wr := [((g 83), .inl (kj, 3, .inl (upd (upd (upd (fun _ => 0) 0 (-1)) 1 (-1)) 2 (-1)))), ((g 82), .inl (kv, 256, .inl (upd (upd (upd (upd fv 0 0) 1 0) 2 1) 3 0)))]) (va_runV (As := []) (rest := []) ⟨hx, hb, hml, hown, hts⟩ (c_X12_wanted l D h0 g 0 0 0 0 0 0 0 0 0 0 0 0 0 0 0 0 0 0 0 0 0 0 0 0 0 0 0 0 1 1 0 0 0 1 H.size) (cwV 0 hts gX12_start_X12_wanted rfl rfl rfl (by decide +kernel) ⟨(Nat.le_of_ble_eq_true rfl), (Nat.le_of_ble_eq_true rfl)⟩) (sj_preV (q := (RX12, TX12, 86)) hH hK [1] rfl rfl [] rfl rfl rfl sj_bln sj_exn) rfl rfl hl.1 rfl (lv_room (Nat.le_of_ble_eq_true rfl)) dX12_start_98 ⟨(Nat.le_of_ble_eq_true rfl), (Nat.le_of_ble_eq_true rfl)⟩) hH hK hS hA [1] [0, 2] rfl rfl rfl rfl (by decide) rfl rfl (fun r_26 u_27 H locs hw_28 hH hK hS => ?_)
        have hH : sj_H D A ([((g 83), .inl (kj, 3, .inl (upd (upd (upd (fun _ => 0) 0 (-1)) 1 (-1)) 2 (-1)))), ((g 82), .inl (kv, 256, .inl (upd (upd (upd (upd fv 0 0) 1 0) 2 1) 3 0))), (h0, .inr (12, [.int 0, .ref (g 1), .int 0, .ref (g 3), .int 0, .ref (g 5), .int 0, .int 0, .int 0, .int 0, .int 0, .int 0, .ref (g 12), .int 0, .ref (g 14), .ref (g 15), .ref (g 16), .int 0, .int 0, .ref (g 19), .ref (g 20), .ref (g 21), .ref (g 22), .int 0, .ref (g 24), .ref (g 25), .int 0, .int 0, .ref (g 28), .ref (g 29), .ref (g 30), .ref (g 31), .ref (g 32), .int 0, .ref (g 34), .ref (g 35), .ref (g 36), .ref (g 37), .ref (g 38), .ref (g 39), .int 0, .int 0, .ref (g 42), .ref (g 43), .ref (g 44), .int 0, .ref (g 46), .ref (g 47), .ref (g 48), .int 0, .ref (g 50), .ref (g 51), .int 0, .ref (g 53), .int 0, .int 0, .ref (g 56), .int 0, .ref (g 58), .ref (g 59), .ref (g 60), .ref (g 61), .ref (g 62), .ref (g 63), .ref (g 64), .int 0, .int 0, .int 0, .ref (g 68), .ref (g 69), .ref (g 70), .ref (g 71), .ref (g 72), .ref (g 73), .int 0, .int 0, .int 1, .int 1, .int 0, .int 0, .int 0, .int 1, .ref (g 82), .ref (g 83), .ref (g 84), .ref (g 85)]))] ++ []) H := hH
        have hK : va_K D vwCl [(kj, .int), (kv, .int)] s := by simpa using hK
        subst hw_28
        refine lv_istore_n (lv' := [(2, .int 0), (0, .ref h0), (1, .int 1)]) hx hb dX12_start_101 rfl hl (by decide) rfl (fun ls hl => ?_)
        refine lv_aload_n hx hb dX12_start_102 rfl (lv_at hl 1 rfl) ?_
        refine sj_callv (wr := [((g 83), .inl (kj, 3, .inl (upd (upd (upd (fun _ => 0) 0 (-1)) 1 (-1)) 2 (-1)))), ((g 82), .inl (kv, 256, .inl (upd (upd (upd (upd fv 0 0) 1 0) 2 1) 3 0)))]) (va_runV (As := []) (rest := []) ⟨hx, hb, hml, hown, hts⟩ (c_X12_seek l D h0 g 0 0 0 0 0 0 0 0 0 0 0 0 0 0 0 0 0 0 0 0 0 0 0 0 0 0 0 0 1 1 0 0 1 H.size) (cwV 0 hts gX12_start_X12_seek rfl rfl rfl (by decide +kernel) ⟨(Nat.le_of_ble_eq_true rfl), (Nat.le_of_ble_eq_true rfl)⟩) (sj_preV (q := (RX12, TX12, 86)) hH hK [2] rfl rfl [] rfl rfl rfl sj_bln sj_exn) rfl rfl hl.1 rfl (lv_room (Nat.le_of_ble_eq_true rfl)) dX12_start_103 ⟨(Nat.le_of_ble_eq_true rfl), (Nat.le_of_ble_eq_true rfl)⟩) hH hK hS hA [2] [0, 1] rfl rfl rfl rfl (by decide) rfl rfl (fun u_30 H locs hw_31 hH hK hS => ?_)
        have hH : sj_H D A ([((g 83), .inl (kj, 3, .inl (upd (upd (upd (fun _ => 0) 0 (-1)) 1 (-1)) 2 (-1)))), ((g 82), .inl (kv, 256, .inl (upd (upd (upd (upd fv 0 0) 1 0) 2 1) 3 0))), (h0, .inr (12, [.int 0, .ref (g 1), .int 0, .ref (g 3), .int 0, .ref (g 5), .int 0, .int 0, .int 0, .int 0, .int 0, .int 0, .ref (g 12), .int 0, .ref (g 14), .ref (g 15), .ref (g 16), .int 0, .int 0, .ref (g 19), .ref (g 20), .ref (g 21), .ref (g 22), .int 0, .ref (g 24), .ref (g 25), .int 0, .int 0, .ref (g 28), .ref (g 29), .ref (g 30), .ref (g 31), .ref (g 32), .int 0, .ref (g 34), .ref (g 35), .ref (g 36), .ref (g 37), .ref (g 38), .ref (g 39), .int 0, .int 0, .ref (g 42), .ref (g 43), .ref (g 44), .int 0, .ref (g 46), .ref (g 47), .ref (g 48), .int 0, .ref (g 50), .ref (g 51), .int 0, .ref (g 53), .int 0, .int 0, .ref (g 56), .int 0, .ref (g 58), .ref (g 59), .ref (g 60), .ref (g 61), .ref (g 62), .ref (g 63), .ref (g 64), .int 0, .int 0, .int 0, .ref (g 68), .ref (g 69), .ref (g 70), .ref (g 71), .ref (g 72), .ref (g 73), .int 0, .int 0, .int 1, .int 1, .int 0, .int 0, .int 0, .int 1, .ref (g 82), .ref (g 83), .ref (g 84), .ref (g 85)]))] ++ []) H := hH
        have hK : va_K D vwCl [(kj, .int), (kv, .int)] s := by simpa using hK
        refine lv_aload_n hx hb dX12_start_106 rfl (lv_at hl 1 rfl) ?_
        refine sj_callv (wr := []) (va_runV (As := []) (rest := []) ⟨hx, hb, hml, hown, hts⟩ (c_X12_settle1 l D h0 g 0 0 0 0 0 0 0 0 0 0 0 0 0 0 0 0 0 0 0 0 0 0 0 0 0 0 0 0 1 0 0 kj (upd (upd (upd (upd fv 0 0) 1 0) 2 1) 3 0) kv H.size) (cwV 0 hts gX12_start_X12_settle rfl rfl rfl (by decide +kernel) ⟨(Nat.le_of_ble_eq_true rfl), (Nat.le_of_ble_eq_true rfl)⟩) (sj_preV (q := (RX12, TX12, 86)) hH hK [2, 0, 1] rfl rfl [0, 1] rfl rfl rfl sj_bln sj_exn) rfl rfl hl.1 rfl (lv_room (Nat.le_of_ble_eq_true rfl)) dX12_start_107 ⟨(Nat.le_of_ble_eq_true rfl), (Nat.le_of_ble_eq_true rfl)⟩) hH hK hS hA [2, 0, 1] [] rfl rfl rfl rfl (by decide) rfl rfl (fun u_33 H locs hw_34 hH hK hS => ?_)
        have hH : sj_H D A ([(h0, .inr (12, [.int 0, .ref (g 1), .int 0, .ref (g 3), .int 0, .ref (g 5), .int 0, .int 0, .int 0, .int 0, .int 0, .int 0, .ref (g 12), .int 0, .ref (g 14), .ref (g 15), .ref (g 16), .int 0, .int 0, .ref (g 19), .ref (g 20), .ref (g 21), .ref (g 22), .int 0, .ref (g 24), .ref (g 25), .int 0, .int 0, .ref (g 28), .ref (g 29), .ref (g 30), .ref (g 31), .ref (g 32), .int 0, .ref (g 34), .ref (g 35), .ref (g 36), .ref (g 37), .ref (g 38), .ref (g 39), .int 0, .int 0, .ref (g 42), .ref (g 43), .ref (g 44), .int 0, .ref (g 46), .ref (g 47), .ref (g 48), .int 0, .ref (g 50), .ref (g 51), .int 0, .ref (g 53), .int 0, .int 0, .ref (g 56), .int 0, .ref (g 58), .ref (g 59), .ref (g 60), .ref (g 61), .ref (g 62), .ref (g 63), .ref (g 64), .int 0, .int 0, .int 0, .ref (g 68), .ref (g 69), .ref (g 70), .ref (g 71), .ref (g 72), .ref (g 73), .int 0, .int 0, .int 0, .int 1, .int 0, .int 0, .int 0, .int 2, .ref (g 82), .ref (g 83), .ref (g 84), .ref (g 85)]))] ++ []) H := hH
        have hK : va_K D vwCl [(kj, .int), (kv, .int)] s := by simpa using hK
        refine lv_iload_n hx hb dX12_start_110 rfl (lv_at hl 0 rfl) ?_
        exact sj_zret hx hb hr hlocks rfl hS [.int 0, .ref (g 1), .int 0, .ref (g 3), .int 0, .ref (g 5), .int 0, .int 0, .int 0, .int 0, .int 0, .int 0, .ref (g 12), .int 0, .ref (g 14), .ref (g 15), .ref (g 16), .int 0, .int 0, .ref (g 19), .ref (g 20), .ref (g 21), .ref (g 22), .int 0, .ref (g 24), .ref (g 25), .int 0, .int 0, .ref (g 28), .ref (g 29), .ref (g 30), .ref (g 31), .ref (g 32), .int 0, .ref (g 34), .ref (g 35), .ref (g 36), .ref (g 37), .ref (g 38), .ref (g 39), .int 0, .int 0, .ref (g 42), .ref (g 43), .ref (g 44), .int 0, .ref (g 46), .ref (g 47), .ref (g 48), .int 0, .ref (g 50), .ref (g 51), .int 0, .ref (g 53), .int 0, .int 0, .ref (g 56), .int 0, .ref (g 58), .ref (g 59), .ref (g 60), .ref (g 61), .ref (g 62), .ref (g 63), .ref (g 64), .int 0, .int 0, .int 0, .ref (g 68), .ref (g 69), .ref (g 70), .ref (g 71), .ref (g 72), .ref (g 73), .int 0, .int 0, .int 0, .int 1, .int 0, .int 0, .int 0, .int 2, .ref (g 82), .ref (g 83), .ref (g 84), .ref (g 85)] (Or.inl ⟨rfl, rfl, by first | omega | decide, by first | omega | decide⟩) (sj_sub hH [0] rfl rfl) (sj_Knil hK) (Nat.le_of_ble_eq_true rfl) (Nat.le_of_ble_eq_true rfl) dX12_start_111
      · skip
        refine lv_aload_n hx hb dX12_start_33 rfl (lv_at hl 0 rfl) ?_
        refine lv_iload_n hx hb dX12_start_34 rfl (lv_at hl 1 rfl) ?_
        refine sj_put (D := D) (ci := 12) (v := .int 2) (ty := .int) (C := RX12) (F := TX12) (N := 86) hx hb hts in12 tyX12 tyX12_ok nmX12 hown hK hH hS 2 rfl rfl 77 (by decide) wd0 (fun _ h9 => h9) rfl (by decide +kernel) rfl rfl (Nat.le_of_ble_eq_true rfl) dX12_start_35 (fun H locs (hH : sj_H D A ([((g 83), .inl (kj, 3, .inl (upd (upd (upd (fun _ => 0) 0 (-1)) 1 (-1)) 2 (-1)))), ((g 82), .inl (kv, 256, .inl fv)), (h0, .inr (12, [.int 0, .ref (g 1), .int 0, .ref (g 3), .int 0, .ref (g 5), .int 0, .int 0, .int 0, .int 0, .int 0, .int 0, .ref (g 12), .int 0, .ref (g 14), .ref (g 15), .ref (g 16), .int 0, .int 0, .ref (g 19), .ref (g 20), .ref (g 21), .ref (g 22), .int 0, .ref (g 24), .ref (g 25), .int 0, .int 0, .ref (g 28), .ref (g 29), .ref (g 30), .ref (g 31), .ref (g 32), .int 0, .ref (g 34), .ref (g 35), .ref (g 36), .ref (g 37), .ref (g 38), .ref (g 39), .int 0, .int 0, .ref (g 42), .ref (g 43), .ref (g 44), .int 0, .ref (g 46), .ref (g 47), .ref (g 48), .int 0, .ref (g 50), .ref (g 51), .int 0, .ref (g 53), .int 0, .int 0, .ref (g 56), .int 0, .ref (g 58), .ref (g 59), .ref (g 60), .ref (g 61), .ref (g 62), .ref (g 63), .ref (g 64), .int 0, .int 0, .int 0, .ref (g 68), .ref (g 69), .ref (g 70), .ref (g 71), .ref (g 72), .ref (g 73), .int 0, .int 0, .int 0, .int 2, .int 0, .int 0, .int 0, .int 0, .ref (g 82), .ref (g 83), .ref (g 84), .ref (g 85)]))] ++ []) H) hS => ?_)
        refine lv_aload_n hx hb dX12_start_38 rfl (lv_at hl 0 rfl) ?_
        refine lv_iconst (v := 0) hx hb dX12_start_39 (by decide) ?_
        refine sj_put (D := D) (ci := 12) (v := .int 0) (ty := .int) (C := RX12) (F := TX12) (N := 86) hx hb hts in12 tyX12 tyX12_ok nmX12 hown hK hH hS 2 rfl rfl 78 (by decide) wd1 (fun _ h9 => h9) rfl (by decide +kernel) rfl rfl (Nat.le_of_ble_eq_true rfl) dX12_start_40 (fun H locs (hH : sj_H D A ([((g 83), .inl (kj, 3, .inl (upd (upd (upd (fun _ => 0) 0 (-1)) 1 (-1)) 2 (-1)))), ((g 82), .inl (kv, 256, .inl fv)), (h0, .inr (12, [.int 0, .ref (g 1), .int 0, .ref (g 3), .int 0, .ref (g 5), .int 0, .int 0, .int 0, .int 0, .int 0, .int 0, .ref (g 12), .int 0, .ref (g 14), .ref (g 15), .ref (g 16), .int 0, .int 0, .ref (g 19), .ref (g 20), .ref (g 21), .ref (g 22), .int 0, .ref (g 24), .ref (g 25), .int 0, .int 0, .ref (g 28), .ref (g 29), .ref (g 30), .ref (g 31), .ref (g 32), .int 0, .ref (g 34), .ref (g 35), .ref (g 36), .ref (g 37), .ref (g 38), .ref (g 39), .int 0, .int 0, .ref (g 42), .ref (g 43), .ref (g 44), .int 0, .ref (g 46), .ref (g 47), .ref (g 48), .int 0, .ref (g 50), .ref (g 51), .int 0, .ref (g 53), .int 0, .int 0, .ref (g 56), .int 0, .ref (g 58), .ref (g 59), .ref (g 60), .ref (g 61), .ref (g 62), .ref (g 63), .ref (g 64), .int 0, .int 0, .int 0, .ref (g 68), .ref (g 69), .ref (g 70), .ref (g 71), .ref (g 72), .ref (g 73), .int 0, .int 0, .int 0, .int 2, .int 0, .int 0, .int 0, .int 0, .ref (g 82), .ref (g 83), .ref (g 84), .ref (g 85)]))] ++ []) H) hS => ?_)
        refine lv_aload_n hx hb dX12_start_43 rfl (lv_at hl 0 rfl) ?_
        refine lv_iconst (v := 0) hx hb dX12_start_44 (by decide) ?_
        refine sj_put (D := D) (ci := 12) (v := .int 0) (ty := .int) (C := RX12) (F := TX12) (N := 86) hx hb hts in12 tyX12 tyX12_ok nmX12 hown hK hH hS 2 rfl rfl 79 (by decide) wd2 (fun _ h9 => h9) rfl (by decide +kernel) rfl rfl (Nat.le_of_ble_eq_true rfl) dX12_start_45 (fun H locs (hH : sj_H D A ([((g 83), .inl (kj, 3, .inl (upd (upd (upd (fun _ => 0) 0 (-1)) 1 (-1)) 2 (-1)))), ((g 82), .inl (kv, 256, .inl fv)), (h0, .inr (12, [.int 0, .ref (g 1), .int 0, .ref (g 3), .int 0, .ref (g 5), .int 0, .int 0, .int 0, .int 0, .int 0, .int 0, .ref (g 12), .int 0, .ref (g 14), .ref (g 15), .ref (g 16), .int 0, .int 0, .ref (g 19), .ref (g 20), .ref (g 21), .ref (g 22), .int 0, .ref (g 24), .ref (g 25), .int 0, .int 0, .ref (g 28), .ref (g 29), .ref (g 30), .ref (g 31), .ref (g 32), .int 0, .ref (g 34), .ref (g 35), .ref (g 36), .ref (g 37), .ref (g 38), .ref (g 39), .int 0, .int 0, .ref (g 42), .ref (g 43), .ref (g 44), .int 0, .ref (g 46), .ref (g 47), .ref (g 48), .int 0, .ref (g 50), .ref (g 51), .int 0, .ref (g 53), .int 0, .int 0, .ref (g 56), .int 0, .ref (g 58), .ref (g 59), .ref (g 60), .ref (g 61), .ref (g 62), .ref (g 63), .ref (g 64), .int 0, .int 0, .int 0, .ref (g 68), .ref (g 69), .ref (g 70), .ref (g 71), .ref (g 72), .ref (g 73), .int 0, .int 0, .int 0, .int 2, .int 0, .int 0, .int 0, .int 0, .ref (g 82), .ref (g 83), .ref (g 84), .ref (g 85)]))] ++ []) H) hS => ?_)
        refine lv_aload_n hx hb dX12_start_48 rfl (lv_at hl 0 rfl) ?_
        refine lv_iconst (v := 0) hx hb dX12_start_49 (by decide) ?_
        refine sj_put (D := D) (ci := 12) (v := .int 0) (ty := .int) (C := RX12) (F := TX12) (N := 86) hx hb hts in12 tyX12 tyX12_ok nmX12 hown hK hH hS 2 rfl rfl 80 (by decide) wd3 (fun _ h9 => h9) rfl (by decide +kernel) rfl rfl (Nat.le_of_ble_eq_true rfl) dX12_start_50 (fun H locs (hH : sj_H D A ([((g 83), .inl (kj, 3, .inl (upd (upd (upd (fun _ => 0) 0 (-1)) 1 (-1)) 2 (-1)))), ((g 82), .inl (kv, 256, .inl fv)), (h0, .inr (12, [.int 0, .ref (g 1), .int 0, .ref (g 3), .int 0, .ref (g 5), .int 0, .int 0, .int 0, .int 0, .int 0, .int 0, .ref (g 12), .int 0, .ref (g 14), .ref (g 15), .ref (g 16), .int 0, .int 0, .ref (g 19), .ref (g 20), .ref (g 21), .ref (g 22), .int 0, .ref (g 24), .ref (g 25), .int 0, .int 0, .ref (g 28), .ref (g 29), .ref (g 30), .ref (g 31), .ref (g 32), .int 0, .ref (g 34), .ref (g 35), .ref (g 36), .ref (g 37), .ref (g 38), .ref (g 39), .int 0, .int 0, .ref (g 42), .ref (g 43), .ref (g 44), .int 0, .ref (g 46), .ref (g 47), .ref (g 48), .int 0, .ref (g 50), .ref (g 51), .int 0, .ref (g 53), .int 0, .int 0, .ref (g 56), .int 0, .ref (g 58), .ref (g 59), .ref (g 60), .ref (g 61), .ref (g 62), .ref (g 63), .ref (g 64), .int 0, .int 0, .int 0, .ref (g 68), .ref (g 69), .ref (g 70), .ref (g 71), .ref (g 72), .ref (g 73), .int 0, .int 0, .int 0, .int 2, .int 0, .int 0, .int 0, .int 0, .ref (g 82), .ref (g 83), .ref (g 84), .ref (g 85)]))] ++ []) H) hS => ?_)
        refine lv_aload_n hx hb dX12_start_53 rfl (lv_at hl 0 rfl) ?_
        refine lv_iconst (v := 0) hx hb dX12_start_54 (by decide) ?_
        refine sj_put (D := D) (ci := 12) (v := .int 0) (ty := .int) (C := RX12) (F := TX12) (N := 86) hx hb hts in12 tyX12 tyX12_ok nmX12 hown hK hH hS 2 rfl rfl 75 (by decide) wd4 (fun _ h9 => h9) rfl (by decide +kernel) rfl rfl (Nat.le_of_ble_eq_true rfl) dX12_start_55 (fun H locs (hH : sj_H D A ([((g 83), .inl (kj, 3, .inl (upd (upd (upd (fun _ => 0) 0 (-1)) 1 (-1)) 2 (-1)))), ((g 82), .inl (kv, 256, .inl fv)), (h0, .inr (12, [.int 0, .ref (g 1), .int 0, .ref (g 3), .int 0, .ref (g 5), .int 0, .int 0, .int 0, .int 0, .int 0, .int 0, .ref (g 12), .int 0, .ref (g 14), .ref (g 15), .ref (g 16), .int 0, .int 0, .ref (g 19), .ref (g 20), .ref (g 21), .ref (g 22), .int 0, .ref (g 24), .ref (g 25), .int 0, .int 0, .ref (g 28), .ref (g 29), .ref (g 30), .ref (g 31), .ref (g 32), .int 0, .ref (g 34), .ref (g 35), .ref (g 36), .ref (g 37), .ref (g 38), .ref (g 39), .int 0, .int 0, .ref (g 42), .ref (g 43), .ref (g 44), .int 0, .ref (g 46), .ref (g 47), .ref (g 48), .int 0, .ref (g 50), .ref (g 51), .int 0, .ref (g 53), .int 0, .int 0, .ref (g 56), .int 0, .ref (g 58), .ref (g 59), .ref (g 60), .ref (g 61), .ref (g 62), .ref (g 63), .ref (g 64), .int 0, .int 0, .int 0, .ref (g 68), .ref (g 69), .ref (g 70), .ref (g 71), .ref (g 72), .ref (g 73), .int 0, .int 0, .int 0, .int 2, .int 0, .int 0, .int 0, .int 0, .ref (g 82), .ref (g 83), .ref (g 84), .ref (g 85)]))] ++ []) H) hS => ?_)
        refine lv_iconst (v := 0) hx hb dX12_start_58 (by decide) ?_
        refine lv_istore_n (lv' := [(2, .int 0), (0, .ref h0), (1, .int 2)]) hx hb dX12_start_59 rfl hl (by decide) rfl (fun ls hl => ?_)
        refine lv_iload_n hx hb dX12_start_60 rfl (lv_at hl 0 rfl) ?_
        refine lv_aload_n hx hb dX12_start_61 rfl (lv_at hl 1 rfl) ?_
        refine va_get (D := D) (ci := 12) (v := .int 0) (C := RX12) (T := TX12) (N := 86) hx hb hts in12 hown hK hH.1 2 rfl rfl 33 (by decide) wd5 (fun _ h9 => h9) rfl dX12_start_62 ?_
        refine lv_icmp_ge (tgt := 81) hx hb dX12_start_65 (by decide) (fun _ => ?_) (fun h => absurd (by decide) h)
        refine lv_aload_n hx hb dX12_start_81 rfl (lv_at hl 1 rfl) ?_
        refine lv_iconst (v := 1) hx hb dX12_start_82 (by decide) ?_
        refine sj_put (D := D) (ci := 12) (v := .int 1) (ty := .boolean) (C := RX12) (F := TX12) (N := 86) hx hb hts in12 tyX12 tyX12_ok nmX12 hown hK hH hS 2 rfl rfl 76 (by decide) wd6 (fun _ h9 => h9) rfl (by decide +kernel) (by decide +kernel) (by decide +kernel) (Nat.le_of_ble_eq_true rfl) dX12_start_83 (fun H locs (hH : sj_H D A ([((g 83), .inl (kj, 3, .inl (upd (upd (upd (fun _ => 0) 0 (-1)) 1 (-1)) 2 (-1)))), ((g 82), .inl (kv, 256, .inl fv)), (h0, .inr (12, [.int 0, .ref (g 1), .int 0, .ref (g 3), .int 0, .ref (g 5), .int 0, .int 0, .int 0, .int 0, .int 0, .int 0, .ref (g 12), .int 0, .ref (g 14), .ref (g 15), .ref (g 16), .int 0, .int 0, .ref (g 19), .ref (g 20), .ref (g 21), .ref (g 22), .int 0, .ref (g 24), .ref (g 25), .int 0, .int 0, .ref (g 28), .ref (g 29), .ref (g 30), .ref (g 31), .ref (g 32), .int 0, .ref (g 34), .ref (g 35), .ref (g 36), .ref (g 37), .ref (g 38), .ref (g 39), .int 0, .int 0, .ref (g 42), .ref (g 43), .ref (g 44), .int 0, .ref (g 46), .ref (g 47), .ref (g 48), .int 0, .ref (g 50), .ref (g 51), .int 0, .ref (g 53), .int 0, .int 0, .ref (g 56), .int 0, .ref (g 58), .ref (g 59), .ref (g 60), .ref (g 61), .ref (g 62), .ref (g 63), .ref (g 64), .int 0, .int 0, .int 0, .ref (g 68), .ref (g 69), .ref (g 70), .ref (g 71), .ref (g 72), .ref (g 73), .int 0, .int 0, .int 1, .int 2, .int 0, .int 0, .int 0, .int 0, .ref (g 82), .ref (g 83), .ref (g 84), .ref (g 85)]))] ++ []) H) hS => ?_)
        refine lv_aload_n hx hb dX12_start_86 rfl (lv_at hl 1 rfl) ?_
        refine lv_iconst (v := 0) hx hb dX12_start_87 (by decide) ?_
        refine lv_aload_n hx hb dX12_start_88 rfl (lv_at hl 1 rfl) ?_
        refine sj_calli (wr := [((g 83), .inl (kj, 3, .inl (upd (upd (upd (fun _ => 0) 0 (-1)) 1 (-1)) 2 (-1)))), ((g 82), .inl (kv, 256, .inl fv))]) (va_runV (As := []) (rest := [.int 0, .ref h0]) ⟨hx, hb, hml, hown, hts⟩ (c_X12_wanted l D h0 g 0 0 0 0 0 0 0 0 0 0 0 0 0 0 0 0 0 0 0 0 0 0 0 0 0 0 0 0 1 2 0 0 0 0 H.size) (cwV 0 hts gX12_start_X12_wanted rfl rfl rfl (by decide +kernel) ⟨(Nat.le_of_ble_eq_true rfl), (Nat.le_of_ble_eq_true rfl)⟩) (sj_preV (q := (RX12, TX12, 86)) hH hK [2] rfl rfl [] rfl rfl rfl sj_bln sj_exn) rfl rfl hl.1 rfl (lv_room (Nat.le_of_ble_eq_true rfl)) dX12_start_89 ⟨(Nat.le_of_ble_eq_true rfl), (Nat.le_of_ble_eq_true rfl)⟩) hH hK hS hA [2] [0, 1] rfl rfl rfl rfl (by decide) rfl rfl (fun r_36 u_37 H locs hw_38 hH hK hS => ?_)
        have hH : sj_H D A ([((g 83), .inl (kj, 3, .inl (upd (upd (upd (fun _ => 0) 0 (-1)) 1 (-1)) 2 (-1)))), ((g 82), .inl (kv, 256, .inl fv)), (h0, .inr (12, [.int 0, .ref (g 1), .int 0, .ref (g 3), .int 0, .ref (g 5), .int 0, .int 0, .int 0, .int 0, .int 0, .int 0, .ref (g 12), .int 0, .ref (g 14), .ref (g 15), .ref (g 16), .int 0, .int 0, .ref (g 19), .ref (g 20), .ref (g 21), .ref (g 22), .int 0, .ref (g 24), .ref (g 25), .int 0, .int 0, .ref (g 28), .ref (g 29), .ref (g 30), .ref (g 31), .ref (g 32), .int 0, .ref (g 34), .ref (g 35), .ref (g 36), .ref (g 37), .ref (g 38), .ref (g 39), .int 0, .int 0, .ref (g 42), .ref (g 43), .ref (g 44), .int 0, .ref (g 46), .ref (g 47), .ref (g 48), .int 0, .ref (g 50), .ref (g 51), .int 0, .ref (g 53), .int 0, .int 0, .ref (g 56), .int 0, .ref (g 58), .ref (g 59), .ref (g 60), .ref (g 61), .ref (g 62), .ref (g 63), .ref (g 64), .int 0, .int 0, .int 0, .ref (g 68), .ref (g 69), .ref (g 70), .ref (g 71), .ref (g 72), .ref (g 73), .int 0, .int 0, .int 1, .int 2, .int 0, .int 0, .int 0, .int 0, .ref (g 82), .ref (g 83), .ref (g 84), .ref (g 85)]))] ++ []) H := hH
        have hK : va_K D vwCl [(kj, .int), (kv, .int)] s := by simpa using hK
        subst hw_38
        refine lv_iload_n hx hb dX12_start_92 rfl (lv_at hl 2 rfl) ?_
        refine lv_iconst (v := 0) hx hb dX12_start_93 (by decide) ?_
        refine sj_callv (wr := [((g 83), .inl (kj, 3, .inl (upd (upd (upd (fun _ => 0) 0 (-1)) 1 (-1)) 2 (-1))))]) (va_runV (As := [.int 0, .int 0, .int 2, .int 0]) (rest := []) ⟨hx, hb, hml, hown, hts⟩ (c_X12_tell0 l D h0 g 0 0 0 0 0 0 0 0 0 0 0 0 0 0 0 0 0 0 0 0 0 0 0 0 0 0 0 0 0 1 2 0 0 0 0 0 2 0 fv kv H.size) (cwV 4 hts gX12_start_X12_tell rfl rfl rfl (by decide +kernel) ⟨(Nat.le_of_ble_eq_true rfl), (Nat.le_of_ble_eq_true rfl)⟩) (sj_preV (q := (RX12, TX12, 86)) hH hK [2, 1] rfl rfl [1] rfl rfl rfl sj_bln sj_exn) rfl rfl hl.1 rfl (lv_room (Nat.le_of_ble_eq_true rfl)) dX12_start_94 ⟨(Nat.le_of_ble_eq_true rfl), (Nat.le_of_ble_eq_true rfl)⟩) hH hK hS hA [2, 1] [0] rfl rfl rfl rfl (by decide) rfl rfl (fun u_40 H locs hw_41 hH hK hS => ?_)
        have hH : sj_H D A ([((g 83), .inl (kj, 3, .inl (upd (upd (upd (fun _ => 0) 0 (-1)) 1 (-1)) 2 (-1)))), (h0, .inr (12, [.int 0, .ref (g 1), .int 0, .ref (g 3), .int 0, .ref (g 5), .int 0, .int 0, .int 0, .int 0, .int 0, .int 0, .ref (g 12), .int 0, .ref (g 14), .ref (g 15), .ref (g 16), .int 0, .int 0, .ref (g 19), .ref (g 20), .ref (g 21), .ref (g 22), .int 0, .ref (g 24), .ref (g 25), .int 0, .int 0, .ref (g 28), .ref (g 29), .ref (g 30), .ref (g 31), .ref (g 32), .int 0, .ref (g 34), .ref (g 35), .ref (g 36), .ref (g 37), .ref (g 38), .ref (g 39), .int 0, .int 0, .ref (g 42), .ref (g 43), .ref (g 44), .int 0, .ref (g 46), .ref (g 47), .ref (g 48), .int 0, .ref (g 50), .ref (g 51), .int 0, .ref (g 53), .int 0, .int 0, .ref (g 56), .int 0, .ref (g 58), .ref (g 59), .ref (g 60), .ref (g 61), .ref (g 62), .ref (g 63), .ref (g 64), .int 0, .int 0, .int 0, .ref (g 68), .ref (g 69), .ref (g 70), .ref (g 71), .ref (g 72), .ref (g 73), .int 0, .int 0, .int 1, .int 2, .int 0, .int 0, .int 0, .int 1, .ref (g 82), .ref (g 83), .ref (g 84), .ref (g 85)])), ((g 82), .inl (kv, 256, .inl (upd (upd (upd (upd fv 0 0) 1 0) 2 2) 3 0)))] ++ []) H := hH
        have hK : va_K D vwCl [(kj, .int), (kv, .int)] s := by simpa using hK
        refine lv_aload_n hx hb dX12_start_97 rfl (lv_at hl 1 rfl) ?_
        refine sj_calli (wr := [((g 83), .inl (kj, 3, .inl (upd (upd (upd (fun _ => 0) 0 (-1)) 1 (-1)) 2 (-1)))), ((g 82), .inl (kv, 256, .inl (upd (upd (upd (upd fv 0 0) 1 0) 2 2) 3 0)))]) (va_runV (As := []) (rest := []) ⟨hx, hb, hml, hown, hts⟩ (c_X12_wanted l D h0 g 0 0 0 0 0 0 0 0 0 0 0 0 0 0 0 0 0 0 0 0 0 0 0 0 0 0 0 0 1 2 0 0 0 1 H.size) (cwV 0 hts gX12_start_X12_wanted rfl rfl rfl (by decide +kernel) ⟨(Nat.le_of_ble_eq_true rfl), (Nat.le_of_ble_eq_true rfl)⟩) (sj_preV (q := (RX12, TX12, 86)) hH hK [1] rfl rfl [] rfl rfl rfl sj_bln sj_exn) rfl rfl hl.1 rfl (lv_room (Nat.le_of_ble_eq_true rfl)) dX12_start_98 ⟨(Nat.le_of_ble_eq_true rfl), (Nat.le_of_ble_eq_true rfl)⟩) hH hK hS hA [1] [0, 2] rfl rfl rfl rfl (by decide) rfl rfl (fun r_42 u_43 H locs hw_44 hH hK hS => ?_)
        have hH : sj_H D A ([((g 83), .inl (kj, 3, .inl (upd (upd (upd (fun _ => 0) 0 (-1)) 1 (-1)) 2 (-1)))), ((g 82), .inl (kv, 256, .inl (upd (upd (upd (upd fv 0 0) 1 0) 2 2) 3 0))), (h0, .inr (12, [.int 0, .ref (g 1), .int 0, .ref (g 3), .int 0, .ref (g 5), .int 0, .int 0, .int 0, .int 0, .int 0, .int 0, .ref (g 12), .int 0, .ref (g 14), .ref (g 15), .ref (g 16), .int 0, .int 0, .ref (g 19), .ref (g 20), .ref (g 21), .ref (g 22), .int 0, .ref (g 24), .ref (g 25), .int 0, .int 0, .ref (g 28), .ref (g 29), .ref (g 30), .ref (g 31), .ref (g 32), .int 0, .ref (g 34), .ref (g 35), .ref (g 36), .ref (g 37), .ref (g 38), .ref (g 39), .int 0, .int 0, .ref (g 42), .ref (g 43), .ref (g 44), .int 0, .ref (g 46), .ref (g 47), .ref (g 48), .int 0, .ref (g 50), .ref (g 51), .int 0, .ref (g 53), .int 0, .int 0, .ref (g 56), .int 0, .ref (g 58), .ref (g 59), .ref (g 60), .ref (g 61), .ref (g 62), .ref (g 63), .ref (g 64), .int 0, .int 0, .int 0, .ref (g 68), .ref (g 69), .ref (g 70), .ref (g 71), .ref (g 72), .ref (g 73), .int 0, .int 0, .int 1, .int 2, .int 0, .int 0, .int 0, .int 1, .ref (g 82), .ref (g 83), .ref (g 84), .ref (g 85)]))] ++ []) H := hH
        have hK : va_K D vwCl [(kj, .int), (kv, .int)] s := by simpa using hK
        subst hw_44
        refine lv_istore_n (lv' := [(2, .int 0), (0, .ref h0), (1, .int 2)]) hx hb dX12_start_101 rfl hl (by decide) rfl (fun ls hl => ?_)
        refine lv_aload_n hx hb dX12_start_102 rfl (lv_at hl 1 rfl) ?_
        refine sj_callv (wr := [((g 83), .inl (kj, 3, .inl (upd (upd (upd (fun _ => 0) 0 (-1)) 1 (-1)) 2 (-1)))), ((g 82), .inl (kv, 256, .inl (upd (upd (upd (upd fv 0 0) 1 0) 2 2) 3 0)))]) (va_runV (As := []) (rest := []) ⟨hx, hb, hml, hown, hts⟩ (c_X12_seek l D h0 g 0 0 0 0 0 0 0 0 0 0 0 0 0 0 0 0 0 0 0 0 0 0 0 0 0 0 0 0 1 2 0 0 1 H.size) (cwV 0 hts gX12_start_X12_seek rfl rfl rfl (by decide +kernel) ⟨(Nat.le_of_ble_eq_true rfl), (Nat.le_of_ble_eq_true rfl)⟩) (sj_preV (q := (RX12, TX12, 86)) hH hK [2] rfl rfl [] rfl rfl rfl sj_bln sj_exn) rfl rfl hl.1 rfl (lv_room (Nat.le_of_ble_eq_true rfl)) dX12_start_103 ⟨(Nat.le_of_ble_eq_true rfl), (Nat.le_of_ble_eq_true rfl)⟩) hH hK hS hA [2] [0, 1] rfl rfl rfl rfl (by decide) rfl rfl (fun u_46 H locs hw_47 hH hK hS => ?_)
        have hH : sj_H D A ([((g 83), .inl (kj, 3, .inl (upd (upd (upd (fun _ => 0) 0 (-1)) 1 (-1)) 2 (-1)))), ((g 82), .inl (kv, 256, .inl (upd (upd (upd (upd fv 0 0) 1 0) 2 2) 3 0))), (h0, .inr (12, [.int 0, .ref (g 1), .int 0, .ref (g 3), .int 0, .ref (g 5), .int 0, .int 0, .int 0, .int 0, .int 0, .int 0, .ref (g 12), .int 0, .ref (g 14), .ref (g 15), .ref (g 16), .int 0, .int 0, .ref (g 19), .ref (g 20), .ref (g 21), .ref (g 22), .int 0, .ref (g 24), .ref (g 25), .int 0, .int 0, .ref (g 28), .ref (g 29), .ref (g 30), .ref (g 31), .ref (g 32), .int 0, .ref (g 34), .ref (g 35), .ref (g 36), .ref (g 37), .ref (g 38), .ref (g 39), .int 0, .int 0, .ref (g 42), .ref (g 43), .ref (g 44), .int 0, .ref (g 46), .ref (g 47), .ref (g 48), .int 0, .ref (g 50), .ref (g 51), .int 0, .ref (g 53), .int 0, .int 0, .ref (g 56), .int 0, .ref (g 58), .ref (g 59), .ref (g 60), .ref (g 61), .ref (g 62), .ref (g 63), .ref (g 64), .int 0, .int 0, .int 0, .ref (g 68), .ref (g 69), .ref (g 70), .ref (g 71), .ref (g 72), .ref (g 73), .int 0, .int 0, .int 1, .int 2, .int 0, .int 0, .int 0, .int 1, .ref (g 82), .ref (g 83), .ref (g 84), .ref (g 85)]))] ++ []) H := hH
        have hK : va_K D vwCl [(kj, .int), (kv, .int)] s := by simpa using hK
        refine lv_aload_n hx hb dX12_start_106 rfl (lv_at hl 1 rfl) ?_
        refine sj_callv (wr := []) (va_runV (As := []) (rest := []) ⟨hx, hb, hml, hown, hts⟩ (c_X12_settle2 l D h0 g 0 0 0 0 0 0 0 0 0 0 0 0 0 0 0 0 0 0 0 0 0 0 0 0 0 0 0 0 1 0 0 kj (upd (upd (upd (upd fv 0 0) 1 0) 2 2) 3 0) kv H.size) (cwV 0 hts gX12_start_X12_settle rfl rfl rfl (by decide +kernel) ⟨(Nat.le_of_ble_eq_true rfl), (Nat.le_of_ble_eq_true rfl)⟩) (sj_preV (q := (RX12, TX12, 86)) hH hK [2, 0, 1] rfl rfl [0, 1] rfl rfl rfl sj_bln sj_exn) rfl rfl hl.1 rfl (lv_room (Nat.le_of_ble_eq_true rfl)) dX12_start_107 ⟨(Nat.le_of_ble_eq_true rfl), (Nat.le_of_ble_eq_true rfl)⟩) hH hK hS hA [2, 0, 1] [] rfl rfl rfl rfl (by decide) rfl rfl (fun u_49 H locs hw_50 hH hK hS => ?_)
        have hH : sj_H D A ([(h0, .inr (12, [.int 0, .ref (g 1), .int 0, .ref (g 3), .int 0, .ref (g 5), .int 0, .int 0, .int 0, .int 0, .int 0, .int 0, .ref (g 12), .int 0, .ref (g 14), .ref (g 15), .ref (g 16), .int 0, .int 0, .ref (g 19), .ref (g 20), .ref (g 21), .ref (g 22), .int 0, .ref (g 24), .ref (g 25), .int 0, .int 0, .ref (g 28), .ref (g 29), .ref (g 30), .ref (g 31), .ref (g 32), .int 0, .ref (g 34), .ref (g 35), .ref (g 36), .ref (g 37), .ref (g 38), .ref (g 39), .int 0, .int 0, .ref (g 42), .ref (g 43), .ref (g 44), .int 0, .ref (g 46), .ref (g 47), .ref (g 48), .int 0, .ref (g 50), .ref (g 51), .int 0, .ref (g 53), .int 0, .int 0, .ref (g 56), .int 0, .ref (g 58), .ref (g 59), .ref (g 60), .ref (g 61), .ref (g 62), .ref (g 63), .ref (g 64), .int 0, .int 0, .int 0, .ref (g 68), .ref (g 69), .ref (g 70), .ref (g 71), .ref (g 72), .ref (g 73), .int 0, .int 0, .int 0, .int 2, .int 0, .int 0, .int 0, .int 2, .ref (g 82), .ref (g 83), .ref (g 84), .ref (g 85)]))] ++ []) H := hH
        have hK : va_K D vwCl [(kj, .int), (kv, .int)] s := by simpa using hK
        refine lv_iload_n hx hb dX12_start_110 rfl (lv_at hl 0 rfl) ?_
        exact sj_zret hx hb hr hlocks rfl hS [.int 0, .ref (g 1), .int 0, .ref (g 3), .int 0, .ref (g 5), .int 0, .int 0, .int 0, .int 0, .int 0, .int 0, .ref (g 12), .int 0, .ref (g 14), .ref (g 15), .ref (g 16), .int 0, .int 0, .ref (g 19), .ref (g 20), .ref (g 21), .ref (g 22), .int 0, .ref (g 24), .ref (g 25), .int 0, .int 0, .ref (g 28), .ref (g 29), .ref (g 30), .ref (g 31), .ref (g 32), .int 0, .ref (g 34), .ref (g 35), .ref (g 36), .ref (g 37), .ref (g 38), .ref (g 39), .int 0, .int 0, .ref (g 42), .ref (g 43), .ref (g 44), .int 0, .ref (g 46), .ref (g 47), .ref (g 48), .int 0, .ref (g 50), .ref (g 51), .int 0, .ref (g 53), .int 0, .int 0, .ref (g 56), .int 0, .ref (g 58), .ref (g 59), .ref (g 60), .ref (g 61), .ref (g 62), .ref (g 63), .ref (g 64), .int 0, .int 0, .int 0, .ref (g 68), .ref (g 69), .ref (g 70), .ref (g 71), .ref (g 72), .ref (g 73), .int 0, .int 0, .int 0, .int 2, .int 0, .int 0, .int 0, .int 2, .ref (g 82), .ref (g 83), .ref (g 84), .ref (g 85)] (Or.inl ⟨rfl, rfl, by first | omega | decide, by first | omega | decide⟩) (sj_sub hH [0] rfl rfl) (sj_Knil hK) (Nat.le_of_ble_eq_true rfl) (Nat.le_of_ble_eq_true rfl) dX12_start_111
      · skip
        refine lv_aload_n hx hb dX12_start_33 rfl (lv_at hl 0 rfl) ?_
        refine lv_iload_n hx hb dX12_start_34 rfl (lv_at hl 1 rfl) ?_
        refine sj_put (D := D) (ci := 12) (v := .int 3) (ty := .int) (C := RX12) (F := TX12) (N := 86) hx hb hts in12 tyX12 tyX12_ok nmX12 hown hK hH hS 2 rfl rfl 77 (by decide) wd0 (fun _ h9 => h9) rfl (by decide +kernel) rfl rfl (Nat.le_of_ble_eq_true rfl) dX12_start_35 (fun H locs (hH : sj_H D A ([((g 83), .inl (kj, 3, .inl (upd (upd (upd (fun _ => 0) 0 (-1)) 1 (-1)) 2 (-1)))), ((g 82), .inl (kv, 256, .inl fv)), (h0, .inr (12, [.int 0, .ref (g 1), .int 0, .ref (g 3), .int 0, .ref (g 5), .int 0, .int 0, .int 0, .int 0, .int 0, .int 0, .ref (g 12), .int 0, .ref (g 14), .ref (g 15), .ref (g 16), .int 0, .int 0, .ref (g 19), .ref (g 20), .ref (g 21), .ref (g 22), .int 0, .ref (g 24), .ref (g 25), .int 0, .int 0, .ref (g 28), .ref (g 29), .ref (g 30), .ref (g 31), .ref (g 32), .int 0, .ref (g 34), .ref (g 35), .ref (g 36), .ref (g 37), .ref (g 38), .ref (g 39), .int 0, .int 0, .ref (g 42), .ref (g 43), .ref (g 44), .int 0, .ref (g 46), .ref (g 47), .ref (g 48), .int 0, .ref (g 50), .ref (g 51), .int 0, .ref (g 53), .int 0, .int 0, .ref (g 56), .int 0, .ref (g 58), .ref (g 59), .ref (g 60), .ref (g 61), .ref (g 62), .ref (g 63), .ref (g 64), .int 0, .int 0, .int 0, .ref (g 68), .ref (g 69), .ref (g 70), .ref (g 71), .ref (g 72), .ref (g 73), .int 0, .int 0, .int 0, .int 3, .int 0, .int 0, .int 0, .int 0, .ref (g 82), .ref (g 83), .ref (g 84), .ref (g 85)]))] ++ []) H) hS => ?_)
        refine lv_aload_n hx hb dX12_start_38 rfl (lv_at hl 0 rfl) ?_
        refine lv_iconst (v := 0) hx hb dX12_start_39 (by decide) ?_
        refine sj_put (D := D) (ci := 12) (v := .int 0) (ty := .int) (C := RX12) (F := TX12) (N := 86) hx hb hts in12 tyX12 tyX12_ok nmX12 hown hK hH hS 2 rfl rfl 78 (by decide) wd1 (fun _ h9 => h9) rfl (by decide +kernel) rfl rfl (Nat.le_of_ble_eq_true rfl) dX12_start_40 (fun H locs (hH : sj_H D A ([((g 83), .inl (kj, 3, .inl (upd (upd (upd (fun _ => 0) 0 (-1)) 1 (-1)) 2 (-1)))), ((g 82), .inl (kv, 256, .inl fv)), (h0, .inr (12, [.int 0, .ref (g 1), .int 0, .ref (g 3), .int 0, .ref (g 5), .int 0, .int 0, .int 0, .int 0, .int 0, .int 0, .ref (g 12), .int 0, .ref (g 14), .ref (g 15), .ref (g 16), .int 0, .int 0, .ref (g 19), .ref (g 20), .ref (g 21), .ref (g 22), .int 0, .ref (g 24), .ref (g 25), .int 0, .int 0, .ref (g 28), .ref (g 29), .ref (g 30), .ref (g 31), .ref (g 32), .int 0, .ref (g 34), .ref (g 35), .ref (g 36), .ref (g 37), .ref (g 38), .ref (g 39), .int 0, .int 0, .ref (g 42), .ref (g 43), .ref (g 44), .int 0, .ref (g 46), .ref (g 47), .ref (g 48), .int 0, .ref (g 50), .ref (g 51), .int 0, .ref (g 53), .int 0, .int 0, .ref (g 56), .int 0, .ref (g 58), .ref (g 59), .ref (g 60), .ref (g 61), .ref (g 62), .ref (g 63), .ref (g 64), .int 0, .int 0, .int 0, .ref (g 68), .ref (g 69), .ref (g 70), .ref (g 71), .ref (g 72), .ref (g 73), .int 0, .int 0, .int 0, .int 3, .int 0, .int 0, .int 0, .int 0, .ref (g 82), .ref (g 83), .ref (g 84), .ref (g 85)]))] ++ []) H) hS => ?_)
        refine lv_aload_n hx hb dX12_start_43 rfl (lv_at hl 0 rfl) ?_
        refine lv_iconst (v := 0) hx hb dX12_start_44 (by decide) ?_
        refine sj_put (D := D) (ci := 12) (v := .int 0) (ty := .int) (C := RX12) (F := TX12) (N := 86) hx hb hts in12 tyX12 tyX12_ok nmX12 hown hK hH hS 2 rfl rfl 79 (by decide) wd2 (fun _ h9 => h9) rfl (by decide +kernel) rfl rfl (Nat.le_of_ble_eq_true rfl) dX12_start_45 (fun H locs (hH : sj_H D A ([((g 83), .inl (kj, 3, .inl (upd (upd (upd (fun _ => 0) 0 (-1)) 1 (-1)) 2 (-1)))), ((g 82), .inl (kv, 256, .inl fv)), (h0, .inr (12, [.int 0, .ref (g 1), .int 0, .ref (g 3), .int 0, .ref (g 5), .int 0, .int 0, .int 0, .int 0, .int 0, .int 0, .ref (g 12), .int 0, .ref (g 14), .ref (g 15), .ref (g 16), .int 0, .int 0, .ref (g 19), .ref (g 20), .ref (g 21), .ref (g 22), .int 0, .ref (g 24), .ref (g 25), .int 0, .int 0, .ref (g 28), .ref (g 29), .ref (g 30), .ref (g 31), .ref (g 32), .int 0, .ref (g 34), .ref (g 35), .ref (g 36), .ref (g 37), .ref (g 38), .ref (g 39), .int 0, .int 0, .ref (g 42), .ref (g 43), .ref (g 44), .int 0, .ref (g 46), .ref (g 47), .ref (g 48), .int 0, .ref (g 50), .ref (g 51), .int 0, .ref (g 53), .int 0, .int 0, .ref (g 56), .int 0, .ref (g 58), .ref (g 59), .ref (g 60), .ref (g 61), .ref (g 62), .ref (g 63), .ref (g 64), .int 0, .int 0, .int 0, .ref (g 68), .ref (g 69), .ref (g 70), .ref (g 71), .ref (g 72), .ref (g 73), .int 0, .int 0, .int 0, .int 3, .int 0, .int 0, .int 0, .int 0, .ref (g 82), .ref (g 83), .ref (g 84), .ref (g 85)]))] ++ []) H) hS => ?_)
        refine lv_aload_n hx hb dX12_start_48 rfl (lv_at hl 0 rfl) ?_
        refine lv_iconst (v := 0) hx hb dX12_start_49 (by decide) ?_
        refine sj_put (D := D) (ci := 12) (v := .int 0) (ty := .int) (C := RX12) (F := TX12) (N := 86) hx hb hts in12 tyX12 tyX12_ok nmX12 hown hK hH hS 2 rfl rfl 80 (by decide) wd3 (fun _ h9 => h9) rfl (by decide +kernel) rfl rfl (Nat.le_of_ble_eq_true rfl) dX12_start_50 (fun H locs (hH : sj_H D A ([((g 83), .inl (kj, 3, .inl (upd (upd (upd (fun _ => 0) 0 (-1)) 1 (-1)) 2 (-1)))), ((g 82), .inl (kv, 256, .inl fv)), (h0, .inr (12, [.int 0, .ref (g 1), .int 0, .ref (g 3), .int 0, .ref (g 5), .int 0, .int 0, .int 0, .int 0, .int 0, .int 0, .ref (g 12), .int 0, .ref (g 14), .ref (g 15), .ref (g 16), .int 0, .int 0, .ref (g 19), .ref (g 20), .ref (g 21), .ref (g 22), .int 0, .ref (g 24), .ref (g 25), .int 0, .int 0, .ref (g 28), .ref (g 29), .ref (g 30), .ref (g 31), .ref (g 32), .int 0, .ref (g 34), .ref (g 35), .ref (g 36), .ref (g 37), .ref (g 38), .ref (g 39), .int 0, .int 0, .ref (g 42), .ref (g 43), .ref (g 44), .int 0, .ref (g 46), .ref (g 47), .ref (g 48), .int 0, .ref (g 50), .ref (g 51), .int 0, .ref (g 53), .int 0, .int 0, .ref (g 56), .int 0, .ref (g 58), .ref (g 59), .ref (g 60), .ref (g 61), .ref (g 62), .ref (g 63), .ref (g 64), .int 0, .int 0, .int 0, .ref (g 68), .ref (g 69), .ref (g 70), .ref (g 71), .ref (g 72), .ref (g 73), .int 0, .int 0, .int 0, .int 3, .int 0, .int 0, .int 0, .int 0, .ref (g 82), .ref (g 83), .ref (g 84), .ref (g 85)]))] ++ []) H) hS => ?_)
        refine lv_aload_n hx hb dX12_start_53 rfl (lv_at hl 0 rfl) ?_
        refine lv_iconst (v := 0) hx hb dX12_start_54 (by decide) ?_
        refine sj_put (D := D) (ci := 12) (v := .int 0) (ty := .int) (C := RX12) (F := TX12) (N := 86) hx hb hts in12 tyX12 tyX12_ok nmX12 hown hK hH hS 2 rfl rfl 75 (by decide) wd4 (fun _ h9 => h9) rfl (by decide +kernel) rfl rfl (Nat.le_of_ble_eq_true rfl) dX12_start_55 (fun H locs (hH : sj_H D A ([((g 83), .inl (kj, 3, .inl (upd (upd (upd (fun _ => 0) 0 (-1)) 1 (-1)) 2 (-1)))), ((g 82), .inl (kv, 256, .inl fv)), (h0, .inr (12, [.int 0, .ref (g 1), .int 0, .ref (g 3), .int 0, .ref (g 5), .int 0, .int 0, .int 0, .int 0, .int 0, .int 0, .ref (g 12), .int 0, .ref (g 14), .ref (g 15), .ref (g 16), .int 0, .int 0, .ref (g 19), .ref (g 20), .ref (g 21), .ref (g 22), .int 0, .ref (g 24), .ref (g 25), .int 0, .int 0, .ref (g 28), .ref (g 29), .ref (g 30), .ref (g 31), .ref (g 32), .int 0, .ref (g 34), .ref (g 35), .ref (g 36), .ref (g 37), .ref (g 38), .ref (g 39), .int 0, .int 0, .ref (g 42), .ref (g 43), .ref (g 44), .int 0, .ref (g 46), .ref (g 47), .ref (g 48), .int 0, .ref (g 50), .ref (g 51), .int 0, .ref (g 53), .int 0, .int 0, .ref (g 56), .int 0, .ref (g 58), .ref (g 59), .ref (g 60), .ref (g 61), .ref (g 62), .ref (g 63), .ref (g 64), .int 0, .int 0, .int 0, .ref (g 68), .ref (g 69), .ref (g 70), .ref (g 71), .ref (g 72), .ref (g 73), .int 0, .int 0, .int 0, .int 3, .int 0, .int 0, .int 0, .int 0, .ref (g 82), .ref (g 83), .ref (g 84), .ref (g 85)]))] ++ []) H) hS => ?_)
        refine lv_iconst (v := 0) hx hb dX12_start_58 (by decide) ?_
        refine lv_istore_n (lv' := [(2, .int 0), (0, .ref h0), (1, .int 3)]) hx hb dX12_start_59 rfl hl (by decide) rfl (fun ls hl => ?_)
        refine lv_iload_n hx hb dX12_start_60 rfl (lv_at hl 0 rfl) ?_
        refine lv_aload_n hx hb dX12_start_61 rfl (lv_at hl 1 rfl) ?_
        refine va_get (D := D) (ci := 12) (v := .int 0) (C := RX12) (T := TX12) (N := 86) hx hb hts in12 hown hK hH.1 2 rfl rfl 33 (by decide) wd5 (fun _ h9 => h9) rfl dX12_start_62 ?_
        refine lv_icmp_ge (tgt := 81) hx hb dX12_start_65 (by decide) (fun _ => ?_) (fun h => absurd (by decide) h)
        refine lv_aload_n hx hb dX12_start_81 rfl (lv_at hl 1 rfl) ?_
        refine lv_iconst (v := 1) hx hb dX12_start_82 (by decide) ?_
        refine sj_put (D := D) (ci := 12) (v := .int 1) (ty := .boolean) (C := RX12) (F := TX12) (N := 86) hx hb hts in12 tyX12 tyX12_ok nmX12 hown hK hH hS 2 rfl rfl 76 (by decide) wd6 (fun _ h9 => h9) rfl (by decide +kernel) (by decide +kernel) (by decide +kernel) (Nat.le_of_ble_eq_true rfl) dX12_start_83 (fun H locs (hH : sj_H D A ([((g 83), .inl (kj, 3, .inl (upd (upd (upd (fun _ => 0) 0 (-1)) 1 (-1)) 2 (-1)))), ((g 82), .inl (kv, 256, .inl fv)), (h0, .inr (12, [.int 0, .ref (g 1), .int 0, .ref (g 3), .int 0, .ref (g 5), .int 0, .int 0, .int 0, .int 0, .int 0, .int 0, .ref (g 12), .int 0, .ref (g 14), .ref (g 15), .ref (g 16), .int 0, .int 0, .ref (g 19), .ref (g 20), .ref (g 21), .ref (g 22), .int 0, .ref (g 24), .ref (g 25), .int 0, .int 0, .ref (g 28), .ref (g 29), .ref (g 30), .ref (g 31), .ref (g 32), .int 0, .ref (g 34), .ref (g 35), .ref (g 36), .ref (g 37), .ref (g 38), .ref (g 39), .int 0, .int 0, .ref (g 42), .ref (g 43), .ref (g 44), .int 0, .ref (g 46), .ref (g 47), .ref (g 48), .int 0, .ref (g 50), .ref (g 51), .int 0, .ref (g 53), .int 0, .int 0, .ref (g 56), .int 0, .ref (g 58), .ref (g 59), .ref (g 60), .ref (g 61), .ref (g 62), .ref (g 63), .ref (g 64), .int 0, .int 0, .int 0, .ref (g 68), .ref (g 69), .ref (g 70), .ref (g 71), .ref (g 72), .ref (g 73), .int 0, .int 0, .int 1, .int 3, .int 0, .int 0, .int 0, .int 0, .ref (g 82), .ref (g 83), .ref (g 84), .ref (g 85)]))] ++ []) H) hS => ?_)
        refine lv_aload_n hx hb dX12_start_86 rfl (lv_at hl 1 rfl) ?_
        refine lv_iconst (v := 0) hx hb dX12_start_87 (by decide) ?_
        refine lv_aload_n hx hb dX12_start_88 rfl (lv_at hl 1 rfl) ?_
        refine sj_calli (wr := [((g 83), .inl (kj, 3, .inl (upd (upd (upd (fun _ => 0) 0 (-1)) 1 (-1)) 2 (-1)))), ((g 82), .inl (kv, 256, .inl fv))]) (va_runV (As := []) (rest := [.int 0, .ref h0]) ⟨hx, hb, hml, hown, hts⟩ (c_X12_wanted l D h0 g 0 0 0 0 0 0 0 0 0 0 0 0 0 0 0 0 0 0 0 0 0 0 0 0 0 0 0 0 1 3 0 0 0 0 H.size) (cwV 0 hts gX12_start_X12_wanted rfl rfl rfl (by decide +kernel) ⟨(Nat.le_of_ble_eq_true rfl), (Nat.le_of_ble_eq_true rfl)⟩) (sj_preV (q := (RX12, TX12, 86)) hH hK [2] rfl rfl [] rfl rfl rfl sj_bln sj_exn) rfl rfl hl.1 rfl (lv_room (Nat.le_of_ble_eq_true rfl)) dX12_start_89 ⟨(Nat.le_of_ble_eq_true rfl), (Nat.le_of_ble_eq_true rfl)⟩) hH hK hS hA [2] [0, 1] rfl rfl rfl rfl (by decide) rfl rfl (fun r_52 u_53 H locs hw_54 hH hK hS => ?_)
        have hH : sj_H D A ([((g 83), .inl (kj, 3, .inl (upd (upd (upd (fun _ => 0) 0 (-1)) 1 (-1)) 2 (-1)))), ((g 82), .inl (kv, 256, .inl fv)), (h0, .inr (12, [.int 0, .ref (g 1), .int 0, .ref (g 3), .int 0, .ref (g 5), .int 0, .int 0, .int 0, .int 0, .int 0, .int 0, .ref (g 12), .int 0, .ref (g 14), .ref (g 15), .ref (g 16), .int 0, .int 0, .ref (g 19), .ref (g 20), .ref (g 21), .ref (g 22), .int 0, .ref (g 24), .ref (g 25), .int 0, .int 0, .ref (g 28), .ref (g 29), .ref (g 30), .ref (g 31), .ref (g 32), .int 0, .ref (g 34), .ref (g 35), .ref (g 36), .ref (g 37), .ref (g 38), .ref (g 39), .int 0, .int 0, .ref (g 42), .ref (g 43), .ref (g 44), .int 0, .ref (g 46), .ref (g 47), .ref (g 48), .int 0, .ref (g 50), .ref (g 51), .int 0, .ref (g 53), .int 0, .int 0, .ref (g 56), .int 0, .ref (g 58), .ref (g 59), .ref (g 60), .ref (g 61), .ref (g 62), .ref (g 63), .ref (g 64), .int 0, .int 0, .int 0, .ref (g 68), .ref (g 69), .ref (g 70), .ref (g 71), .ref (g 72), .ref (g 73), .int 0, .int 0, .int 1, .int 3, .int 0, .int 0, .int 0, .int 0, .ref (g 82), .ref (g 83), .ref (g 84), .ref (g 85)]))] ++ []) H := hH
        have hK : va_K D vwCl [(kj, .int), (kv, .int)] s := by simpa using hK
        subst hw_54
        refine lv_iload_n hx hb dX12_start_92 rfl (lv_at hl 2 rfl) ?_
        refine lv_iconst (v := 0) hx hb dX12_start_93 (by decide) ?_
        refine sj_callv (wr := [((g 83), .inl (kj, 3, .inl (upd (upd (upd (fun _ => 0) 0 (-1)) 1 (-1)) 2 (-1))))]) (va_runV (As := [.int 0, .int 0, .int 3, .int 0]) (rest := []) ⟨hx, hb, hml, hown, hts⟩ (c_X12_tell0 l D h0 g 0 0 0 0 0 0 0 0 0 0 0 0 0 0 0 0 0 0 0 0 0 0 0 0 0 0 0 0 0 1 3 0 0 0 0 0 3 0 fv kv H.size) (cwV 4 hts gX12_start_X12_tell rfl rfl rfl (by decide +kernel) ⟨(Nat.le_of_ble_eq_true rfl), (Nat.le_of_ble_eq_true rfl)⟩) (sj_preV (q := (RX12, TX12, 86)) hH hK [2, 1] rfl rfl [1] rfl rfl rfl sj_bln sj_exn) rfl rfl hl.1 rfl (lv_room (Nat.le_of_ble_eq_true rfl)) dX12_start_94 ⟨(Nat.le_of_ble_eq_true rfl), (Nat.le_of_ble_eq_true rfl)⟩) hH hK hS hA [2, 1] [0] rfl rfl rfl rfl (by decide) rfl rfl (fun u_56 H locs hw_57 hH hK hS => ?_)
        have hH : sj_H D A ([((g 83), .inl (kj, 3, .inl (upd (upd (upd (fun _ => 0) 0 (-1)) 1 (-1)) 2 (-1)))), (h0, .inr (12, [.int 0, .ref (g 1), .int 0, .ref (g 3), .int 0, .ref (g 5), .int 0, .int 0, .int 0, .int 0, .int 0, .int 0, .ref (g 12), .int 0, .ref (g 14), .ref (g 15), .ref (g 16), .int 0, .int 0, .ref (g 19), .ref (g 20), .ref (g 21), .ref (g 22), .int 0, .ref (g 24), .ref (g 25), .int 0, .int 0, .ref (g 28), .ref (g 29), .ref (g 30), .ref (g 31), .ref (g 32), .int 0, .ref (g 34), .ref (g 35), .ref (g 36), .ref (g 37), .ref (g 38), .ref (g 39), .int 0, .int 0, .ref (g 42), .ref (g 43), .ref (g 44), .int 0, .ref (g 46), .ref (g 47), .ref (g 48), .int 0, .ref (g 50), .ref (g 51), .int 0, .ref (g 53), .int 0, .int 0, .ref (g 56), .int 0, .ref (g 58), .ref (g 59), .ref (g 60), .ref (g 61), .ref (g 62), .ref (g 63), .ref (g 64), .int 0, .int 0, .int 0, .ref (g 68), .ref (g 69), .ref (g 70), .ref (g 71), .ref (g 72), .ref (g 73), .int 0, .int 0, .int 1, .int 3, .int 0, .int 0, .int 0, .int 1, .ref (g 82), .ref (g 83), .ref (g 84), .ref (g 85)])), ((g 82), .inl (kv, 256, .inl (upd (upd (upd (upd fv 0 0) 1 0) 2 3) 3 0)))] ++ []) H := hH
        have hK : va_K D vwCl [(kj, .int), (kv, .int)] s := by simpa using hK
        refine lv_aload_n hx hb dX12_start_97 rfl (lv_at hl 1 rfl) ?_
        refine sj_calli (wr := [((g 83), .inl (kj, 3, .inl (upd (upd (upd (fun _ => 0) 0 (-1)) 1 (-1)) 2 (-1)))), ((g 82), .inl (kv, 256, .inl (upd (upd (upd (upd fv 0 0) 1 0) 2 3) 3 0)))]) (va_runV (As := []) (rest := []) ⟨hx, hb, hml, hown, hts⟩ (c_X12_wanted l D h0 g 0 0 0 0 0 0 0 0 0 0 0 0 0 0 0 0 0 0 0 0 0 0 0 0 0 0 0 0 1 3 0 0 0 1 H.size) (cwV 0 hts gX12_start_X12_wanted rfl rfl rfl (by decide +kernel) ⟨(Nat.le_of_ble_eq_true rfl), (Nat.le_of_ble_eq_true rfl)⟩) (sj_preV (q := (RX12, TX12, 86)) hH hK [1] rfl rfl [] rfl rfl rfl sj_bln sj_exn) rfl rfl hl.1 rfl (lv_room (Nat.le_of_ble_eq_true rfl)) dX12_start_98 ⟨(Nat.le_of_ble_eq_true rfl), (Nat.le_of_ble_eq_true rfl)⟩) hH hK hS hA [1] [0, 2] rfl rfl rfl rfl (by decide) rfl rfl (fun r_58 u_59 H locs hw_60 hH hK hS => ?_)
        have hH : sj_H D A ([((g 83), .inl (kj, 3, .inl (upd (upd (upd (fun _ => 0) 0 (-1)) 1 (-1)) 2 (-1)))), ((g 82), .inl (kv, 256, .inl (upd (upd (upd (upd fv 0 0) 1 0) 2 3) 3 0))), (h0, .inr (12, [.int 0, .ref (g 1), .int 0, .ref (g 3), .int 0, .ref (g 5), .int 0, .int 0, .int 0, .int 0, .int 0, .int 0, .ref (g 12), .int 0, .ref (g 14), .ref (g 15), .ref (g 16), .int 0, .int 0, .ref (g 19), .ref (g 20), .ref (g 21), .ref (g 22), .int 0, .ref (g 24), .ref (g 25), .int 0, .int 0, .ref (g 28), .ref (g 29), .ref (g 30), .ref (g 31), .ref (g 32), .int 0, .ref (g 34), .ref (g 35), .ref (g 36), .ref (g 37), .ref (g 38), .ref (g 39), .int 0, .int 0, .ref (g 42), .ref (g 43), .ref (g 44), .int 0, .ref (g 46), .ref (g 47), .ref (g 48), .int 0, .ref (g 50), .ref (g 51), .int 0, .ref (g 53), .int 0, .int 0, .ref (g 56), .int 0, .ref (g 58), .ref (g 59), .ref (g 60), .ref (g 61), .ref (g 62), .ref (g 63), .ref (g 64), .int 0, .int 0, .int 0, .ref (g 68), .ref (g 69), .ref (g 70), .ref (g 71), .ref (g 72), .ref (g 73), .int 0, .int 0, .int 1, .int 3, .int 0, .int 0, .int 0, .int 1, .ref (g 82), .ref (g 83), .ref (g 84), .ref (g 85)]))] ++ []) H := hH
        have hK : va_K D vwCl [(kj, .int), (kv, .int)] s := by simpa using hK
        subst hw_60
        refine lv_istore_n (lv' := [(2, .int 0), (0, .ref h0), (1, .int 3)]) hx hb dX12_start_101 rfl hl (by decide) rfl (fun ls hl => ?_)
        refine lv_aload_n hx hb dX12_start_102 rfl (lv_at hl 1 rfl) ?_
        refine sj_callv (wr := [((g 83), .inl (kj, 3, .inl (upd (upd (upd (fun _ => 0) 0 (-1)) 1 (-1)) 2 (-1)))), ((g 82), .inl (kv, 256, .inl (upd (upd (upd (upd fv 0 0) 1 0) 2 3) 3 0)))]) (va_runV (As := []) (rest := []) ⟨hx, hb, hml, hown, hts⟩ (c_X12_seek l D h0 g 0 0 0 0 0 0 0 0 0 0 0 0 0 0 0 0 0 0 0 0 0 0 0 0 0 0 0 0 1 3 0 0 1 H.size) (cwV 0 hts gX12_start_X12_seek rfl rfl rfl (by decide +kernel) ⟨(Nat.le_of_ble_eq_true rfl), (Nat.le_of_ble_eq_true rfl)⟩) (sj_preV (q := (RX12, TX12, 86)) hH hK [2] rfl rfl [] rfl rfl rfl sj_bln sj_exn) rfl rfl hl.1 rfl (lv_room (Nat.le_of_ble_eq_true rfl)) dX12_start_103 ⟨(Nat.le_of_ble_eq_true rfl), (Nat.le_of_ble_eq_true rfl)⟩) hH hK hS hA [2] [0, 1] rfl rfl rfl rfl (by decide) rfl rfl (fun u_62 H locs hw_63 hH hK hS => ?_)
        have hH : sj_H D A ([((g 83), .inl (kj, 3, .inl (upd (upd (upd (fun _ => 0) 0 (-1)) 1 (-1)) 2 (-1)))), ((g 82), .inl (kv, 256, .inl (upd (upd (upd (upd fv 0 0) 1 0) 2 3) 3 0))), (h0, .inr (12, [.int 0, .ref (g 1), .int 0, .ref (g 3), .int 0, .ref (g 5), .int 0, .int 0, .int 0, .int 0, .int 0, .int 0, .ref (g 12), .int 0, .ref (g 14), .ref (g 15), .ref (g 16), .int 0, .int 0, .ref (g 19), .ref (g 20), .ref (g 21), .ref (g 22), .int 0, .ref (g 24), .ref (g 25), .int 0, .int 0, .ref (g 28), .ref (g 29), .ref (g 30), .ref (g 31), .ref (g 32), .int 0, .ref (g 34), .ref (g 35), .ref (g 36), .ref (g 37), .ref (g 38), .ref (g 39), .int 0, .int 0, .ref (g 42), .ref (g 43), .ref (g 44), .int 0, .ref (g 46), .ref (g 47), .ref (g 48), .int 0, .ref (g 50), .ref (g 51), .int 0, .ref (g 53), .int 0, .int 0, .ref (g 56), .int 0, .ref (g 58), .ref (g 59), .ref (g 60), .ref (g 61), .ref (g 62), .ref (g 63), .ref (g 64), .int 0, .int 0, .int 0, .ref (g 68), .ref (g 69), .ref (g 70), .ref (g 71), .ref (g 72), .ref (g 73), .int 0, .int 0, .int 1, .int 3, .int 0, .int 0, .int 0, .int 1, .ref (g 82), .ref (g 83), .ref (g 84), .ref (g 85)]))] ++ []) H := hH
        have hK : va_K D vwCl [(kj, .int), (kv, .int)] s := by simpa using hK
        refine lv_aload_n hx hb dX12_start_106 rfl (lv_at hl 1 rfl) ?_
        refine sj_callv (wr := []) (va_runV (As := []) (rest := []) ⟨hx, hb, hml, hown, hts⟩ (c_X12_settle3 l D h0 g 0 0 0 0 0 0 0 0 0 0 0 0 0 0 0 0 0 0 0 0 0 0 0 0 0 0 0 0 1 0 0 kj (upd (upd (upd (upd fv 0 0) 1 0) 2 3) 3 0) kv H.size) (cwV 0 hts gX12_start_X12_settle rfl rfl rfl (by decide +kernel) ⟨(Nat.le_of_ble_eq_true rfl), (Nat.le_of_ble_eq_true rfl)⟩) (sj_preV (q := (RX12, TX12, 86)) hH hK [2, 0, 1] rfl rfl [0, 1] rfl rfl rfl sj_bln sj_exn) rfl rfl hl.1 rfl (lv_room (Nat.le_of_ble_eq_true rfl)) dX12_start_107 ⟨(Nat.le_of_ble_eq_true rfl), (Nat.le_of_ble_eq_true rfl)⟩) hH hK hS hA [2, 0, 1] [] rfl rfl rfl rfl (by decide) rfl rfl (fun u_65 H locs hw_66 hH hK hS => ?_)
        have hH : sj_H D A ([(h0, .inr (12, [.int 0, .ref (g 1), .int 0, .ref (g 3), .int 0, .ref (g 5), .int 0, .int 0, .int 0, .int 0, .int 0, .int 0, .ref (g 12), .int 0, .ref (g 14), .ref (g 15), .ref (g 16), .int 0, .int 0, .ref (g 19), .ref (g 20), .ref (g 21), .ref (g 22), .int 0, .ref (g 24), .ref (g 25), .int 0, .int 0, .ref (g 28), .ref (g 29), .ref (g 30), .ref (g 31), .ref (g 32), .int 0, .ref (g 34), .ref (g 35), .ref (g 36), .ref (g 37), .ref (g 38), .ref (g 39), .int 0, .int 0, .ref (g 42), .ref (g 43), .ref (g 44), .int 0, .ref (g 46), .ref (g 47), .ref (g 48), .int 0, .ref (g 50), .ref (g 51), .int 0, .ref (g 53), .int 0, .int 0, .ref (g 56), .int 0, .ref (g 58), .ref (g 59), .ref (g 60), .ref (g 61), .ref (g 62), .ref (g 63), .ref (g 64), .int 0, .int 0, .int 0, .ref (g 68), .ref (g 69), .ref (g 70), .ref (g 71), .ref (g 72), .ref (g 73), .int 0, .int 0, .int 0, .int 3, .int 0, .int 0, .int 0, .int 2, .ref (g 82), .ref (g 83), .ref (g 84), .ref (g 85)]))] ++ []) H := hH
        have hK : va_K D vwCl [(kj, .int), (kv, .int)] s := by simpa using hK
        refine lv_iload_n hx hb dX12_start_110 rfl (lv_at hl 0 rfl) ?_
        exact sj_zret hx hb hr hlocks rfl hS [.int 0, .ref (g 1), .int 0, .ref (g 3), .int 0, .ref (g 5), .int 0, .int 0, .int 0, .int 0, .int 0, .int 0, .ref (g 12), .int 0, .ref (g 14), .ref (g 15), .ref (g 16), .int 0, .int 0, .ref (g 19), .ref (g 20), .ref (g 21), .ref (g 22), .int 0, .ref (g 24), .ref (g 25), .int 0, .int 0, .ref (g 28), .ref (g 29), .ref (g 30), .ref (g 31), .ref (g 32), .int 0, .ref (g 34), .ref (g 35), .ref (g 36), .ref (g 37), .ref (g 38), .ref (g 39), .int 0, .int 0, .ref (g 42), .ref (g 43), .ref (g 44), .int 0, .ref (g 46), .ref (g 47), .ref (g 48), .int 0, .ref (g 50), .ref (g 51), .int 0, .ref (g 53), .int 0, .int 0, .ref (g 56), .int 0, .ref (g 58), .ref (g 59), .ref (g 60), .ref (g 61), .ref (g 62), .ref (g 63), .ref (g 64), .int 0, .int 0, .int 0, .ref (g 68), .ref (g 69), .ref (g 70), .ref (g 71), .ref (g 72), .ref (g 73), .int 0, .int 0, .int 0, .int 3, .int 0, .int 0, .int 0, .int 2, .ref (g 82), .ref (g 83), .ref (g 84), .ref (g 85)] (Or.inl ⟨rfl, rfl, by first | omega | decide, by first | omega | decide⟩) (sj_sub hH [0] rfl rfl) (sj_Knil hK) (Nat.le_of_ble_eq_true rfl) (Nat.le_of_ble_eq_true rfl) dX12_start_111
    · skip
      have d_67 := sj_nle (n := 3) (by decide) c_12
      refine lv_iconst (v := 2) hx hb dX12_start_20 (by decide) ?_
      refine lv_goto (tgt := 25) hx hb dX12_start_21 (by decide) ?_
      refine sj_calli (wr := [((g 83), .inl (kj, 3, .inl (upd (upd (upd (fun _ => 0) 0 (-1)) 1 (-1)) 2 (-1)))), ((g 82), .inl (kv, 256, .inl fv))]) (va_runV (As := [.int 2]) (rest := []) ⟨hx, hb, hml, hown, hts⟩ (c_X12_throwsNow2 l D h0 g 0 0 0 0 0 0 0 0 0 0 0 0 0 0 0 0 0 0 0 0 0 0 0 0 0 0 0 0 0 0 0 0 0 0 0 H.size) (cwV 1 hts gX12_start_X12_throwsNow rfl rfl rfl (by decide +kernel) ⟨(Nat.le_of_ble_eq_true rfl), (Nat.le_of_ble_eq_true rfl)⟩) (sj_preV (q := (RX12, TX12, 86)) hH hK [2] rfl rfl [] rfl rfl rfl sj_bln sj_exn) rfl rfl hl.1 rfl (lv_room (Nat.le_of_ble_eq_true rfl)) dX12_start_25 ⟨(Nat.le_of_ble_eq_true rfl), (Nat.le_of_ble_eq_true rfl)⟩) hH hK hS hA [2] [0, 1] rfl rfl rfl rfl (by decide) rfl rfl (fun r_68 u_69 H locs hw_70 hH hK hS => ?_)
      have hH : sj_H D A ([((g 83), .inl (kj, 3, .inl (upd (upd (upd (fun _ => 0) 0 (-1)) 1 (-1)) 2 (-1)))), ((g 82), .inl (kv, 256, .inl fv)), (h0, .inr (12, sj_M g 2))] ++ []) H := hH
      have hK : va_K D vwCl [(kj, .int), (kv, .int)] s := by simpa using hK
      subst hw_70
      refine lv_if_eq (tgt := 33) hx hb dX12_start_28 (by decide) (fun h => absurd h (by decide)) (fun _ => ?_)
      refine lv_iconst (v := 0) hx hb dX12_start_31 (by decide) ?_
      exact sj_zret hx hb hr hlocks rfl hS [.int 2, .ref (g 1), .int 0, .ref (g 3), .int 0, .ref (g 5), .int 0, .int 0, .int 0, .int 0, .int 0, .int 0, .ref (g 12), .int 0, .ref (g 14), .ref (g 15), .ref (g 16), .int 0, .int 0, .ref (g 19), .ref (g 20), .ref (g 21), .ref (g 22), .int 0, .ref (g 24), .ref (g 25), .int 0, .int 0, .ref (g 28), .ref (g 29), .ref (g 30), .ref (g 31), .ref (g 32), .int 0, .ref (g 34), .ref (g 35), .ref (g 36), .ref (g 37), .ref (g 38), .ref (g 39), .int 0, .int 0, .ref (g 42), .ref (g 43), .ref (g 44), .int 0, .ref (g 46), .ref (g 47), .ref (g 48), .int 0, .ref (g 50), .ref (g 51), .int 0, .ref (g 53), .int 0, .int 0, .ref (g 56), .int 0, .ref (g 58), .ref (g 59), .ref (g 60), .ref (g 61), .ref (g 62), .ref (g 63), .ref (g 64), .int 0, .int 0, .int 0, .ref (g 68), .ref (g 69), .ref (g 70), .ref (g 71), .ref (g 72), .ref (g 73), .int 0, .int 0, .int 0, .int 0, .int 0, .int 0, .int 0, .int 0, .ref (g 82), .ref (g 83), .ref (g 84), .ref (g 85)] (Or.inr ⟨rfl, by omega⟩) (sj_sub hH [2] rfl rfl) (sj_Knil hK) (Nat.le_of_ble_eq_true rfl) (Nat.le_of_ble_eq_true rfl) dX12_start_32
set_option maxHeartbeats 4000000 in
set_option maxRecDepth 100000 in
theorem c_X12_go (l : Launch) (D : va_G) (h0 : Nat) (g : Nat → Nat) (th : Int32) (n : Int32) (sz : Nat)  : Met l yX12_go wsX12_go ({ frames := 0, cells := 0, slots := 0, locals := 0 }) (va_Pc [.ref h0, .int n] (sj_B D [(h0, .inr (12, sj_M g th))] [] sz sj_n)) (sj_Qi (S := (List Value)) D (fun r _ => r = if 1 ≤ n.toInt ∧ n.toInt ≤ 40 then 0 else -1) (fun u => [(h0, .inr (12, u))]) (fun u => []) (va_A [(h0, .inr (12, sj_M g th))] sz)) 0 0 (va_A [(h0, .inr (12, sj_M g th))] sz) := by
  refine sj_met (cc := cX12_go) (maxL := 4) (ret := (some .int)) (by decide) rfl (Nat.le_of_ble_eq_true rfl) ?_
  intro p e s m below meth c A ls hx hb hr hml hts hown hlocks hnm hA hsz hS hH hK hE hl
  have hown : s.vm.findClass RX12 = some m.cls := hown
  have in12 : ∀ w ∈ wsX120, w ∈ wsX12_go := by decide +kernel
  have wd0 := hts (.fieldLink RX12 1 "StoryDeskModel" "thrown" "I") (by decide +kernel)
  have wd1 := hts (.fieldLink RX12 168 "StoryDeskModel" "running" "Z") (by decide +kernel)
  have hl : lv_has ls 4 [(0, .ref h0), (1, .int n)] := hl
  have hH : sj_H D A ([(h0, .inr (12, sj_M g th))] ++ []) s.heap := hH
  refine lv_aload_n hx hb dX12_go_0 rfl (lv_at hl 0 rfl) ?_
  refine lv_iconst (v := 0) hx hb dX12_go_1 (by decide) ?_
  refine sj_put (D := D) (ci := 12) (v := .int 0) (ty := .int) (C := RX12) (F := TX12) (N := 86) hx hb hts in12 tyX12 tyX12_ok nmX12 hown hK hH hS 0 rfl rfl 0 (by decide) wd0 (fun _ h9 => h9) rfl (by decide +kernel) rfl rfl (Nat.le_of_ble_eq_true rfl) dX12_go_2 (fun H locs (hH : sj_H D A ([(h0, .inr (12, sj_M g 0))] ++ []) H) hS => ?_)
  refine lv_iload_n hx hb dX12_go_5 rfl (lv_at hl 1 rfl) ?_
  refine lv_iconst (v := 1) hx hb dX12_go_6 (by decide) ?_
  refine lv_icmp_lt (tgt := 16) hx hb dX12_go_7 (by decide) (fun c_1 => ?_) (fun c_1 => ?_)
  · skip
    have d_2 := sj_ltF (n := 1) (by decide) c_1
    refine lv_iconst (v := (-1)) hx hb dX12_go_16 (by decide) ?_
    exact sj_zret hx hb hr hlocks rfl hS [.int 0, .ref (g 1), .int 0, .ref (g 3), .int 0, .ref (g 5), .int 0, .int 0, .int 0, .int 0, .int 0, .int 0, .ref (g 12), .int 0, .ref (g 14), .ref (g 15), .ref (g 16), .int 0, .int 0, .ref (g 19), .ref (g 20), .ref (g 21), .ref (g 22), .int 0, .ref (g 24), .ref (g 25), .int 0, .int 0, .ref (g 28), .ref (g 29), .ref (g 30), .ref (g 31), .ref (g 32), .int 0, .ref (g 34), .ref (g 35), .ref (g 36), .ref (g 37), .ref (g 38), .ref (g 39), .int 0, .int 0, .ref (g 42), .ref (g 43), .ref (g 44), .int 0, .ref (g 46), .ref (g 47), .ref (g 48), .int 0, .ref (g 50), .ref (g 51), .int 0, .ref (g 53), .int 0, .int 0, .ref (g 56), .int 0, .ref (g 58), .ref (g 59), .ref (g 60), .ref (g 61), .ref (g 62), .ref (g 63), .ref (g 64), .int 0, .int 0, .int 0, .ref (g 68), .ref (g 69), .ref (g 70), .ref (g 71), .ref (g 72), .ref (g 73), .int 0, .int 0, .int 0, .int 0, .int 0, .int 0, .int 0, .int 0, .ref (g 82), .ref (g 83), .ref (g 84), .ref (g 85)] (by first | exact (if_pos (by omega)).symm | exact (if_neg (by omega)).symm) (sj_sub hH [0] rfl rfl) (sj_Knil hK) (Nat.le_of_ble_eq_true rfl) (Nat.le_of_ble_eq_true rfl) dX12_go_17
  · skip
    have d_3 := sj_nlt (n := 1) (by decide) c_1
    refine lv_iload_n hx hb dX12_go_10 rfl (lv_at hl 1 rfl) ?_
    refine lv_bipush (v := 40) hx hb dX12_go_11 (by decide) ?_
    refine lv_icmp_le (tgt := 18) hx hb dX12_go_13 (by decide) (fun c_4 => ?_) (fun c_4 => ?_)
    · skip
      have d_5 := sj_leF (n := 40) (by decide) c_4
      refine lv_iconst (v := 0) hx hb dX12_go_18 (by decide) ?_
      refine lv_istore_n (lv' := [(2, .int 0), (0, .ref h0), (1, .int n)]) hx hb dX12_go_19 rfl hl (by decide) rfl (fun ls hl => ?_)
      refine lv_iload_n hx hb dX12_go_20 rfl (lv_at hl 0 rfl) ?_
      refine lv_iload_n hx hb dX12_go_21 rfl (lv_at hl 2 rfl) ?_
      refine lv_icmp_ge (tgt := 116) hx hb dX12_go_22 (by decide) (fun h => absurd h (sj_nleP (n := 0) (by decide) (by omega))) (fun _ => ?_)
      refine lv_aload_n hx hb dX12_go_25 rfl (lv_at hl 1 rfl) ?_
      refine va_get (D := D) (ci := 12) (v := .int 0) (C := RX12) (T := TX12) (N := 86) hx hb hts in12 hown hK hH.1 0 rfl rfl 76 (by decide) wd1 (fun _ h9 => h9) rfl dX12_go_26 ?_
      refine lv_if_eq (tgt := 116) hx hb dX12_go_29 (by decide) (fun _ => ?_) (fun h => absurd (by decide) h)
      refine lv_iload_n hx hb dX12_go_116 rfl (lv_at hl 0 rfl) ?_
      exact sj_zret hx hb hr hlocks rfl hS [.int 0, .ref (g 1), .int 0, .ref (g 3), .int 0, .ref (g 5), .int 0, .int 0, .int 0, .int 0, .int 0, .int 0, .ref (g 12), .int 0, .ref (g 14), .ref (g 15), .ref (g 16), .int 0, .int 0, .ref (g 19), .ref (g 20), .ref (g 21), .ref (g 22), .int 0, .ref (g 24), .ref (g 25), .int 0, .int 0, .ref (g 28), .ref (g 29), .ref (g 30), .ref (g 31), .ref (g 32), .int 0, .ref (g 34), .ref (g 35), .ref (g 36), .ref (g 37), .ref (g 38), .ref (g 39), .int 0, .int 0, .ref (g 42), .ref (g 43), .ref (g 44), .int 0, .ref (g 46), .ref (g 47), .ref (g 48), .int 0, .ref (g 50), .ref (g 51), .int 0, .ref (g 53), .int 0, .int 0, .ref (g 56), .int 0, .ref (g 58), .ref (g 59), .ref (g 60), .ref (g 61), .ref (g 62), .ref (g 63), .ref (g 64), .int 0, .int 0, .int 0, .ref (g 68), .ref (g 69), .ref (g 70), .ref (g 71), .ref (g 72), .ref (g 73), .int 0, .int 0, .int 0, .int 0, .int 0, .int 0, .int 0, .int 0, .ref (g 82), .ref (g 83), .ref (g 84), .ref (g 85)] (by first | exact (if_pos (by omega)).symm | exact (if_neg (by omega)).symm) (sj_sub hH [0] rfl rfl) (sj_Knil hK) (Nat.le_of_ble_eq_true rfl) (Nat.le_of_ble_eq_true rfl) dX12_go_117
    · skip
      have d_8 := sj_nle (n := 40) (by decide) c_4
      refine lv_iconst (v := (-1)) hx hb dX12_go_16 (by decide) ?_
      exact sj_zret hx hb hr hlocks rfl hS [.int 0, .ref (g 1), .int 0, .ref (g 3), .int 0, .ref (g 5), .int 0, .int 0, .int 0, .int 0, .int 0, .int 0, .ref (g 12), .int 0, .ref (g 14), .ref (g 15), .ref (g 16), .int 0, .int 0, .ref (g 19), .ref (g 20), .ref (g 21), .ref (g 22), .int 0, .ref (g 24), .ref (g 25), .int 0, .int 0, .ref (g 28), .ref (g 29), .ref (g 30), .ref (g 31), .ref (g 32), .int 0, .ref (g 34), .ref (g 35), .ref (g 36), .ref (g 37), .ref (g 38), .ref (g 39), .int 0, .int 0, .ref (g 42), .ref (g 43), .ref (g 44), .int 0, .ref (g 46), .ref (g 47), .ref (g 48), .int 0, .ref (g 50), .ref (g 51), .int 0, .ref (g 53), .int 0, .int 0, .ref (g 56), .int 0, .ref (g 58), .ref (g 59), .ref (g 60), .ref (g 61), .ref (g 62), .ref (g 63), .ref (g 64), .int 0, .int 0, .int 0, .ref (g 68), .ref (g 69), .ref (g 70), .ref (g 71), .ref (g 72), .ref (g 73), .int 0, .int 0, .int 0, .int 0, .int 0, .int 0, .int 0, .int 0, .ref (g 82), .ref (g 83), .ref (g 84), .ref (g 85)] (by first | exact (if_pos (by omega)).symm | exact (if_neg (by omega)).symm) (sj_sub hH [0] rfl rfl) (sj_Knil hK) (Nat.le_of_ble_eq_true rfl) (Nat.le_of_ble_eq_true rfl) dX12_go_17
set_option maxHeartbeats 4000000 in
set_option maxRecDepth 100000 in
theorem c_X12_event (l : Launch) (D : va_G) (h0 : Nat) (g : Nat → Nat) (th : Int32) (k : Int32) (what : Int32) (sz : Nat)  : Met l yX12_event wsX12_event ({ frames := 0, cells := 0, slots := 0, locals := 0 }) (va_Pc [.ref h0, .int k, .int what] (sj_B D [(h0, .inr (12, sj_M g th))] [] sz sj_n)) (sj_Qi (S := (List Value)) D (fun r _ => r = -1) (fun u => [(h0, .inr (12, u))]) (fun u => []) (va_A [(h0, .inr (12, sj_M g th))] sz)) 0 0 (va_A [(h0, .inr (12, sj_M g th))] sz) := by
  refine sj_met (cc := cX12_event) (maxL := 3) (ret := (some .int)) (by decide) rfl (Nat.le_of_ble_eq_true rfl) ?_
  intro p e s m below meth c A ls hx hb hr hml hts hown hlocks hnm hA hsz hS hH hK hE hl
  have hown : s.vm.findClass RX12 = some m.cls := hown
  have in12 : ∀ w ∈ wsX120, w ∈ wsX12_event := by decide +kernel
  have wd0 := hts (.fieldLink RX12 1 "StoryDeskModel" "thrown" "I") (by decide +kernel)
  have wd1 := hts (.fieldLink RX12 501 "StoryDeskModel" "told" "I") (by decide +kernel)
  have hl : lv_has ls 3 [(0, .ref h0), (1, .int k), (2, .int what)] := hl
  have hH : sj_H D A ([(h0, .inr (12, sj_M g th))] ++ []) s.heap := hH
  refine lv_aload_n hx hb dX12_event_0 rfl (lv_at hl 0 rfl) ?_
  refine lv_iconst (v := 0) hx hb dX12_event_1 (by decide) ?_
  refine sj_put (D := D) (ci := 12) (v := .int 0) (ty := .int) (C := RX12) (F := TX12) (N := 86) hx hb hts in12 tyX12 tyX12_ok nmX12 hown hK hH hS 0 rfl rfl 0 (by decide) wd0 (fun _ h9 => h9) rfl (by decide +kernel) rfl rfl (Nat.le_of_ble_eq_true rfl) dX12_event_2 (fun H locs (hH : sj_H D A ([(h0, .inr (12, sj_M g 0))] ++ []) H) hS => ?_)
  refine lv_iload_n hx hb dX12_event_5 rfl (lv_at hl 1 rfl) ?_
  refine lv_if_lt (tgt := 32) hx hb dX12_event_6 (by decide) (fun c_1 => ?_) (fun c_1 => ?_)
  · skip
    have d_2 := sj_ltF (n := 0) (by decide) c_1
    refine lv_iconst (v := (-1)) hx hb dX12_event_32 (by decide) ?_
    refine lv_goto (tgt := 56) hx hb dX12_event_33 (by decide) ?_
    exact sj_zret hx hb hr hlocks rfl hS [.int 0, .ref (g 1), .int 0, .ref (g 3), .int 0, .ref (g 5), .int 0, .int 0, .int 0, .int 0, .int 0, .int 0, .ref (g 12), .int 0, .ref (g 14), .ref (g 15), .ref (g 16), .int 0, .int 0, .ref (g 19), .ref (g 20), .ref (g 21), .ref (g 22), .int 0, .ref (g 24), .ref (g 25), .int 0, .int 0, .ref (g 28), .ref (g 29), .ref (g 30), .ref (g 31), .ref (g 32), .int 0, .ref (g 34), .ref (g 35), .ref (g 36), .ref (g 37), .ref (g 38), .ref (g 39), .int 0, .int 0, .ref (g 42), .ref (g 43), .ref (g 44), .int 0, .ref (g 46), .ref (g 47), .ref (g 48), .int 0, .ref (g 50), .ref (g 51), .int 0, .ref (g 53), .int 0, .int 0, .ref (g 56), .int 0, .ref (g 58), .ref (g 59), .ref (g 60), .ref (g 61), .ref (g 62), .ref (g 63), .ref (g 64), .int 0, .int 0, .int 0, .ref (g 68), .ref (g 69), .ref (g 70), .ref (g 71), .ref (g 72), .ref (g 73), .int 0, .int 0, .int 0, .int 0, .int 0, .int 0, .int 0, .int 0, .ref (g 82), .ref (g 83), .ref (g 84), .ref (g 85)] rfl (sj_sub hH [0] rfl rfl) (sj_Knil hK) (Nat.le_of_ble_eq_true rfl) (Nat.le_of_ble_eq_true rfl) dX12_event_56
  · skip
    have d_3 := sj_nlt (n := 0) (by decide) c_1
    refine lv_iload_n hx hb dX12_event_9 rfl (lv_at hl 1 rfl) ?_
    refine lv_bipush (v := 63) hx hb dX12_event_10 (by decide) ?_
    refine lv_icmp_gt (tgt := 32) hx hb dX12_event_12 (by decide) (fun c_4 => ?_) (fun c_4 => ?_)
    · skip
      have d_5 := sj_gtF (n := 63) (by decide) c_4
      refine lv_iconst (v := (-1)) hx hb dX12_event_32 (by decide) ?_
      refine lv_goto (tgt := 56) hx hb dX12_event_33 (by decide) ?_
      exact sj_zret hx hb hr hlocks rfl hS [.int 0, .ref (g 1), .int 0, .ref (g 3), .int 0, .ref (g 5), .int 0, .int 0, .int 0, .int 0, .int 0, .int 0, .ref (g 12), .int 0, .ref (g 14), .ref (g 15), .ref (g 16), .int 0, .int 0, .ref (g 19), .ref (g 20), .ref (g 21), .ref (g 22), .int 0, .ref (g 24), .ref (g 25), .int 0, .int 0, .ref (g 28), .ref (g 29), .ref (g 30), .ref (g 31), .ref (g 32), .int 0, .ref (g 34), .ref (g 35), .ref (g 36), .ref (g 37), .ref (g 38), .ref (g 39), .int 0, .int 0, .ref (g 42), .ref (g 43), .ref (g 44), .int 0, .ref (g 46), .ref (g 47), .ref (g 48), .int 0, .ref (g 50), .ref (g 51), .int 0, .ref (g 53), .int 0, .int 0, .ref (g 56), .int 0, .ref (g 58), .ref (g 59), .ref (g 60), .ref (g 61), .ref (g 62), .ref (g 63), .ref (g 64), .int 0, .int 0, .int 0, .ref (g 68), .ref (g 69), .ref (g 70), .ref (g 71), .ref (g 72), .ref (g 73), .int 0, .int 0, .int 0, .int 0, .int 0, .int 0, .int 0, .int 0, .ref (g 82), .ref (g 83), .ref (g 84), .ref (g 85)] rfl (sj_sub hH [0] rfl rfl) (sj_Knil hK) (Nat.le_of_ble_eq_true rfl) (Nat.le_of_ble_eq_true rfl) dX12_event_56
    · skip
      have d_6 := sj_ngt (n := 63) (by decide) c_4
      refine lv_iload_n hx hb dX12_event_15 rfl (lv_at hl 1 rfl) ?_
      refine lv_aload_n hx hb dX12_event_16 rfl (lv_at hl 0 rfl) ?_
      refine va_get (D := D) (ci := 12) (v := .int 0) (C := RX12) (T := TX12) (N := 86) hx hb hts in12 hown hK hH.1 0 rfl rfl 81 (by decide) wd1 (fun _ h9 => h9) rfl dX12_event_17 ?_
      refine lv_icmp_ge (tgt := 32) hx hb dX12_event_20 (by decide) (fun _ => ?_) (fun h => absurd (sj_geP (n := 0) (by decide) (by omega)) h)
      refine lv_iconst (v := (-1)) hx hb dX12_event_32 (by decide) ?_
      refine lv_goto (tgt := 56) hx hb dX12_event_33 (by decide) ?_
      exact sj_zret hx hb hr hlocks rfl hS [.int 0, .ref (g 1), .int 0, .ref (g 3), .int 0, .ref (g 5), .int 0, .int 0, .int 0, .int 0, .int 0, .int 0, .ref (g 12), .int 0, .ref (g 14), .ref (g 15), .ref (g 16), .int 0, .int 0, .ref (g 19), .ref (g 20), .ref (g 21), .ref (g 22), .int 0, .ref (g 24), .ref (g 25), .int 0, .int 0, .ref (g 28), .ref (g 29), .ref (g 30), .ref (g 31), .ref (g 32), .int 0, .ref (g 34), .ref (g 35), .ref (g 36), .ref (g 37), .ref (g 38), .ref (g 39), .int 0, .int 0, .ref (g 42), .ref (g 43), .ref (g 44), .int 0, .ref (g 46), .ref (g 47), .ref (g 48), .int 0, .ref (g 50), .ref (g 51), .int 0, .ref (g 53), .int 0, .int 0, .ref (g 56), .int 0, .ref (g 58), .ref (g 59), .ref (g 60), .ref (g 61), .ref (g 62), .ref (g 63), .ref (g 64), .int 0, .int 0, .int 0, .ref (g 68), .ref (g 69), .ref (g 70), .ref (g 71), .ref (g 72), .ref (g 73), .int 0, .int 0, .int 0, .int 0, .int 0, .int 0, .int 0, .int 0, .ref (g 82), .ref (g 83), .ref (g 84), .ref (g 85)] rfl (sj_sub hH [0] rfl rfl) (sj_Knil hK) (Nat.le_of_ble_eq_true rfl) (Nat.le_of_ble_eq_true rfl) dX12_event_56
set_option maxHeartbeats 4000000 in
set_option maxRecDepth 100000 in
theorem c_X12_world (l : Launch) (D : va_G) (h0 : Nat) (g : Nat → Nat) (th : Int32) (worker : Int32) (kj : ClassId) (sz : Nat)  : Met l yX12_world wsX12_world ({ frames := 0, cells := 0, slots := 0, locals := 0 }) (va_Pc [.ref h0, .int worker] (sj_B D [(h0, .inr (12, sj_M g th)), ((g 83), .inl (kj, 3, .inl (upd (upd (upd (fun _ => 0) 0 (-1)) 1 (-1)) 2 (-1))))] [(kj, .int)] sz sj_n)) (sj_Qd (S := (List Value)) D (fun r _ => r = 0) (fun u => [(h0, .inr (12, u))]) (fun u => []) (va_A [(h0, .inr (12, sj_M g th)), ((g 83), .inl (kj, 3, .inl (upd (upd (upd (fun _ => 0) 0 (-1)) 1 (-1)) 2 (-1))))] sz)) 0 0 (va_A [(h0, .inr (12, sj_M g th)), ((g 83), .inl (kj, 3, .inl (upd (upd (upd (fun _ => 0) 0 (-1)) 1 (-1)) 2 (-1))))] sz) := by
  refine sj_met (cc := cX12_world) (maxL := 2) (ret := (some .double)) (by decide) rfl (Nat.le_of_ble_eq_true rfl) ?_
  intro p e s m below meth c A ls hx hb hr hml hts hown hlocks hnm hA hsz hS hH hK hE hl
  have hown : s.vm.findClass RX12 = some m.cls := hown
  have in12 : ∀ w ∈ wsX120, w ∈ wsX12_world := by decide +kernel
  have wd0 := hts (.fieldLink RX12 1 "StoryDeskModel" "thrown" "I") (by decide +kernel)
  have wd1 := hts (.fieldLink RX12 492 "StoryDeskModel" "job" "[I") (by decide +kernel)
  have hl : lv_has ls 2 [(0, .ref h0), (1, .int worker)] := hl
  have hH : sj_H D A ([(h0, .inr (12, sj_M g th)), ((g 83), .inl (kj, 3, .inl (upd (upd (upd (fun _ => 0) 0 (-1)) 1 (-1)) 2 (-1))))] ++ []) s.heap := hH
  refine lv_aload_n hx hb dX12_world_0 rfl (lv_at hl 0 rfl) ?_
  refine lv_iconst (v := 0) hx hb dX12_world_1 (by decide) ?_
  refine sj_put (D := D) (ci := 12) (v := .int 0) (ty := .int) (C := RX12) (F := TX12) (N := 86) hx hb hts in12 tyX12 tyX12_ok nmX12 hown hK hH hS 0 rfl rfl 0 (by decide) wd0 (fun _ h9 => h9) rfl (by decide +kernel) rfl rfl (Nat.le_of_ble_eq_true rfl) dX12_world_2 (fun H locs (hH : sj_H D A ([(h0, .inr (12, sj_M g 0)), ((g 83), .inl (kj, 3, .inl (upd (upd (upd (fun _ => 0) 0 (-1)) 1 (-1)) 2 (-1))))] ++ []) H) hS => ?_)
  refine lv_iload_n hx hb dX12_world_5 rfl (lv_at hl 1 rfl) ?_
  refine lv_if_lt (tgt := 36) hx hb dX12_world_6 (by decide) (fun c_1 => ?_) (fun c_1 => ?_)
  · skip
    have d_2 := sj_ltF (n := 0) (by decide) c_1
    refine lv_dconst0 hx hb dX12_world_36 ?_
    refine lv_goto (tgt := 46) hx hb dX12_world_37 (by decide) ?_
    exact sj_dret hx hb hr hlocks hS [.int 0, .ref (g 1), .int 0, .ref (g 3), .int 0, .ref (g 5), .int 0, .int 0, .int 0, .int 0, .int 0, .int 0, .ref (g 12), .int 0, .ref (g 14), .ref (g 15), .ref (g 16), .int 0, .int 0, .ref (g 19), .ref (g 20), .ref (g 21), .ref (g 22), .int 0, .ref (g 24), .ref (g 25), .int 0, .int 0, .ref (g 28), .ref (g 29), .ref (g 30), .ref (g 31), .ref (g 32), .int 0, .ref (g 34), .ref (g 35), .ref (g 36), .ref (g 37), .ref (g 38), .ref (g 39), .int 0, .int 0, .ref (g 42), .ref (g 43), .ref (g 44), .int 0, .ref (g 46), .ref (g 47), .ref (g 48), .int 0, .ref (g 50), .ref (g 51), .int 0, .ref (g 53), .int 0, .int 0, .ref (g 56), .int 0, .ref (g 58), .ref (g 59), .ref (g 60), .ref (g 61), .ref (g 62), .ref (g 63), .ref (g 64), .int 0, .int 0, .int 0, .ref (g 68), .ref (g 69), .ref (g 70), .ref (g 71), .ref (g 72), .ref (g 73), .int 0, .int 0, .int 0, .int 0, .int 0, .int 0, .int 0, .int 0, .ref (g 82), .ref (g 83), .ref (g 84), .ref (g 85)] rfl (sj_sub hH [0] rfl rfl) (sj_Knil hK) (Nat.le_of_ble_eq_true rfl) (Nat.le_of_ble_eq_true rfl) dX12_world_46
  · skip
    have d_3 := sj_nlt (n := 0) (by decide) c_1
    refine lv_iload_n hx hb dX12_world_9 rfl (lv_at hl 1 rfl) ?_
    refine lv_iconst (v := 2) hx hb dX12_world_10 (by decide) ?_
    refine lv_icmp_gt (tgt := 36) hx hb dX12_world_11 (by decide) (fun c_4 => ?_) (fun c_4 => ?_)
    · skip
      have d_5 := sj_gtF (n := 2) (by decide) c_4
      refine lv_dconst0 hx hb dX12_world_36 ?_
      refine lv_goto (tgt := 46) hx hb dX12_world_37 (by decide) ?_
      exact sj_dret hx hb hr hlocks hS [.int 0, .ref (g 1), .int 0, .ref (g 3), .int 0, .ref (g 5), .int 0, .int 0, .int 0, .int 0, .int 0, .int 0, .ref (g 12), .int 0, .ref (g 14), .ref (g 15), .ref (g 16), .int 0, .int 0, .ref (g 19), .ref (g 20), .ref (g 21), .ref (g 22), .int 0, .ref (g 24), .ref (g 25), .int 0, .int 0, .ref (g 28), .ref (g 29), .ref (g 30), .ref (g 31), .ref (g 32), .int 0, .ref (g 34), .ref (g 35), .ref (g 36), .ref (g 37), .ref (g 38), .ref (g 39), .int 0, .int 0, .ref (g 42), .ref (g 43), .ref (g 44), .int 0, .ref (g 46), .ref (g 47), .ref (g 48), .int 0, .ref (g 50), .ref (g 51), .int 0, .ref (g 53), .int 0, .int 0, .ref (g 56), .int 0, .ref (g 58), .ref (g 59), .ref (g 60), .ref (g 61), .ref (g 62), .ref (g 63), .ref (g 64), .int 0, .int 0, .int 0, .ref (g 68), .ref (g 69), .ref (g 70), .ref (g 71), .ref (g 72), .ref (g 73), .int 0, .int 0, .int 0, .int 0, .int 0, .int 0, .int 0, .int 0, .ref (g 82), .ref (g 83), .ref (g 84), .ref (g 85)] rfl (sj_sub hH [0] rfl rfl) (sj_Knil hK) (Nat.le_of_ble_eq_true rfl) (Nat.le_of_ble_eq_true rfl) dX12_world_46
    · skip
      have d_6 := sj_ngt (n := 2) (by decide) c_4
      have sp_7 : worker = 0 ∨ worker = 1 ∨ worker = 2 := by
        rcases (show worker.toInt = 0 ∨ worker.toInt = 1 ∨ worker.toInt = 2 by omega) with h | h | h
        · exact Or.inl (sj_eqP (by decide) h)
        · exact Or.inr (Or.inl (sj_eqP (by decide) h))
        · exact Or.inr (Or.inr (sj_eqP (by decide) h))
      rcases sp_7 with rfl | rfl | rfl
      · skip
        refine lv_aload_n hx hb dX12_world_14 rfl (lv_at hl 0 rfl) ?_
        refine va_get (D := D) (ci := 12) (v := .ref (g 83)) (C := RX12) (T := TX12) (N := 86) hx hb hts in12 hown hK hH.1 0 rfl rfl 83 (by decide) wd1 (fun _ h9 => h9) rfl dX12_world_15 ?_
        refine lv_iload_n hx hb dX12_world_18 rfl (lv_at hl 1 rfl) ?_
        refine lv_if_lt (tgt := 27) hx hb dX12_world_19 (by decide) (fun h => absurd h (by decide)) (fun _ => ?_)
        refine lv_iload_n hx hb dX12_world_22 rfl (lv_at hl 1 rfl) ?_
        refine lv_iconst (v := 2) hx hb dX12_world_23 (by decide) ?_
        refine lv_icmp_le (tgt := 31) hx hb dX12_world_24 (by decide) (fun _ => ?_) (fun h => absurd (by decide) h)
        refine lv_iload_n hx hb dX12_world_31 rfl (lv_at hl 1 rfl) ?_
        refine va_iald hx hb hK hH.1 1 0 rfl rfl (sj_vin (by decide) (by decide)) dX12_world_32 ?_
        refine sj_i (y := (-1)) (rfl) ?_
        refine lv_if_ge (tgt := 40) hx hb dX12_world_33 (by decide) (fun h => absurd h (by decide)) (fun _ => ?_)
        refine lv_dconst0 hx hb dX12_world_36 ?_
        refine lv_goto (tgt := 46) hx hb dX12_world_37 (by decide) ?_
        exact sj_dret hx hb hr hlocks hS [.int 0, .ref (g 1), .int 0, .ref (g 3), .int 0, .ref (g 5), .int 0, .int 0, .int 0, .int 0, .int 0, .int 0, .ref (g 12), .int 0, .ref (g 14), .ref (g 15), .ref (g 16), .int 0, .int 0, .ref (g 19), .ref (g 20), .ref (g 21), .ref (g 22), .int 0, .ref (g 24), .ref (g 25), .int 0, .int 0, .ref (g 28), .ref (g 29), .ref (g 30), .ref (g 31), .ref (g 32), .int 0, .ref (g 34), .ref (g 35), .ref (g 36), .ref (g 37), .ref (g 38), .ref (g 39), .int 0, .int 0, .ref (g 42), .ref (g 43), .ref (g 44), .int 0, .ref (g 46), .ref (g 47), .ref (g 48), .int 0, .ref (g 50), .ref (g 51), .int 0, .ref (g 53), .int 0, .int 0, .ref (g 56), .int 0, .ref (g 58), .ref (g 59), .ref (g 60), .ref (g 61), .ref (g 62), .ref (g 63), .ref (g 64), .int 0, .int 0, .int 0, .ref (g 68), .ref (g 69), .ref (g 70), .ref (g 71), .ref (g 72), .ref (g 73), .int 0, .int 0, .int 0, .int 0, .int 0, .int 0, .int 0, .int 0, .ref (g 82), .ref (g 83), .ref (g 84), .ref (g 85)] rfl (sj_sub hH [0] rfl rfl) (sj_Knil hK) (Nat.le_of_ble_eq_true rfl) (Nat.le_of_ble_eq_true rfl) dX12_world_46
      · skip
        refine lv_aload_n hx hb dX12_world_14 rfl (lv_at hl 0 rfl) ?_
        refine va_get (D := D) (ci := 12) (v := .ref (g 83)) (C := RX12) (T := TX12) (N := 86) hx hb hts in12 hown hK hH.1 0 rfl rfl 83 (by decide) wd1 (fun _ h9 => h9) rfl dX12_world_15 ?_
        refine lv_iload_n hx hb dX12_world_18 rfl (lv_at hl 1 rfl) ?_
        refine lv_if_lt (tgt := 27) hx hb dX12_world_19 (by decide) (fun h => absurd h (by decide)) (fun _ => ?_)
        refine lv_iload_n hx hb dX12_world_22 rfl (lv_at hl 1 rfl) ?_
        refine lv_iconst (v := 2) hx hb dX12_world_23 (by decide) ?_
        refine lv_icmp_le (tgt := 31) hx hb dX12_world_24 (by decide) (fun _ => ?_) (fun h => absurd (by decide) h)
        refine lv_iload_n hx hb dX12_world_31 rfl (lv_at hl 1 rfl) ?_
        refine va_iald hx hb hK hH.1 1 0 rfl rfl (sj_vin (by decide) (by decide)) dX12_world_32 ?_
        refine sj_i (y := (-1)) (rfl) ?_
        refine lv_if_ge (tgt := 40) hx hb dX12_world_33 (by decide) (fun h => absurd h (by decide)) (fun _ => ?_)
        refine lv_dconst0 hx hb dX12_world_36 ?_
        refine lv_goto (tgt := 46) hx hb dX12_world_37 (by decide) ?_
        exact sj_dret hx hb hr hlocks hS [.int 0, .ref (g 1), .int 0, .ref (g 3), .int 0, .ref (g 5), .int 0, .int 0, .int 0, .int 0, .int 0, .int 0, .ref (g 12), .int 0, .ref (g 14), .ref (g 15), .ref (g 16), .int 0, .int 0, .ref (g 19), .ref (g 20), .ref (g 21), .ref (g 22), .int 0, .ref (g 24), .ref (g 25), .int 0, .int 0, .ref (g 28), .ref (g 29), .ref (g 30), .ref (g 31), .ref (g 32), .int 0, .ref (g 34), .ref (g 35), .ref (g 36), .ref (g 37), .ref (g 38), .ref (g 39), .int 0, .int 0, .ref (g 42), .ref (g 43), .ref (g 44), .int 0, .ref (g 46), .ref (g 47), .ref (g 48), .int 0, .ref (g 50), .ref (g 51), .int 0, .ref (g 53), .int 0, .int 0, .ref (g 56), .int 0, .ref (g 58), .ref (g 59), .ref (g 60), .ref (g 61), .ref (g 62), .ref (g 63), .ref (g 64), .int 0, .int 0, .int 0, .ref (g 68), .ref (g 69), .ref (g 70), .ref (g 71), .ref (g 72), .ref (g 73), .int 0, .int 0, .int 0, .int 0, .int 0, .int 0, .int 0, .int 0, .ref (g 82), .ref (g 83), .ref (g 84), .ref (g 85)] rfl (sj_sub hH [0] rfl rfl) (sj_Knil hK) (Nat.le_of_ble_eq_true rfl) (Nat.le_of_ble_eq_true rfl) dX12_world_46
      · skip
        refine lv_aload_n hx hb dX12_world_14 rfl (lv_at hl 0 rfl) ?_
        refine va_get (D := D) (ci := 12) (v := .ref (g 83)) (C := RX12) (T := TX12) (N := 86) hx hb hts in12 hown hK hH.1 0 rfl rfl 83 (by decide) wd1 (fun _ h9 => h9) rfl dX12_world_15 ?_
        refine lv_iload_n hx hb dX12_world_18 rfl (lv_at hl 1 rfl) ?_
        refine lv_if_lt (tgt := 27) hx hb dX12_world_19 (by decide) (fun h => absurd h (by decide)) (fun _ => ?_)
        refine lv_iload_n hx hb dX12_world_22 rfl (lv_at hl 1 rfl) ?_
        refine lv_iconst (v := 2) hx hb dX12_world_23 (by decide) ?_
        refine lv_icmp_le (tgt := 31) hx hb dX12_world_24 (by decide) (fun _ => ?_) (fun h => absurd (by decide) h)
        refine lv_iload_n hx hb dX12_world_31 rfl (lv_at hl 1 rfl) ?_
        refine va_iald hx hb hK hH.1 1 0 rfl rfl (sj_vin (by decide) (by decide)) dX12_world_32 ?_
        refine sj_i (y := (-1)) (rfl) ?_
        refine lv_if_ge (tgt := 40) hx hb dX12_world_33 (by decide) (fun h => absurd h (by decide)) (fun _ => ?_)
        refine lv_dconst0 hx hb dX12_world_36 ?_
        refine lv_goto (tgt := 46) hx hb dX12_world_37 (by decide) ?_
        exact sj_dret hx hb hr hlocks hS [.int 0, .ref (g 1), .int 0, .ref (g 3), .int 0, .ref (g 5), .int 0, .int 0, .int 0, .int 0, .int 0, .int 0, .ref (g 12), .int 0, .ref (g 14), .ref (g 15), .ref (g 16), .int 0, .int 0, .ref (g 19), .ref (g 20), .ref (g 21), .ref (g 22), .int 0, .ref (g 24), .ref (g 25), .int 0, .int 0, .ref (g 28), .ref (g 29), .ref (g 30), .ref (g 31), .ref (g 32), .int 0, .ref (g 34), .ref (g 35), .ref (g 36), .ref (g 37), .ref (g 38), .ref (g 39), .int 0, .int 0, .ref (g 42), .ref (g 43), .ref (g 44), .int 0, .ref (g 46), .ref (g 47), .ref (g 48), .int 0, .ref (g 50), .ref (g 51), .int 0, .ref (g 53), .int 0, .int 0, .ref (g 56), .int 0, .ref (g 58), .ref (g 59), .ref (g 60), .ref (g 61), .ref (g 62), .ref (g 63), .ref (g 64), .int 0, .int 0, .int 0, .ref (g 68), .ref (g 69), .ref (g 70), .ref (g 71), .ref (g 72), .ref (g 73), .int 0, .int 0, .int 0, .int 0, .int 0, .int 0, .int 0, .int 0, .ref (g 82), .ref (g 83), .ref (g 84), .ref (g 85)] rfl (sj_sub hH [0] rfl rfl) (sj_Knil hK) (Nat.le_of_ble_eq_true rfl) (Nat.le_of_ble_eq_true rfl) dX12_world_46
set_option maxHeartbeats 4000000 in
set_option maxRecDepth 100000 in
theorem c_X12_look (l : Launch) (D : va_G) (h0 : Nat) (g : Nat → Nat) (th : Int32) (what : Int32) (sz : Nat)  : Met l yX12_look wsX12_look ({ frames := 0, cells := 0, slots := 0, locals := 0 }) (va_Pc [.ref h0, .int what] (sj_B D [(h0, .inr (12, sj_M g th))] [] sz sj_n)) (sj_Qi (S := (List Value)) D (fun r _ => r = if 0 ≤ what.toInt ∧ what.toInt ≤ 7 then 0 else -1) (fun u => [(h0, .inr (12, u))]) (fun u => []) (va_A [(h0, .inr (12, sj_M g th))] sz)) 0 0 (va_A [(h0, .inr (12, sj_M g th))] sz) := by
  refine sj_met (cc := cX12_look) (maxL := 2) (ret := (some .int)) (by decide) rfl (Nat.le_of_ble_eq_true rfl) ?_
  intro p e s m below meth c A ls hx hb hr hml hts hown hlocks hnm hA hsz hS hH hK hE hl
  have hown : s.vm.findClass RX12 = some m.cls := hown
  have in12 : ∀ w ∈ wsX120, w ∈ wsX12_look := by decide +kernel
  have wd0 := hts (.fieldLink RX12 1 "StoryDeskModel" "thrown" "I") (by decide +kernel)
  have wd1 := hts (.fieldLink RX12 57 "StoryDeskModel" "wrongs" "I") (by decide +kernel)
  have wd2 := hts (.fieldLink RX12 501 "StoryDeskModel" "told" "I") (by decide +kernel)
  have wd3 := hts (.fieldLink RX12 33 "StoryDeskModel" "dialect" "I") (by decide +kernel)
  have wd4 := hts (.fieldLink RX12 404 "StoryDeskModel" "hooks" "I") (by decide +kernel)
  have wd5 := hts (.fieldLink RX12 308 "StoryDeskModel" "defined" "I") (by decide +kernel)
  have wd6 := hts (.fieldLink RX12 165 "StoryDeskModel" "cases" "I") (by decide +kernel)
  have wd7 := hts (.fieldLink RX12 7 "StoryDeskModel" "size" "I") (by decide +kernel)
  have wd8 := hts (.fieldLink RX12 168 "StoryDeskModel" "running" "Z") (by decide +kernel)
  have hl : lv_has ls 2 [(0, .ref h0), (1, .int what)] := hl
  have hH : sj_H D A ([(h0, .inr (12, sj_M g th))] ++ []) s.heap := hH
  refine lv_aload_n hx hb dX12_look_0 rfl (lv_at hl 0 rfl) ?_
  refine lv_iconst (v := 0) hx hb dX12_look_1 (by decide) ?_
  refine sj_put (D := D) (ci := 12) (v := .int 0) (ty := .int) (C := RX12) (F := TX12) (N := 86) hx hb hts in12 tyX12 tyX12_ok nmX12 hown hK hH hS 0 rfl rfl 0 (by decide) wd0 (fun _ h9 => h9) rfl (by decide +kernel) rfl rfl (Nat.le_of_ble_eq_true rfl) dX12_look_2 (fun H locs (hH : sj_H D A ([(h0, .inr (12, sj_M g 0))] ++ []) H) hS => ?_)
  refine lv_iload_n hx hb dX12_look_5 rfl (lv_at hl 1 rfl) ?_
  refine lv_iconst (v := 4) hx hb dX12_look_6 (by decide) ?_
  refine lv_icmp_ge (tgt := 67) hx hb dX12_look_7 (by decide) (fun c_1 => ?_) (fun c_1 => ?_)
  · skip
    have d_2 := sj_geF (n := 4) (by decide) c_1
    refine lv_iload_n hx hb dX12_look_67 rfl (lv_at hl 1 rfl) ?_
    refine lv_iconst (v := 4) hx hb dX12_look_68 (by decide) ?_
    refine lv_icmp_ne (tgt := 79) hx hb dX12_look_69 (by decide) (fun c_3 => ?_) (fun c_3 => ?_)
    · skip
      have d_4 := sj_neF (n := 4) (by decide) c_3
      refine lv_iload_n hx hb dX12_look_79 rfl (lv_at hl 1 rfl) ?_
      refine lv_iconst (v := 5) hx hb dX12_look_80 (by decide) ?_
      refine lv_icmp_ne (tgt := 91) hx hb dX12_look_81 (by decide) (fun c_5 => ?_) (fun c_5 => ?_)
      · skip
        have d_6 := sj_neF (n := 5) (by decide) c_5
        refine lv_iload_n hx hb dX12_look_91 rfl (lv_at hl 1 rfl) ?_
        refine lv_bipush (v := 6) hx hb dX12_look_92 (by decide) ?_
        refine lv_icmp_ne (tgt := 104) hx hb dX12_look_94 (by decide) (fun c_7 => ?_) (fun c_7 => ?_)
        · skip
          have d_8 := sj_neF (n := 6) (by decide) c_7
          refine lv_iload_n hx hb dX12_look_104 rfl (lv_at hl 1 rfl) ?_
          refine lv_bipush (v := 7) hx hb dX12_look_105 (by decide) ?_
          refine lv_icmp_ne (tgt := 117) hx hb dX12_look_107 (by decide) (fun c_9 => ?_) (fun c_9 => ?_)
          · skip
            have d_10 := sj_neF (n := 7) (by decide) c_9
            refine lv_iconst (v := (-1)) hx hb dX12_look_117 (by decide) ?_
            exact sj_zret hx hb hr hlocks rfl hS [.int 0, .ref (g 1), .int 0, .ref (g 3), .int 0, .ref (g 5), .int 0, .int 0, .int 0, .int 0, .int 0, .int 0, .ref (g 12), .int 0, .ref (g 14), .ref (g 15), .ref (g 16), .int 0, .int 0, .ref (g 19), .ref (g 20), .ref (g 21), .ref (g 22), .int 0, .ref (g 24), .ref (g 25), .int 0, .int 0, .ref (g 28), .ref (g 29), .ref (g 30), .ref (g 31), .ref (g 32), .int 0, .ref (g 34), .ref (g 35), .ref (g 36), .ref (g 37), .ref (g 38), .ref (g 39), .int 0, .int 0, .ref (g 42), .ref (g 43), .ref (g 44), .int 0, .ref (g 46), .ref (g 47), .ref (g 48), .int 0, .ref (g 50), .ref (g 51), .int 0, .ref (g 53), .int 0, .int 0, .ref (g 56), .int 0, .ref (g 58), .ref (g 59), .ref (g 60), .ref (g 61), .ref (g 62), .ref (g 63), .ref (g 64), .int 0, .int 0, .int 0, .ref (g 68), .ref (g 69), .ref (g 70), .ref (g 71), .ref (g 72), .ref (g 73), .int 0, .int 0, .int 0, .int 0, .int 0, .int 0, .int 0, .int 0, .ref (g 82), .ref (g 83), .ref (g 84), .ref (g 85)] (by first | exact (if_pos (by omega)).symm | exact (if_neg (by omega)).symm) (sj_sub hH [0] rfl rfl) (sj_Knil hK) (Nat.le_of_ble_eq_true rfl) (Nat.le_of_ble_eq_true rfl) dX12_look_118
          · skip
            have d_11 := sj_eqF (n := 7) (by decide) c_9
            refine lv_aload_n hx hb dX12_look_110 rfl (lv_at hl 0 rfl) ?_
            refine va_get (D := D) (ci := 12) (v := .int 0) (C := RX12) (T := TX12) (N := 86) hx hb hts in12 hown hK hH.1 0 rfl rfl 6 (by decide) wd1 (fun _ h9 => h9) rfl dX12_look_111 ?_
            refine lv_goto (tgt := 118) hx hb dX12_look_114 (by decide) ?_
            exact sj_zret hx hb hr hlocks rfl hS [.int 0, .ref (g 1), .int 0, .ref (g 3), .int 0, .ref (g 5), .int 0, .int 0, .int 0, .int 0, .int 0, .int 0, .ref (g 12), .int 0, .ref (g 14), .ref (g 15), .ref (g 16), .int 0, .int 0, .ref (g 19), .ref (g 20), .ref (g 21), .ref (g 22), .int 0, .ref (g 24), .ref (g 25), .int 0, .int 0, .ref (g 28), .ref (g 29), .ref (g 30), .ref (g 31), .ref (g 32), .int 0, .ref (g 34), .ref (g 35), .ref (g 36), .ref (g 37), .ref (g 38), .ref (g 39), .int 0, .int 0, .ref (g 42), .ref (g 43), .ref (g 44), .int 0, .ref (g 46), .ref (g 47), .ref (g 48), .int 0, .ref (g 50), .ref (g 51), .int 0, .ref (g 53), .int 0, .int 0, .ref (g 56), .int 0, .ref (g 58), .ref (g 59), .ref (g 60), .ref (g 61), .ref (g 62), .ref (g 63), .ref (g 64), .int 0, .int 0, .int 0, .ref (g 68), .ref (g 69), .ref (g 70), .ref (g 71), .ref (g 72), .ref (g 73), .int 0, .int 0, .int 0, .int 0, .int 0, .int 0, .int 0, .int 0, .ref (g 82), .ref (g 83), .ref (g 84), .ref (g 85)] (by first | exact (if_pos (by omega)).symm | exact (if_neg (by omega)).symm) (sj_sub hH [0] rfl rfl) (sj_Knil hK) (Nat.le_of_ble_eq_true rfl) (Nat.le_of_ble_eq_true rfl) dX12_look_118
        · skip
          have d_12 := sj_eqF (n := 6) (by decide) c_7
          refine lv_aload_n hx hb dX12_look_97 rfl (lv_at hl 0 rfl) ?_
          refine va_get (D := D) (ci := 12) (v := .int 0) (C := RX12) (T := TX12) (N := 86) hx hb hts in12 hown hK hH.1 0 rfl rfl 81 (by decide) wd2 (fun _ h9 => h9) rfl dX12_look_98 ?_
          refine lv_goto (tgt := 118) hx hb dX12_look_101 (by decide) ?_
          exact sj_zret hx hb hr hlocks rfl hS [.int 0, .ref (g 1), .int 0, .ref (g 3), .int 0, .ref (g 5), .int 0, .int 0, .int 0, .int 0, .int 0, .int 0, .ref (g 12), .int 0, .ref (g 14), .ref (g 15), .ref (g 16), .int 0, .int 0, .ref (g 19), .ref (g 20), .ref (g 21), .ref (g 22), .int 0, .ref (g 24), .ref (g 25), .int 0, .int 0, .ref (g 28), .ref (g 29), .ref (g 30), .ref (g 31), .ref (g 32), .int 0, .ref (g 34), .ref (g 35), .ref (g 36), .ref (g 37), .ref (g 38), .ref (g 39), .int 0, .int 0, .ref (g 42), .ref (g 43), .ref (g 44), .int 0, .ref (g 46), .ref (g 47), .ref (g 48), .int 0, .ref (g 50), .ref (g 51), .int 0, .ref (g 53), .int 0, .int 0, .ref (g 56), .int 0, .ref (g 58), .ref (g 59), .ref (g 60), .ref (g 61), .ref (g 62), .ref (g 63), .ref (g 64), .int 0, .int 0, .int 0, .ref (g 68), .ref (g 69), .ref (g 70), .ref (g 71), .ref (g 72), .ref (g 73), .int 0, .int 0, .int 0, .int 0, .int 0, .int 0, .int 0, .int 0, .ref (g 82), .ref (g 83), .ref (g 84), .ref (g 85)] (by first | exact (if_pos (by omega)).symm | exact (if_neg (by omega)).symm) (sj_sub hH [0] rfl rfl) (sj_Knil hK) (Nat.le_of_ble_eq_true rfl) (Nat.le_of_ble_eq_true rfl) dX12_look_118
      · skip
        have d_13 := sj_eqF (n := 5) (by decide) c_5
        refine lv_aload_n hx hb dX12_look_84 rfl (lv_at hl 0 rfl) ?_
        refine va_get (D := D) (ci := 12) (v := .int 0) (C := RX12) (T := TX12) (N := 86) hx hb hts in12 hown hK hH.1 0 rfl rfl 7 (by decide) wd3 (fun _ h9 => h9) rfl dX12_look_85 ?_
        refine lv_goto (tgt := 118) hx hb dX12_look_88 (by decide) ?_
        exact sj_zret hx hb hr hlocks rfl hS [.int 0, .ref (g 1), .int 0, .ref (g 3), .int 0, .ref (g 5), .int 0, .int 0, .int 0, .int 0, .int 0, .int 0, .ref (g 12), .int 0, .ref (g 14), .ref (g 15), .ref (g 16), .int 0, .int 0, .ref (g 19), .ref (g 20), .ref (g 21), .ref (g 22), .int 0, .ref (g 24), .ref (g 25), .int 0, .int 0, .ref (g 28), .ref (g 29), .ref (g 30), .ref (g 31), .ref (g 32), .int 0, .ref (g 34), .ref (g 35), .ref (g 36), .ref (g 37), .ref (g 38), .ref (g 39), .int 0, .int 0, .ref (g 42), .ref (g 43), .ref (g 44), .int 0, .ref (g 46), .ref (g 47), .ref (g 48), .int 0, .ref (g 50), .ref (g 51), .int 0, .ref (g 53), .int 0, .int 0, .ref (g 56), .int 0, .ref (g 58), .ref (g 59), .ref (g 60), .ref (g 61), .ref (g 62), .ref (g 63), .ref (g 64), .int 0, .int 0, .int 0, .ref (g 68), .ref (g 69), .ref (g 70), .ref (g 71), .ref (g 72), .ref (g 73), .int 0, .int 0, .int 0, .int 0, .int 0, .int 0, .int 0, .int 0, .ref (g 82), .ref (g 83), .ref (g 84), .ref (g 85)] (by first | exact (if_pos (by omega)).symm | exact (if_neg (by omega)).symm) (sj_sub hH [0] rfl rfl) (sj_Knil hK) (Nat.le_of_ble_eq_true rfl) (Nat.le_of_ble_eq_true rfl) dX12_look_118
    · skip
      have d_14 := sj_eqF (n := 4) (by decide) c_3
      refine lv_aload_n hx hb dX12_look_72 rfl (lv_at hl 0 rfl) ?_
      refine va_get (D := D) (ci := 12) (v := .int 0) (C := RX12) (T := TX12) (N := 86) hx hb hts in12 hown hK hH.1 0 rfl rfl 67 (by decide) wd4 (fun _ h9 => h9) rfl dX12_look_73 ?_
      refine lv_goto (tgt := 118) hx hb dX12_look_76 (by decide) ?_
      exact sj_zret hx hb hr hlocks rfl hS [.int 0, .ref (g 1), .int 0, .ref (g 3), .int 0, .ref (g 5), .int 0, .int 0, .int 0, .int 0, .int 0, .int 0, .ref (g 12), .int 0, .ref (g 14), .ref (g 15), .ref (g 16), .int 0, .int 0, .ref (g 19), .ref (g 20), .ref (g 21), .ref (g 22), .int 0, .ref (g 24), .ref (g 25), .int 0, .int 0, .ref (g 28), .ref (g 29), .ref (g 30), .ref (g 31), .ref (g 32), .int 0, .ref (g 34), .ref (g 35), .ref (g 36), .ref (g 37), .ref (g 38), .ref (g 39), .int 0, .int 0, .ref (g 42), .ref (g 43), .ref (g 44), .int 0, .ref (g 46), .ref (g 47), .ref (g 48), .int 0, .ref (g 50), .ref (g 51), .int 0, .ref (g 53), .int 0, .int 0, .ref (g 56), .int 0, .ref (g 58), .ref (g 59), .ref (g 60), .ref (g 61), .ref (g 62), .ref (g 63), .ref (g 64), .int 0, .int 0, .int 0, .ref (g 68), .ref (g 69), .ref (g 70), .ref (g 71), .ref (g 72), .ref (g 73), .int 0, .int 0, .int 0, .int 0, .int 0, .int 0, .int 0, .int 0, .ref (g 82), .ref (g 83), .ref (g 84), .ref (g 85)] (by first | exact (if_pos (by omega)).symm | exact (if_neg (by omega)).symm) (sj_sub hH [0] rfl rfl) (sj_Knil hK) (Nat.le_of_ble_eq_true rfl) (Nat.le_of_ble_eq_true rfl) dX12_look_118
  · skip
    have d_15 := sj_nge (n := 4) (by decide) c_1
    refine lv_iload_n hx hb dX12_look_10 rfl (lv_at hl 1 rfl) ?_
    refine lv_if_ne (tgt := 29) hx hb dX12_look_11 (by decide) (fun c_16 => ?_) (fun c_16 => ?_)
    · skip
      have d_17 := sj_neF (n := 0) (by decide) c_16
      refine lv_iload_n hx hb dX12_look_29 rfl (lv_at hl 1 rfl) ?_
      refine lv_iconst (v := 1) hx hb dX12_look_30 (by decide) ?_
      refine lv_icmp_ne (tgt := 41) hx hb dX12_look_31 (by decide) (fun c_18 => ?_) (fun c_18 => ?_)
      · skip
        have d_19 := sj_neF (n := 1) (by decide) c_18
        refine lv_iload_n hx hb dX12_look_41 rfl (lv_at hl 1 rfl) ?_
        refine lv_iconst (v := 2) hx hb dX12_look_42 (by decide) ?_
        refine lv_icmp_ne (tgt := 53) hx hb dX12_look_43 (by decide) (fun c_20 => ?_) (fun c_20 => ?_)
        · skip
          have d_21 := sj_neF (n := 2) (by decide) c_20
          refine lv_iload_n hx hb dX12_look_53 rfl (lv_at hl 1 rfl) ?_
          refine lv_iconst (v := 3) hx hb dX12_look_54 (by decide) ?_
          refine lv_icmp_ne (tgt := 65) hx hb dX12_look_55 (by decide) (fun c_22 => ?_) (fun c_22 => ?_)
          · skip
            have d_23 := sj_neF (n := 3) (by decide) c_22
            refine lv_iconst (v := (-1)) hx hb dX12_look_65 (by decide) ?_
            exact sj_zret hx hb hr hlocks rfl hS [.int 0, .ref (g 1), .int 0, .ref (g 3), .int 0, .ref (g 5), .int 0, .int 0, .int 0, .int 0, .int 0, .int 0, .ref (g 12), .int 0, .ref (g 14), .ref (g 15), .ref (g 16), .int 0, .int 0, .ref (g 19), .ref (g 20), .ref (g 21), .ref (g 22), .int 0, .ref (g 24), .ref (g 25), .int 0, .int 0, .ref (g 28), .ref (g 29), .ref (g 30), .ref (g 31), .ref (g 32), .int 0, .ref (g 34), .ref (g 35), .ref (g 36), .ref (g 37), .ref (g 38), .ref (g 39), .int 0, .int 0, .ref (g 42), .ref (g 43), .ref (g 44), .int 0, .ref (g 46), .ref (g 47), .ref (g 48), .int 0, .ref (g 50), .ref (g 51), .int 0, .ref (g 53), .int 0, .int 0, .ref (g 56), .int 0, .ref (g 58), .ref (g 59), .ref (g 60), .ref (g 61), .ref (g 62), .ref (g 63), .ref (g 64), .int 0, .int 0, .int 0, .ref (g 68), .ref (g 69), .ref (g 70), .ref (g 71), .ref (g 72), .ref (g 73), .int 0, .int 0, .int 0, .int 0, .int 0, .int 0, .int 0, .int 0, .ref (g 82), .ref (g 83), .ref (g 84), .ref (g 85)] (by first | exact (if_pos (by omega)).symm | exact (if_neg (by omega)).symm) (sj_sub hH [0] rfl rfl) (sj_Knil hK) (Nat.le_of_ble_eq_true rfl) (Nat.le_of_ble_eq_true rfl) dX12_look_66
          · skip
            have d_24 := sj_eqF (n := 3) (by decide) c_22
            refine lv_aload_n hx hb dX12_look_58 rfl (lv_at hl 0 rfl) ?_
            refine va_get (D := D) (ci := 12) (v := .int 0) (C := RX12) (T := TX12) (N := 86) hx hb hts in12 hown hK hH.1 0 rfl rfl 41 (by decide) wd5 (fun _ h9 => h9) rfl dX12_look_59 ?_
            refine lv_goto (tgt := 66) hx hb dX12_look_62 (by decide) ?_
            exact sj_zret hx hb hr hlocks rfl hS [.int 0, .ref (g 1), .int 0, .ref (g 3), .int 0, .ref (g 5), .int 0, .int 0, .int 0, .int 0, .int 0, .int 0, .ref (g 12), .int 0, .ref (g 14), .ref (g 15), .ref (g 16), .int 0, .int 0, .ref (g 19), .ref (g 20), .ref (g 21), .ref (g 22), .int 0, .ref (g 24), .ref (g 25), .int 0, .int 0, .ref (g 28), .ref (g 29), .ref (g 30), .ref (g 31), .ref (g 32), .int 0, .ref (g 34), .ref (g 35), .ref (g 36), .ref (g 37), .ref (g 38), .ref (g 39), .int 0, .int 0, .ref (g 42), .ref (g 43), .ref (g 44), .int 0, .ref (g 46), .ref (g 47), .ref (g 48), .int 0, .ref (g 50), .ref (g 51), .int 0, .ref (g 53), .int 0, .int 0, .ref (g 56), .int 0, .ref (g 58), .ref (g 59), .ref (g 60), .ref (g 61), .ref (g 62), .ref (g 63), .ref (g 64), .int 0, .int 0, .int 0, .ref (g 68), .ref (g 69), .ref (g 70), .ref (g 71), .ref (g 72), .ref (g 73), .int 0, .int 0, .int 0, .int 0, .int 0, .int 0, .int 0, .int 0, .ref (g 82), .ref (g 83), .ref (g 84), .ref (g 85)] (by first | exact (if_pos (by omega)).symm | exact (if_neg (by omega)).symm) (sj_sub hH [0] rfl rfl) (sj_Knil hK) (Nat.le_of_ble_eq_true rfl) (Nat.le_of_ble_eq_true rfl) dX12_look_66
        · skip
          have d_25 := sj_eqF (n := 2) (by decide) c_20
          refine lv_aload_n hx hb dX12_look_46 rfl (lv_at hl 0 rfl) ?_
          refine va_get (D := D) (ci := 12) (v := .int 0) (C := RX12) (T := TX12) (N := 86) hx hb hts in12 hown hK hH.1 0 rfl rfl 33 (by decide) wd6 (fun _ h9 => h9) rfl dX12_look_47 ?_
          refine lv_goto (tgt := 66) hx hb dX12_look_50 (by decide) ?_
          exact sj_zret hx hb hr hlocks rfl hS [.int 0, .ref (g 1), .int 0, .ref (g 3), .int 0, .ref (g 5), .int 0, .int 0, .int 0, .int 0, .int 0, .int 0, .ref (g 12), .int 0, .ref (g 14), .ref (g 15), .ref (g 16), .int 0, .int 0, .ref (g 19), .ref (g 20), .ref (g 21), .ref (g 22), .int 0, .ref (g 24), .ref (g 25), .int 0, .int 0, .ref (g 28), .ref (g 29), .ref (g 30), .ref (g 31), .ref (g 32), .int 0, .ref (g 34), .ref (g 35), .ref (g 36), .ref (g 37), .ref (g 38), .ref (g 39), .int 0, .int 0, .ref (g 42), .ref (g 43), .ref (g 44), .int 0, .ref (g 46), .ref (g 47), .ref (g 48), .int 0, .ref (g 50), .ref (g 51), .int 0, .ref (g 53), .int 0, .int 0, .ref (g 56), .int 0, .ref (g 58), .ref (g 59), .ref (g 60), .ref (g 61), .ref (g 62), .ref (g 63), .ref (g 64), .int 0, .int 0, .int 0, .ref (g 68), .ref (g 69), .ref (g 70), .ref (g 71), .ref (g 72), .ref (g 73), .int 0, .int 0, .int 0, .int 0, .int 0, .int 0, .int 0, .int 0, .ref (g 82), .ref (g 83), .ref (g 84), .ref (g 85)] (by first | exact (if_pos (by omega)).symm | exact (if_neg (by omega)).symm) (sj_sub hH [0] rfl rfl) (sj_Knil hK) (Nat.le_of_ble_eq_true rfl) (Nat.le_of_ble_eq_true rfl) dX12_look_66
      · skip
        have d_26 := sj_eqF (n := 1) (by decide) c_18
        refine lv_aload_n hx hb dX12_look_34 rfl (lv_at hl 0 rfl) ?_
        refine va_get (D := D) (ci := 12) (v := .int 0) (C := RX12) (T := TX12) (N := 86) hx hb hts in12 hown hK hH.1 0 rfl rfl 2 (by decide) wd7 (fun _ h9 => h9) rfl dX12_look_35 ?_
        refine lv_goto (tgt := 66) hx hb dX12_look_38 (by decide) ?_
        exact sj_zret hx hb hr hlocks rfl hS [.int 0, .ref (g 1), .int 0, .ref (g 3), .int 0, .ref (g 5), .int 0, .int 0, .int 0, .int 0, .int 0, .int 0, .ref (g 12), .int 0, .ref (g 14), .ref (g 15), .ref (g 16), .int 0, .int 0, .ref (g 19), .ref (g 20), .ref (g 21), .ref (g 22), .int 0, .ref (g 24), .ref (g 25), .int 0, .int 0, .ref (g 28), .ref (g 29), .ref (g 30), .ref (g 31), .ref (g 32), .int 0, .ref (g 34), .ref (g 35), .ref (g 36), .ref (g 37), .ref (g 38), .ref (g 39), .int 0, .int 0, .ref (g 42), .ref (g 43), .ref (g 44), .int 0, .ref (g 46), .ref (g 47), .ref (g 48), .int 0, .ref (g 50), .ref (g 51), .int 0, .ref (g 53), .int 0, .int 0, .ref (g 56), .int 0, .ref (g 58), .ref (g 59), .ref (g 60), .ref (g 61), .ref (g 62), .ref (g 63), .ref (g 64), .int 0, .int 0, .int 0, .ref (g 68), .ref (g 69), .ref (g 70), .ref (g 71), .ref (g 72), .ref (g 73), .int 0, .int 0, .int 0, .int 0, .int 0, .int 0, .int 0, .int 0, .ref (g 82), .ref (g 83), .ref (g 84), .ref (g 85)] (by first | exact (if_pos (by omega)).symm | exact (if_neg (by omega)).symm) (sj_sub hH [0] rfl rfl) (sj_Knil hK) (Nat.le_of_ble_eq_true rfl) (Nat.le_of_ble_eq_true rfl) dX12_look_66
    · skip
      have d_27 := sj_eqF (n := 0) (by decide) c_16
      refine lv_aload_n hx hb dX12_look_14 rfl (lv_at hl 0 rfl) ?_
      refine va_get (D := D) (ci := 12) (v := .int 0) (C := RX12) (T := TX12) (N := 86) hx hb hts in12 hown hK hH.1 0 rfl rfl 76 (by decide) wd8 (fun _ h9 => h9) rfl dX12_look_15 ?_
      refine lv_if_eq (tgt := 25) hx hb dX12_look_18 (by decide) (fun _ => ?_) (fun h => absurd (by decide) h)
      refine lv_iconst (v := 0) hx hb dX12_look_25 (by decide) ?_
      refine lv_goto (tgt := 66) hx hb dX12_look_26 (by decide) ?_
      exact sj_zret hx hb hr hlocks rfl hS [.int 0, .ref (g 1), .int 0, .ref (g 3), .int 0, .ref (g 5), .int 0, .int 0, .int 0, .int 0, .int 0, .int 0, .ref (g 12), .int 0, .ref (g 14), .ref (g 15), .ref (g 16), .int 0, .int 0, .ref (g 19), .ref (g 20), .ref (g 21), .ref (g 22), .int 0, .ref (g 24), .ref (g 25), .int 0, .int 0, .ref (g 28), .ref (g 29), .ref (g 30), .ref (g 31), .ref (g 32), .int 0, .ref (g 34), .ref (g 35), .ref (g 36), .ref (g 37), .ref (g 38), .ref (g 39), .int 0, .int 0, .ref (g 42), .ref (g 43), .ref (g 44), .int 0, .ref (g 46), .ref (g 47), .ref (g 48), .int 0, .ref (g 50), .ref (g 51), .int 0, .ref (g 53), .int 0, .int 0, .ref (g 56), .int 0, .ref (g 58), .ref (g 59), .ref (g 60), .ref (g 61), .ref (g 62), .ref (g 63), .ref (g 64), .int 0, .int 0, .int 0, .ref (g 68), .ref (g 69), .ref (g 70), .ref (g 71), .ref (g 72), .ref (g 73), .int 0, .int 0, .int 0, .int 0, .int 0, .int 0, .int 0, .int 0, .ref (g 82), .ref (g 83), .ref (g 84), .ref (g 85)] (by first | exact (if_pos (by omega)).symm | exact (if_neg (by omega)).symm) (sj_sub hH [0] rfl rfl) (sj_Knil hK) (Nat.le_of_ble_eq_true rfl) (Nat.le_of_ble_eq_true rfl) dX12_look_66
