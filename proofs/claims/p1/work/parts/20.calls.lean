theorem dX11_error_0 : decode cX11_error 0 = .ok (.iload_n 1, 1) := by decide +kernel
theorem dX11_error_1 : decode cX11_error 1 = .ok (.ifCond .lt 23, 3) := by decide +kernel
theorem dX11_error_24 : decode cX11_error 24 = .ok (.new 105, 3) := by decide +kernel
theorem dX11_error_27 : decode cX11_error 27 = .ok (.dup, 1) := by decide +kernel
theorem dX11_error_28 : decode cX11_error 28 = .ok (.invokespecial 107, 3) := by decide +kernel
theorem dX11_error_31 : decode cX11_error 31 = .ok (.athrow, 1) := by decide +kernel
theorem dX11_error_4 : decode cX11_error 4 = .ok (.iload_n 1, 1) := by decide +kernel
theorem dX11_error_5 : decode cX11_error 5 = .ok (.aload_n 0, 1) := by decide +kernel
theorem dX11_error_6 : decode cX11_error 6 = .ok (.getfield 21, 3) := by decide +kernel
theorem dX11_error_9 : decode cX11_error 9 = .ok (.getfield 102, 3) := by decide +kernel
theorem dX11_error_12 : decode cX11_error 12 = .ok (.if_icmp .ge 12, 3) := by decide +kernel
theorem dX11_story_0 : decode cX11_story 0 = .ok (.iload_n 1, 1) := by decide +kernel
theorem dX11_story_1 : decode cX11_story 1 = .ok (.ifCond .lt 23, 3) := by decide +kernel
theorem dX11_story_24 : decode cX11_story 24 = .ok (.new 105, 3) := by decide +kernel
theorem dX11_story_27 : decode cX11_story 27 = .ok (.dup, 1) := by decide +kernel
theorem dX11_story_28 : decode cX11_story 28 = .ok (.invokespecial 107, 3) := by decide +kernel
theorem dX11_story_31 : decode cX11_story 31 = .ok (.athrow, 1) := by decide +kernel
theorem dX11_story_4 : decode cX11_story 4 = .ok (.iload_n 1, 1) := by decide +kernel
theorem dX11_story_5 : decode cX11_story 5 = .ok (.aload_n 0, 1) := by decide +kernel
theorem dX11_story_6 : decode cX11_story 6 = .ok (.getfield 30, 3) := by decide +kernel
theorem dX11_story_9 : decode cX11_story 9 = .ok (.getfield 134, 3) := by decide +kernel
theorem dX11_story_12 : decode cX11_story 12 = .ok (.if_icmp .ge 12, 3) := by decide +kernel
theorem dX1_hasStep_0 : decode cX1_hasStep 0 = .ok (.iload_n 1, 1) := by decide +kernel
theorem dX1_hasStep_1 : decode cX1_hasStep 1 = .ok (.ifCond .lt 33, 3) := by decide +kernel
theorem dX1_hasStep_34 : decode cX1_hasStep 34 = .ok (.iconst 0, 1) := by decide +kernel
theorem dX1_hasStep_35 : decode cX1_hasStep 35 = .ok (.ireturn, 1) := by decide +kernel
theorem dX1_hasStep_4 : decode cX1_hasStep 4 = .ok (.iload_n 1, 1) := by decide +kernel
theorem dX1_hasStep_5 : decode cX1_hasStep 5 = .ok (.aload_n 0, 1) := by decide +kernel
theorem dX1_hasStep_6 : decode cX1_hasStep 6 = .ok (.getfield 34, 3) := by decide +kernel
theorem dX1_hasStep_9 : decode cX1_hasStep 9 = .ok (.if_icmp .ge 25, 3) := by decide +kernel
theorem dX11_step_0 : decode cX11_step 0 = .ok (.iload_n 3, 1) := by decide +kernel
theorem dX11_step_1 : decode cX11_step 1 = .ok (.bipush 100, 2) := by decide +kernel
theorem dX11_step_3 : decode cX11_step 3 = .ok (.if_icmp .lt 14, 3) := by decide +kernel
theorem dX11_step_17 : decode cX11_step 17 = .ok (.iconst 0, 1) := by decide +kernel
theorem dX11_step_18 : decode cX11_step 18 = .ok (.istore 4, 2) := by decide +kernel
theorem dX11_step_20 : decode cX11_step 20 = .ok (.aload_n 0, 1) := by decide +kernel
theorem dX11_step_21 : decode cX11_step 21 = .ok (.getfield 30, 3) := by decide +kernel
theorem dX11_step_24 : decode cX11_step 24 = .ok (.iload_n 1, 1) := by decide +kernel
theorem dX11_step_25 : decode cX11_step 25 = .ok (.iload_n 2, 1) := by decide +kernel
theorem dX11_step_26 : decode cX11_step 26 = .ok (.invokevirtual 176, 3) := by decide +kernel
theorem dX11_step_29 : decode cX11_step 29 = .ok (.ifCond .eq 17, 3) := by decide +kernel
theorem dX11_step_46 : decode cX11_step 46 = .ok (.new 105, 3) := by decide +kernel
theorem dX11_step_49 : decode cX11_step 49 = .ok (.dup, 1) := by decide +kernel
theorem dX11_step_50 : decode cX11_step 50 = .ok (.invokespecial 107, 3) := by decide +kernel
theorem dX11_step_53 : decode cX11_step 53 = .ok (.athrow, 1) := by decide +kernel
theorem dX11_step_6 : decode cX11_step 6 = .ok (.iload_n 3, 1) := by decide +kernel
theorem dX11_step_7 : decode cX11_step 7 = .ok (.sipush 160, 3) := by decide +kernel
theorem dX11_step_10 : decode cX11_step 10 = .ok (.if_icmp .gt 7, 3) := by decide +kernel
theorem dX11_step_13 : decode cX11_step 13 = .ok (.iconst 1, 1) := by decide +kernel
theorem dX11_step_14 : decode cX11_step 14 = .ok (.goto 4, 3) := by decide +kernel
theorem dX11_argument_0 : decode cX11_argument 0 = .ok (.aload_n 0, 1) := by decide +kernel
theorem dX11_argument_1 : decode cX11_argument 1 = .ok (.getfield 30, 3) := by decide +kernel
theorem dX11_argument_4 : decode cX11_argument 4 = .ok (.iload_n 1, 1) := by decide +kernel
theorem dX11_argument_5 : decode cX11_argument 5 = .ok (.iload_n 2, 1) := by decide +kernel
theorem dX11_argument_6 : decode cX11_argument 6 = .ok (.invokevirtual 176, 3) := by decide +kernel
theorem dX11_argument_9 : decode cX11_argument 9 = .ok (.ifCond .ne 11, 3) := by decide +kernel
theorem dX11_argument_12 : decode cX11_argument 12 = .ok (.new 105, 3) := by decide +kernel
theorem dX11_argument_15 : decode cX11_argument 15 = .ok (.dup, 1) := by decide +kernel
theorem dX11_argument_16 : decode cX11_argument 16 = .ok (.invokespecial 107, 3) := by decide +kernel
theorem dX11_argument_19 : decode cX11_argument 19 = .ok (.athrow, 1) := by decide +kernel
theorem dX11_cell_0 : decode cX11_cell 0 = .ok (.aload_n 0, 1) := by decide +kernel
theorem dX11_cell_1 : decode cX11_cell 1 = .ok (.getfield 30, 3) := by decide +kernel
theorem dX11_cell_4 : decode cX11_cell 4 = .ok (.iload_n 1, 1) := by decide +kernel
theorem dX11_cell_5 : decode cX11_cell 5 = .ok (.iload_n 2, 1) := by decide +kernel
theorem dX11_cell_6 : decode cX11_cell 6 = .ok (.invokevirtual 176, 3) := by decide +kernel
theorem dX11_cell_9 : decode cX11_cell 9 = .ok (.ifCond .eq 15, 3) := by decide +kernel
theorem dX11_cell_24 : decode cX11_cell 24 = .ok (.new 105, 3) := by decide +kernel
theorem dX11_cell_27 : decode cX11_cell 27 = .ok (.dup, 1) := by decide +kernel
theorem dX11_cell_28 : decode cX11_cell 28 = .ok (.invokespecial 107, 3) := by decide +kernel
theorem dX11_cell_31 : decode cX11_cell 31 = .ok (.athrow, 1) := by decide +kernel
theorem dX11_go_0 : decode cX11_go 0 = .ok (.iload_n 1, 1) := by decide +kernel
theorem dX11_go_1 : decode cX11_go 1 = .ok (.iconst 1, 1) := by decide +kernel
theorem dX11_go_2 : decode cX11_go 2 = .ok (.if_icmp .lt 9, 3) := by decide +kernel
theorem dX11_go_11 : decode cX11_go 11 = .ok (.iconst (-1), 1) := by decide +kernel
theorem dX11_go_12 : decode cX11_go 12 = .ok (.ireturn, 1) := by decide +kernel
theorem dX11_go_5 : decode cX11_go 5 = .ok (.iload_n 1, 1) := by decide +kernel
theorem dX11_go_6 : decode cX11_go 6 = .ok (.bipush 40, 2) := by decide +kernel
theorem dX11_go_8 : decode cX11_go 8 = .ok (.if_icmp .le 5, 3) := by decide +kernel
theorem dX11_go_13 : decode cX11_go 13 = .ok (.iconst 0, 1) := by decide +kernel
theorem dX11_go_14 : decode cX11_go 14 = .ok (.istore_n 2, 1) := by decide +kernel
theorem dX11_go_15 : decode cX11_go 15 = .ok (.iload_n 2, 1) := by decide +kernel
theorem dX11_go_16 : decode cX11_go 16 = .ok (.iload_n 1, 1) := by decide +kernel
theorem dX11_go_17 : decode cX11_go 17 = .ok (.if_icmp .ge 45, 3) := by decide +kernel
theorem dX11_go_20 : decode cX11_go 20 = .ok (.aload_n 0, 1) := by decide +kernel
theorem dX11_go_21 : decode cX11_go 21 = .ok (.getfield 44, 3) := by decide +kernel
theorem dX11_go_24 : decode cX11_go 24 = .ok (.getfield 88, 3) := by decide +kernel
theorem dX11_go_27 : decode cX11_go 27 = .ok (.ifCond .eq 35, 3) := by decide +kernel
theorem dX11_go_62 : decode cX11_go 62 = .ok (.iload_n 2, 1) := by decide +kernel
theorem dX11_go_63 : decode cX11_go 63 = .ok (.ireturn, 1) := by decide +kernel
theorem dX7_told_0 : decode cX7_told 0 = .ok (.iload_n 1, 1) := by decide +kernel
theorem dX7_told_1 : decode cX7_told 1 = .ok (.ifCond .lt 26, 3) := by decide +kernel
theorem dX7_told_27 : decode cX7_told 27 = .ok (.iconst (-1), 1) := by decide +kernel
theorem dX7_told_28 : decode cX7_told 28 = .ok (.ireturn, 1) := by decide +kernel
theorem dX7_told_4 : decode cX7_told 4 = .ok (.iload_n 1, 1) := by decide +kernel
theorem dX7_told_5 : decode cX7_told 5 = .ok (.bipush 64, 2) := by decide +kernel
theorem dX7_told_7 : decode cX7_told 7 = .ok (.if_icmp .ge 20, 3) := by decide +kernel
theorem dX7_told_10 : decode cX7_told 10 = .ok (.iload_n 1, 1) := by decide +kernel
theorem dX7_told_11 : decode cX7_told 11 = .ok (.aload_n 0, 1) := by decide +kernel
theorem dX7_told_12 : decode cX7_told 12 = .ok (.getfield 75, 3) := by decide +kernel
theorem dX7_told_15 : decode cX7_told 15 = .ok (.if_icmp .ge 12, 3) := by decide +kernel
theorem dX11_event_0 : decode cX11_event 0 = .ok (.aload_n 0, 1) := by decide +kernel
theorem dX11_event_1 : decode cX11_event 1 = .ok (.getfield 44, 3) := by decide +kernel
theorem dX11_event_4 : decode cX11_event 4 = .ok (.iload_n 1, 1) := by decide +kernel
theorem dX11_event_5 : decode cX11_event 5 = .ok (.iload_n 2, 1) := by decide +kernel
theorem dX11_event_6 : decode cX11_event 6 = .ok (.invokevirtual 253, 3) := by decide +kernel
theorem dX11_event_9 : decode cX11_event 9 = .ok (.ireturn, 1) := by decide +kernel
theorem dX11_look_0 : decode cX11_look 0 = .ok (.iload_n 1, 1) := by decide +kernel
theorem dX11_look_1 : decode cX11_look 1 = .ok (.tableswitch 113 0 7 #[47, 63, 71, 79, 84, 89, 97, 105], 47) := by decide +kernel
theorem dX11_look_48 : decode cX11_look 48 = .ok (.aload_n 0, 1) := by decide +kernel
theorem dX11_look_49 : decode cX11_look 49 = .ok (.getfield 44, 3) := by decide +kernel
theorem dX11_look_52 : decode cX11_look 52 = .ok (.getfield 88, 3) := by decide +kernel
theorem dX11_look_55 : decode cX11_look 55 = .ok (.ifCond .eq 7, 3) := by decide +kernel
theorem dX11_look_62 : decode cX11_look 62 = .ok (.iconst 0, 1) := by decide +kernel
theorem dX11_look_63 : decode cX11_look 63 = .ok (.ireturn, 1) := by decide +kernel
theorem dX11_look_64 : decode cX11_look 64 = .ok (.aload_n 0, 1) := by decide +kernel
theorem dX11_look_65 : decode cX11_look 65 = .ok (.getfield 14, 3) := by decide +kernel
theorem dX11_look_68 : decode cX11_look 68 = .ok (.getfield 80, 3) := by decide +kernel
theorem dX11_look_71 : decode cX11_look 71 = .ok (.ireturn, 1) := by decide +kernel
theorem dX11_look_72 : decode cX11_look 72 = .ok (.aload_n 0, 1) := by decide +kernel
theorem dX11_look_73 : decode cX11_look 73 = .ok (.getfield 30, 3) := by decide +kernel
theorem dX11_look_76 : decode cX11_look 76 = .ok (.getfield 134, 3) := by decide +kernel
theorem dX11_look_79 : decode cX11_look 79 = .ok (.ireturn, 1) := by decide +kernel
theorem dX11_look_80 : decode cX11_look 80 = .ok (.aload_n 0, 1) := by decide +kernel
theorem dX11_look_81 : decode cX11_look 81 = .ok (.getfield 114, 3) := by decide +kernel
theorem dX11_look_84 : decode cX11_look 84 = .ok (.ireturn, 1) := by decide +kernel
theorem dX11_look_85 : decode cX11_look 85 = .ok (.aload_n 0, 1) := by decide +kernel
theorem dX11_look_86 : decode cX11_look 86 = .ok (.getfield 130, 3) := by decide +kernel
theorem dX11_look_89 : decode cX11_look 89 = .ok (.ireturn, 1) := by decide +kernel
theorem dX11_look_90 : decode cX11_look 90 = .ok (.aload_n 0, 1) := by decide +kernel
theorem dX11_look_91 : decode cX11_look 91 = .ok (.getfield 21, 3) := by decide +kernel
theorem dX11_look_94 : decode cX11_look 94 = .ok (.getfield 266, 3) := by decide +kernel
theorem dX11_look_97 : decode cX11_look 97 = .ok (.ireturn, 1) := by decide +kernel
theorem dX11_look_98 : decode cX11_look 98 = .ok (.aload_n 0, 1) := by decide +kernel
theorem dX11_look_99 : decode cX11_look 99 = .ok (.getfield 44, 3) := by decide +kernel
theorem dX11_look_102 : decode cX11_look 102 = .ok (.getfield 269, 3) := by decide +kernel
theorem dX11_look_105 : decode cX11_look 105 = .ok (.ireturn, 1) := by decide +kernel
theorem dX11_look_106 : decode cX11_look 106 = .ok (.aload_n 0, 1) := by decide +kernel
theorem dX11_look_107 : decode cX11_look 107 = .ok (.getfield 21, 3) := by decide +kernel
theorem dX11_look_110 : decode cX11_look 110 = .ok (.getfield 102, 3) := by decide +kernel
theorem dX11_look_113 : decode cX11_look 113 = .ok (.ireturn, 1) := by decide +kernel
theorem dX11_look_114 : decode cX11_look 114 = .ok (.iconst (-1), 1) := by decide +kernel
theorem dX11_look_115 : decode cX11_look 115 = .ok (.ireturn, 1) := by decide +kernel
theorem dX11_world_0 : decode cX11_world 0 = .ok (.iload_n 1, 1) := by decide +kernel
theorem dX11_world_1 : decode cX11_world 1 = .ok (.ifCond .lt 23, 3) := by decide +kernel
theorem dX11_world_24 : decode cX11_world 24 = .ok (.dconst 0, 1) := by decide +kernel
theorem dX11_world_25 : decode cX11_world 25 = .ok (.dreturn, 1) := by decide +kernel
theorem dX11_world_4 : decode cX11_world 4 = .ok (.iload_n 1, 1) := by decide +kernel
theorem dX11_world_5 : decode cX11_world 5 = .ok (.iconst 3, 1) := by decide +kernel
theorem dX11_world_6 : decode cX11_world 6 = .ok (.if_icmp .ge 18, 3) := by decide +kernel
theorem dX11_world_9 : decode cX11_world 9 = .ok (.aload_n 0, 1) := by decide +kernel
theorem dX11_world_10 : decode cX11_world 10 = .ok (.getfield 44, 3) := by decide +kernel
theorem dX11_world_13 : decode cX11_world 13 = .ok (.getfield 242, 3) := by decide +kernel
theorem dX11_world_16 : decode cX11_world 16 = .ok (.iload_n 1, 1) := by decide +kernel
theorem dX11_world_17 : decode cX11_world 17 = .ok (.aaload, 1) := by decide +kernel
theorem dX11_world_18 : decode cX11_world 18 = .ok (.getfield 257, 3) := by decide +kernel
theorem dX11_world_21 : decode cX11_world 21 = .ok (.ifCond .ge 5, 3) := by decide +kernel
set_option maxRecDepth 20000 in
theorem ggX11_step_X1_hasStep : GoodIn wsX11_step wsX1_hasStep := goodIn_r _ [12, 13, 14, 15, 16, 17, 11, 18, 19, 20, 21, 22, 23, 24, 25, 26, 27, 143, 144, 145, 146, 147, 157, 158, 159, 160, 161, 148, 149, 150, 151, 152, 153, 154, 155, 156, 162, 163, 164, 165, 166, 167, 168, 169, 170, 171, 172, 173, 174, 175, 176, 177, 178, 179, 180] (by decide +kernel) (by decide +kernel)
set_option maxRecDepth 20000 in
theorem gX11_step_X1_hasStep : GoodIn wsX11_step (wsV RX11 176 RX1 yX1_hasStep wsX1_hasStep) := goodIn_app (goodIn_of _ (by decide +kernel)) ggX11_step_X1_hasStep
set_option maxRecDepth 20000 in
theorem ggX11_argument_X1_hasStep : GoodIn wsX11_argument wsX1_hasStep := goodIn_r _ [15, 16, 17, 18, 19, 20, 14, 21, 22, 23, 24, 25, 26, 27, 28, 29, 30, 159, 160, 161, 162, 163, 175, 176, 177, 178, 179, 180, 181, 182, 183, 184, 185, 186, 187, 188, 189, 190, 191, 192, 193, 194, 195, 196, 197, 198, 199, 200, 201, 202, 203, 204, 205, 206, 207] (by decide +kernel) (by decide +kernel)
set_option maxRecDepth 20000 in
theorem gX11_argument_X1_hasStep : GoodIn wsX11_argument (wsV RX11 176 RX1 yX1_hasStep wsX1_hasStep) := goodIn_app (goodIn_of _ (by decide +kernel)) ggX11_argument_X1_hasStep
set_option maxRecDepth 20000 in
theorem ggX11_cell_X1_hasStep : GoodIn wsX11_cell wsX1_hasStep := goodIn_r _ [10, 11, 12, 13, 14, 15, 9, 16, 17, 18, 19, 20, 21, 22, 23, 24, 25, 87, 88, 89, 90, 91, 92, 93, 94, 95, 96, 97, 98, 99, 100, 101, 102, 103, 104, 105, 106, 107, 108, 109, 110, 111, 112, 113, 114, 115, 116, 117, 118, 119, 120, 121, 122, 123, 124] (by decide +kernel) (by decide +kernel)
set_option maxRecDepth 20000 in
theorem gX11_cell_X1_hasStep : GoodIn wsX11_cell (wsV RX11 176 RX1 yX1_hasStep wsX1_hasStep) := goodIn_app (goodIn_of _ (by decide +kernel)) ggX11_cell_X1_hasStep
set_option maxRecDepth 20000 in
theorem ggX11_event_X7_told : GoodIn wsX11_event wsX7_told := goodIn_r _ [6, 7, 8, 23, 24, 25, 26, 27, 28, 29, 30, 31, 32, 33] (by decide +kernel) (by decide +kernel)
set_option maxRecDepth 20000 in
theorem gX11_event_X7_told : GoodIn wsX11_event (wsV RX11 253 RX7 yX7_told wsX7_told) := goodIn_app (goodIn_of _ (by decide +kernel)) ggX11_event_X7_told
def sj_f3 (a b c : Nat) : Nat → Option Nat := fun j => if j = 0 then some a else if j = 1 then some b else if j = 2 then some c else none
set_option maxHeartbeats 4000000 in
set_option maxRecDepth 100000 in
/-- error on a new StoryDesk: none such -/
theorem c_X11_error (l : Launch) (hl0 : l.stackTraces = false) (D : va_G) (h0 : Nat) (k : Int32) (what : Int32) (d_text : Nat) (d_reading : Nat) (d_cases : Nat) (d_scripts : Nat) (d_run : Nat) (d_definitions : Nat) (d_definitionScripts : Nat) (d_hookTags : Nat) (d_hookBefore : Nat) (d_hookScripts : Nat) (d_filterInUse : Nat) (d_filterToTry : Nat) (e_source : Nat) (e_errorLines : Nat) (e_errorNumbers : Nat) (e_sections : Nat) (e_scenarios : Nat) (e_steps : Nat) (e_examples : Nat) (e_rows : Nat) (e_owner : Nat) (e_table : Nat) (sz : Nat)  : vx_Met l yX11_error wsX11_error ({ frames := 6, cells := 1, slots := 6, locals := 90 }) (va_Pc [.ref h0, .int k, .int what] (sj_B D [(h0, .inr (11, [.ref d_text, .ref d_reading, .ref d_cases, .ref d_scripts, .ref d_run, .ref d_definitions, .ref d_definitionScripts, .int 0, .ref d_hookTags, .ref d_hookBefore, .ref d_hookScripts, .int 0, .ref d_filterInUse, .ref d_filterToTry])), (d_reading, .inr (5, [.ref e_source, .int 0, .ref e_errorLines, .ref e_errorNumbers, .int 0, .ref e_sections, .int 0, .ref e_scenarios, .int 0, .ref e_steps, .int 0, .ref e_examples, .int 0, .ref e_rows, .int 0, .int 0, .int 0, .ref e_owner, .ref e_table]))] [] sz (sj_xt "java/lang/IndexOutOfBoundsException" (va_A [(h0, .inr (11, [.ref d_text, .ref d_reading, .ref d_cases, .ref d_scripts, .ref d_run, .ref d_definitions, .ref d_definitionScripts, .int 0, .ref d_hookTags, .ref d_hookBefore, .ref d_hookScripts, .int 0, .ref d_filterInUse, .ref d_filterToTry])), (d_reading, .inr (5, [.ref e_source, .int 0, .ref e_errorLines, .ref e_errorNumbers, .int 0, .ref e_sections, .int 0, .ref e_scenarios, .int 0, .ref e_steps, .int 0, .ref e_examples, .int 0, .ref e_rows, .int 0, .int 0, .int 0, .ref e_owner, .ref e_table]))] sz)))) (sj_Qi (S := Unit) D (fun _ _ => False) (fun u => []) (fun u => []) (va_A [(h0, .inr (11, [.ref d_text, .ref d_reading, .ref d_cases, .ref d_scripts, .ref d_run, .ref d_definitions, .ref d_definitionScripts, .int 0, .ref d_hookTags, .ref d_hookBefore, .ref d_hookScripts, .int 0, .ref d_filterInUse, .ref d_filterToTry])), (d_reading, .inr (5, [.ref e_source, .int 0, .ref e_errorLines, .ref e_errorNumbers, .int 0, .ref e_sections, .int 0, .ref e_scenarios, .int 0, .ref e_steps, .int 0, .ref e_examples, .int 0, .ref e_rows, .int 0, .int 0, .int 0, .ref e_owner, .ref e_table]))] sz)) (sj_XC "java/lang/IndexOutOfBoundsException" (True) (va_A [(h0, .inr (11, [.ref d_text, .ref d_reading, .ref d_cases, .ref d_scripts, .ref d_run, .ref d_definitions, .ref d_definitionScripts, .int 0, .ref d_hookTags, .ref d_hookBefore, .ref d_hookScripts, .int 0, .ref d_filterInUse, .ref d_filterToTry])), (d_reading, .inr (5, [.ref e_source, .int 0, .ref e_errorLines, .ref e_errorNumbers, .int 0, .ref e_sections, .int 0, .ref e_scenarios, .int 0, .ref e_steps, .int 0, .ref e_examples, .int 0, .ref e_rows, .int 0, .int 0, .int 0, .ref e_owner, .ref e_table]))] sz)) 1 6 (va_A [(h0, .inr (11, [.ref d_text, .ref d_reading, .ref d_cases, .ref d_scripts, .ref d_run, .ref d_definitions, .ref d_definitionScripts, .int 0, .ref d_hookTags, .ref d_hookBefore, .ref d_hookScripts, .int 0, .ref d_filterInUse, .ref d_filterToTry])), (d_reading, .inr (5, [.ref e_source, .int 0, .ref e_errorLines, .ref e_errorNumbers, .int 0, .ref e_sections, .int 0, .ref e_scenarios, .int 0, .ref e_steps, .int 0, .ref e_examples, .int 0, .ref e_rows, .int 0, .int 0, .int 0, .ref e_owner, .ref e_table]))] sz) := by
  refine sj_vmet (Ex := fun A => sj_xt "java/lang/IndexOutOfBoundsException" A) (XC := fun A => sj_XC "java/lang/IndexOutOfBoundsException" (True) A) (cc := cX11_error) (maxL := 3) (ret := (some .int)) (by decide) rfl (Nat.le_of_ble_eq_true rfl) ?_
  intro p e s m below meth c A ls hx hb hr hml hts hown hlocks hnt hA hsz hS hH hK hE hl
  have hown : s.vm.findClass RX11 = some m.cls := hown
  have in5 : ∀ w ∈ wsX50, w ∈ wsX11_error := by decide +kernel
  have in11 : ∀ w ∈ wsX110, w ∈ wsX11_error := by decide +kernel
  have wd0 := hts (.classLink RX11 105 "java/lang/IndexOutOfBoundsException") (by decide +kernel)
  have wd1 := hts (.initialized "java/lang/IndexOutOfBoundsException") (by decide +kernel)
  have wd2 := hts (.fieldLink RX11 21 "StoryDesk" "reading" "LStoryDesk$Reading;") (by decide +kernel)
  have wd3 := hts (.fieldLink RX11 102 "StoryDesk$Reading" "errors" "I") (by decide +kernel)
  have thr_107 : ∀ w ∈ (vx_at0 RX11 107 "java/lang/IndexOutOfBoundsException" ["java/lang/RuntimeException", "java/lang/Exception"]).filter goodWord, w ∈ wsX11_error := by decide +kernel
  have hl : lv_has ls 3 [(0, .ref h0), (1, .int k), (2, .int what)] := hl
  have hH : sj_H D A ([(h0, .inr (11, [.ref d_text, .ref d_reading, .ref d_cases, .ref d_scripts, .ref d_run, .ref d_definitions, .ref d_definitionScripts, .int 0, .ref d_hookTags, .ref d_hookBefore, .ref d_hookScripts, .int 0, .ref d_filterInUse, .ref d_filterToTry])), (d_reading, .inr (5, [.ref e_source, .int 0, .ref e_errorLines, .ref e_errorNumbers, .int 0, .ref e_sections, .int 0, .ref e_scenarios, .int 0, .ref e_steps, .int 0, .ref e_examples, .int 0, .ref e_rows, .int 0, .int 0, .int 0, .ref e_owner, .ref e_table]))] ++ []) s.heap := hH
  refine lv_iload_n hx hb dX11_error_0 rfl (lv_at hl 1 rfl) ?_
  refine lv_if_lt (tgt := 24) hx hb dX11_error_1 (by decide) (fun c_1 => ?_) (fun c_1 => ?_)
  · skip
    have d_2 := sj_ltF (n := 0) (by decide) c_1
    exact sj_throw hx hb hl0 (ik := 105) (ic := 107) (cls := "java/lang/IndexOutOfBoundsException") trivial hown (by decide) wd0 wd1 (fun w h => hts w (thr_107 w h)) (by decide +kernel) (by decide +kernel) hE hS (hl.1.trans hml.symm) dX11_error_24 dX11_error_27 dX11_error_28 dX11_error_31 hnt (Nat.le_of_ble_eq_true rfl) (Nat.le_of_ble_eq_true rfl) (Nat.le_of_ble_eq_true rfl) (Nat.le_of_ble_eq_true rfl) hlocks (Nat.le_of_ble_eq_true rfl) (Nat.le_of_ble_eq_true rfl)
  · skip
    have d_3 := sj_nlt (n := 0) (by decide) c_1
    refine lv_iload_n hx hb dX11_error_4 rfl (lv_at hl 1 rfl) ?_
    refine lv_aload_n hx hb dX11_error_5 rfl (lv_at hl 0 rfl) ?_
    refine va_get (D := D) (ci := 11) (v := .ref d_reading) (C := RX11) (T := TX11) (N := 14) hx hb hts in11 hown hK hH.1 0 rfl rfl 1 (by decide) wd2 (fun _ h9 => h9) rfl dX11_error_6 ?_
    refine va_get (D := D) (ci := 5) (v := .int 0) (C := RX5) (T := TX5) (N := 19) hx hb hts in5 hown hK hH.1 1 rfl rfl 4 (by decide) wd3 (fun _ h9 => h9) rfl dX11_error_9 ?_
    refine lv_icmp_ge (tgt := 24) hx hb dX11_error_12 (by decide) (fun _ => ?_) (fun h => absurd (sj_geP (n := 0) (by decide) (by omega)) h)
    exact sj_throw hx hb hl0 (ik := 105) (ic := 107) (cls := "java/lang/IndexOutOfBoundsException") trivial hown (by decide) wd0 wd1 (fun w h => hts w (thr_107 w h)) (by decide +kernel) (by decide +kernel) hE hS (hl.1.trans hml.symm) dX11_error_24 dX11_error_27 dX11_error_28 dX11_error_31 hnt (Nat.le_of_ble_eq_true rfl) (Nat.le_of_ble_eq_true rfl) (Nat.le_of_ble_eq_true rfl) (Nat.le_of_ble_eq_true rfl) hlocks (Nat.le_of_ble_eq_true rfl) (Nat.le_of_ble_eq_true rfl)
set_option maxHeartbeats 4000000 in
set_option maxRecDepth 100000 in
/-- story on a new StoryDesk -/
theorem c_X11_story (l : Launch) (hl0 : l.stackTraces = false) (D : va_G) (h0 : Nat) (story : Int32) (what : Int32) (d_text : Nat) (d_reading : Nat) (d_cases : Nat) (d_scripts : Nat) (d_run : Nat) (d_definitions : Nat) (d_definitionScripts : Nat) (d_hookTags : Nat) (d_hookBefore : Nat) (d_hookScripts : Nat) (d_filterInUse : Nat) (d_filterToTry : Nat) (c_reading : Nat) (c_stepText : Nat) (c_cellText : Nat) (c_all : Nat) (sz : Nat)  : vx_Met l yX11_story wsX11_story ({ frames := 6, cells := 1, slots := 6, locals := 90 }) (va_Pc [.ref h0, .int story, .int what] (sj_B D [(h0, .inr (11, [.ref d_text, .ref d_reading, .ref d_cases, .ref d_scripts, .ref d_run, .ref d_definitions, .ref d_definitionScripts, .int 0, .ref d_hookTags, .ref d_hookBefore, .ref d_hookScripts, .int 0, .ref d_filterInUse, .ref d_filterToTry])), (d_cases, .inr (1, [.ref c_reading, .ref c_stepText, .ref c_cellText, .ref c_all, .int 0]))] [] sz (sj_xt "java/lang/IndexOutOfBoundsException" (va_A [(h0, .inr (11, [.ref d_text, .ref d_reading, .ref d_cases, .ref d_scripts, .ref d_run, .ref d_definitions, .ref d_definitionScripts, .int 0, .ref d_hookTags, .ref d_hookBefore, .ref d_hookScripts, .int 0, .ref d_filterInUse, .ref d_filterToTry])), (d_cases, .inr (1, [.ref c_reading, .ref c_stepText, .ref c_cellText, .ref c_all, .int 0]))] sz)))) (sj_Qi (S := Unit) D (fun _ _ => False) (fun u => []) (fun u => []) (va_A [(h0, .inr (11, [.ref d_text, .ref d_reading, .ref d_cases, .ref d_scripts, .ref d_run, .ref d_definitions, .ref d_definitionScripts, .int 0, .ref d_hookTags, .ref d_hookBefore, .ref d_hookScripts, .int 0, .ref d_filterInUse, .ref d_filterToTry])), (d_cases, .inr (1, [.ref c_reading, .ref c_stepText, .ref c_cellText, .ref c_all, .int 0]))] sz)) (sj_XC "java/lang/IndexOutOfBoundsException" (True) (va_A [(h0, .inr (11, [.ref d_text, .ref d_reading, .ref d_cases, .ref d_scripts, .ref d_run, .ref d_definitions, .ref d_definitionScripts, .int 0, .ref d_hookTags, .ref d_hookBefore, .ref d_hookScripts, .int 0, .ref d_filterInUse, .ref d_filterToTry])), (d_cases, .inr (1, [.ref c_reading, .ref c_stepText, .ref c_cellText, .ref c_all, .int 0]))] sz)) 1 6 (va_A [(h0, .inr (11, [.ref d_text, .ref d_reading, .ref d_cases, .ref d_scripts, .ref d_run, .ref d_definitions, .ref d_definitionScripts, .int 0, .ref d_hookTags, .ref d_hookBefore, .ref d_hookScripts, .int 0, .ref d_filterInUse, .ref d_filterToTry])), (d_cases, .inr (1, [.ref c_reading, .ref c_stepText, .ref c_cellText, .ref c_all, .int 0]))] sz) := by
  refine sj_vmet (Ex := fun A => sj_xt "java/lang/IndexOutOfBoundsException" A) (XC := fun A => sj_XC "java/lang/IndexOutOfBoundsException" (True) A) (cc := cX11_story) (maxL := 4) (ret := (some .int)) (by decide) rfl (Nat.le_of_ble_eq_true rfl) ?_
  intro p e s m below meth c A ls hx hb hr hml hts hown hlocks hnt hA hsz hS hH hK hE hl
  have hown : s.vm.findClass RX11 = some m.cls := hown
  have in1 : ∀ w ∈ wsX10, w ∈ wsX11_story := by decide +kernel
  have in11 : ∀ w ∈ wsX110, w ∈ wsX11_story := by decide +kernel
  have wd0 := hts (.classLink RX11 105 "java/lang/IndexOutOfBoundsException") (by decide +kernel)
  have wd1 := hts (.initialized "java/lang/IndexOutOfBoundsException") (by decide +kernel)
  have wd2 := hts (.fieldLink RX11 30 "StoryDesk" "cases" "LStoryDesk$Cases;") (by decide +kernel)
  have wd3 := hts (.fieldLink RX11 134 "StoryDesk$Cases" "count" "I") (by decide +kernel)
  have thr_107 : ∀ w ∈ (vx_at0 RX11 107 "java/lang/IndexOutOfBoundsException" ["java/lang/RuntimeException", "java/lang/Exception"]).filter goodWord, w ∈ wsX11_story := by decide +kernel
  have hl : lv_has ls 4 [(0, .ref h0), (1, .int story), (2, .int what)] := hl
  have hH : sj_H D A ([(h0, .inr (11, [.ref d_text, .ref d_reading, .ref d_cases, .ref d_scripts, .ref d_run, .ref d_definitions, .ref d_definitionScripts, .int 0, .ref d_hookTags, .ref d_hookBefore, .ref d_hookScripts, .int 0, .ref d_filterInUse, .ref d_filterToTry])), (d_cases, .inr (1, [.ref c_reading, .ref c_stepText, .ref c_cellText, .ref c_all, .int 0]))] ++ []) s.heap := hH
  refine lv_iload_n hx hb dX11_story_0 rfl (lv_at hl 1 rfl) ?_
  refine lv_if_lt (tgt := 24) hx hb dX11_story_1 (by decide) (fun c_1 => ?_) (fun c_1 => ?_)
  · skip
    have d_2 := sj_ltF (n := 0) (by decide) c_1
    exact sj_throw hx hb hl0 (ik := 105) (ic := 107) (cls := "java/lang/IndexOutOfBoundsException") trivial hown (by decide) wd0 wd1 (fun w h => hts w (thr_107 w h)) (by decide +kernel) (by decide +kernel) hE hS (hl.1.trans hml.symm) dX11_story_24 dX11_story_27 dX11_story_28 dX11_story_31 hnt (Nat.le_of_ble_eq_true rfl) (Nat.le_of_ble_eq_true rfl) (Nat.le_of_ble_eq_true rfl) (Nat.le_of_ble_eq_true rfl) hlocks (Nat.le_of_ble_eq_true rfl) (Nat.le_of_ble_eq_true rfl)
  · skip
    have d_3 := sj_nlt (n := 0) (by decide) c_1
    refine lv_iload_n hx hb dX11_story_4 rfl (lv_at hl 1 rfl) ?_
    refine lv_aload_n hx hb dX11_story_5 rfl (lv_at hl 0 rfl) ?_
    refine va_get (D := D) (ci := 11) (v := .ref d_cases) (C := RX11) (T := TX11) (N := 14) hx hb hts in11 hown hK hH.1 0 rfl rfl 2 (by decide) wd2 (fun _ h9 => h9) rfl dX11_story_6 ?_
    refine va_get (D := D) (ci := 1) (v := .int 0) (C := RX1) (T := TX1) (N := 5) hx hb hts in1 hown hK hH.1 1 rfl rfl 4 (by decide) wd3 (fun _ h9 => h9) rfl dX11_story_9 ?_
    refine lv_icmp_ge (tgt := 24) hx hb dX11_story_12 (by decide) (fun _ => ?_) (fun h => absurd (sj_geP (n := 0) (by decide) (by omega)) h)
    exact sj_throw hx hb hl0 (ik := 105) (ic := 107) (cls := "java/lang/IndexOutOfBoundsException") trivial hown (by decide) wd0 wd1 (fun w h => hts w (thr_107 w h)) (by decide +kernel) (by decide +kernel) hE hS (hl.1.trans hml.symm) dX11_story_24 dX11_story_27 dX11_story_28 dX11_story_31 hnt (Nat.le_of_ble_eq_true rfl) (Nat.le_of_ble_eq_true rfl) (Nat.le_of_ble_eq_true rfl) (Nat.le_of_ble_eq_true rfl) hlocks (Nat.le_of_ble_eq_true rfl) (Nat.le_of_ble_eq_true rfl)
set_option maxHeartbeats 4000000 in
set_option maxRecDepth 100000 in
/-- no case has a step -/
theorem c_X1_hasStep (l : Launch) (D : va_G) (h0 : Nat) (number : Int32) (step : Int32) (c_reading : Nat) (c_stepText : Nat) (c_cellText : Nat) (c_all : Nat) (sz : Nat)  : Met l yX1_hasStep wsX1_hasStep ({ frames := 0, cells := 0, slots := 0, locals := 0 }) (va_Pc [.ref h0, .int number, .int step] (sj_B D [(h0, .inr (1, [.ref c_reading, .ref c_stepText, .ref c_cellText, .ref c_all, .int 0]))] [] sz sj_n)) (sj_Qi (S := Unit) D (fun r _ => r = 0) (fun u => [(h0, .inr (1, [.ref c_reading, .ref c_stepText, .ref c_cellText, .ref c_all, .int 0]))]) (fun u => []) (va_A [(h0, .inr (1, [.ref c_reading, .ref c_stepText, .ref c_cellText, .ref c_all, .int 0]))] sz)) 0 0 (va_A [(h0, .inr (1, [.ref c_reading, .ref c_stepText, .ref c_cellText, .ref c_all, .int 0]))] sz) := by
  refine sj_met (cc := cX1_hasStep) (maxL := 3) (ret := (some .boolean)) (by decide) rfl (Nat.le_of_ble_eq_true rfl) ?_
  intro p e s m below meth c A ls hx hb hr hml hts hown hlocks hnm hA hsz hS hH hK hE hl
  have hown : s.vm.findClass RX1 = some m.cls := hown
  have in1 : ∀ w ∈ wsX10, w ∈ wsX1_hasStep := by decide +kernel
  have wd0 := hts (.fieldLink RX1 34 "StoryDesk$Cases" "count" "I") (by decide +kernel)
  have hl : lv_has ls 3 [(0, .ref h0), (1, .int number), (2, .int step)] := hl
  have hH : sj_H D A ([(h0, .inr (1, [.ref c_reading, .ref c_stepText, .ref c_cellText, .ref c_all, .int 0]))] ++ []) s.heap := hH
  refine lv_iload_n hx hb dX1_hasStep_0 rfl (lv_at hl 1 rfl) ?_
  refine lv_if_lt (tgt := 34) hx hb dX1_hasStep_1 (by decide) (fun c_1 => ?_) (fun c_1 => ?_)
  · skip
    have d_2 := sj_ltF (n := 0) (by decide) c_1
    refine lv_iconst (v := 0) hx hb dX1_hasStep_34 (by decide) ?_
    exact sj_zret hx hb hr hlocks (by decide +kernel) hS () rfl (sj_sub hH [0] rfl rfl) (sj_Knil hK) (Nat.le_of_ble_eq_true rfl) (Nat.le_of_ble_eq_true rfl) dX1_hasStep_35
  · skip
    have d_3 := sj_nlt (n := 0) (by decide) c_1
    refine lv_iload_n hx hb dX1_hasStep_4 rfl (lv_at hl 1 rfl) ?_
    refine lv_aload_n hx hb dX1_hasStep_5 rfl (lv_at hl 0 rfl) ?_
    refine va_get (D := D) (ci := 1) (v := .int 0) (C := RX1) (T := TX1) (N := 5) hx hb hts in1 hown hK hH.1 0 rfl rfl 4 (by decide) wd0 (fun _ h9 => h9) rfl dX1_hasStep_6 ?_
    refine lv_icmp_ge (tgt := 34) hx hb dX1_hasStep_9 (by decide) (fun _ => ?_) (fun h => absurd (sj_geP (n := 0) (by decide) (by omega)) h)
    refine lv_iconst (v := 0) hx hb dX1_hasStep_34 (by decide) ?_
    exact sj_zret hx hb hr hlocks (by decide +kernel) hS () rfl (sj_sub hH [0] rfl rfl) (sj_Knil hK) (Nat.le_of_ble_eq_true rfl) (Nat.le_of_ble_eq_true rfl) dX1_hasStep_35
set_option maxHeartbeats 4000000 in
set_option maxRecDepth 100000 in
/-- step on a new StoryDesk -/
theorem c_X11_step (l : Launch) (hl0 : l.stackTraces = false) (D : va_G) (h0 : Nat) (story : Int32) (step : Int32) (what : Int32) (d_text : Nat) (d_reading : Nat) (d_cases : Nat) (d_scripts : Nat) (d_run : Nat) (d_definitions : Nat) (d_definitionScripts : Nat) (d_hookTags : Nat) (d_hookBefore : Nat) (d_hookScripts : Nat) (d_filterInUse : Nat) (d_filterToTry : Nat) (c_reading : Nat) (c_stepText : Nat) (c_cellText : Nat) (c_all : Nat) (sz : Nat)  : vx_Met l yX11_step wsX11_step ({ frames := 6, cells := 1, slots := 6, locals := 90 }) (va_Pc [.ref h0, .int story, .int step, .int what] (sj_B D [(h0, .inr (11, [.ref d_text, .ref d_reading, .ref d_cases, .ref d_scripts, .ref d_run, .ref d_definitions, .ref d_definitionScripts, .int 0, .ref d_hookTags, .ref d_hookBefore, .ref d_hookScripts, .int 0, .ref d_filterInUse, .ref d_filterToTry])), (d_cases, .inr (1, [.ref c_reading, .ref c_stepText, .ref c_cellText, .ref c_all, .int 0]))] [] sz (sj_xt "java/lang/IndexOutOfBoundsException" (va_A [(h0, .inr (11, [.ref d_text, .ref d_reading, .ref d_cases, .ref d_scripts, .ref d_run, .ref d_definitions, .ref d_definitionScripts, .int 0, .ref d_hookTags, .ref d_hookBefore, .ref d_hookScripts, .int 0, .ref d_filterInUse, .ref d_filterToTry])), (d_cases, .inr (1, [.ref c_reading, .ref c_stepText, .ref c_cellText, .ref c_all, .int 0]))] sz)))) (sj_Qi (S := Unit) D (fun _ _ => False) (fun u => []) (fun u => []) (va_A [(h0, .inr (11, [.ref d_text, .ref d_reading, .ref d_cases, .ref d_scripts, .ref d_run, .ref d_definitions, .ref d_definitionScripts, .int 0, .ref d_hookTags, .ref d_hookBefore, .ref d_hookScripts, .int 0, .ref d_filterInUse, .ref d_filterToTry])), (d_cases, .inr (1, [.ref c_reading, .ref c_stepText, .ref c_cellText, .ref c_all, .int 0]))] sz)) (sj_XC "java/lang/IndexOutOfBoundsException" (True) (va_A [(h0, .inr (11, [.ref d_text, .ref d_reading, .ref d_cases, .ref d_scripts, .ref d_run, .ref d_definitions, .ref d_definitionScripts, .int 0, .ref d_hookTags, .ref d_hookBefore, .ref d_hookScripts, .int 0, .ref d_filterInUse, .ref d_filterToTry])), (d_cases, .inr (1, [.ref c_reading, .ref c_stepText, .ref c_cellText, .ref c_all, .int 0]))] sz)) 1 6 (va_A [(h0, .inr (11, [.ref d_text, .ref d_reading, .ref d_cases, .ref d_scripts, .ref d_run, .ref d_definitions, .ref d_definitionScripts, .int 0, .ref d_hookTags, .ref d_hookBefore, .ref d_hookScripts, .int 0, .ref d_filterInUse, .ref d_filterToTry])), (d_cases, .inr (1, [.ref c_reading, .ref c_stepText, .ref c_cellText, .ref c_all, .int 0]))] sz) := by
  refine sj_vmet (Ex := fun A => sj_xt "java/lang/IndexOutOfBoundsException" A) (XC := fun A => sj_XC "java/lang/IndexOutOfBoundsException" (True) A) (cc := cX11_step) (maxL := 6) (ret := (some .int)) (by decide) rfl (Nat.le_of_ble_eq_true rfl) ?_
  intro p e s m below meth c A ls hx hb hr hml hts hown hlocks hnt hA hsz hS hH hK hE hl
  have hown : s.vm.findClass RX11 = some m.cls := hown
  have in11 : ∀ w ∈ wsX110, w ∈ wsX11_step := by decide +kernel
  have wd0 := hts (.fieldLink RX11 30 "StoryDesk" "cases" "LStoryDesk$Cases;") (by decide +kernel)
  have wd1 := hts (.classLink RX11 105 "java/lang/IndexOutOfBoundsException") (by decide +kernel)
  have wd2 := hts (.initialized "java/lang/IndexOutOfBoundsException") (by decide +kernel)
  have thr_107 : ∀ w ∈ (vx_at0 RX11 107 "java/lang/IndexOutOfBoundsException" ["java/lang/RuntimeException", "java/lang/Exception"]).filter goodWord, w ∈ wsX11_step := by decide +kernel
  have hl : lv_has ls 6 [(0, .ref h0), (1, .int story), (2, .int step), (3, .int what)] := hl
  have hH : sj_H D A ([(h0, .inr (11, [.ref d_text, .ref d_reading, .ref d_cases, .ref d_scripts, .ref d_run, .ref d_definitions, .ref d_definitionScripts, .int 0, .ref d_hookTags, .ref d_hookBefore, .ref d_hookScripts, .int 0, .ref d_filterInUse, .ref d_filterToTry])), (d_cases, .inr (1, [.ref c_reading, .ref c_stepText, .ref c_cellText, .ref c_all, .int 0]))] ++ []) s.heap := hH
  refine lv_iload_n hx hb dX11_step_0 rfl (lv_at hl 3 rfl) ?_
  refine lv_bipush (v := 100) hx hb dX11_step_1 (by decide) ?_
  refine lv_icmp_lt (tgt := 17) hx hb dX11_step_3 (by decide) (fun c_1 => ?_) (fun c_1 => ?_)
  · skip
    have d_2 := sj_ltF (n := 100) (by decide) c_1
    refine lv_iconst (v := 0) hx hb dX11_step_17 (by decide) ?_
    refine lv_istore (lv' := [(4, .int 0), (0, .ref h0), (1, .int story), (2, .int step), (3, .int what)]) hx hb dX11_step_18 hl (by decide) rfl (fun ls hl => ?_)
    refine lv_aload_n hx hb dX11_step_20 rfl (lv_at hl 1 rfl) ?_
    refine va_get (D := D) (ci := 11) (v := .ref d_cases) (C := RX11) (T := TX11) (N := 14) hx hb hts in11 hown hK hH.1 0 rfl rfl 2 (by decide) wd0 (fun _ h9 => h9) rfl dX11_step_21 ?_
    refine lv_iload_n hx hb dX11_step_24 rfl (lv_at hl 2 rfl) ?_
    refine lv_iload_n hx hb dX11_step_25 rfl (lv_at hl 3 rfl) ?_
    refine sj_calli (wr := [(h0, .inr (11, [.ref d_text, .ref d_reading, .ref d_cases, .ref d_scripts, .ref d_run, .ref d_definitions, .ref d_definitionScripts, .int 0, .ref d_hookTags, .ref d_hookBefore, .ref d_hookScripts, .int 0, .ref d_filterInUse, .ref d_filterToTry]))]) (va_runV (As := [.int story, .int step]) (rest := []) ⟨hx, hb, hml, hown, hts⟩ (c_X1_hasStep l D d_cases story step c_reading c_stepText c_cellText c_all s.heap.size) (cwV 2 hts gX11_step_X1_hasStep rfl rfl rfl (by decide +kernel) ⟨(Nat.le_of_ble_eq_true rfl), (Nat.le_of_ble_eq_true rfl)⟩) (sj_preV (q := (RX1, TX1, 5)) hH hK [1] rfl rfl [] rfl rfl rfl sj_bln sj_exn) rfl rfl hl.1 rfl (lv_room (Nat.le_of_ble_eq_true rfl)) dX11_step_26 ⟨(Nat.le_of_ble_eq_true rfl), (Nat.le_of_ble_eq_true rfl)⟩) hH hK hS hA [1] [0] rfl rfl rfl rfl (by decide) rfl rfl (fun r_3 u_4 H locs hw_5 hH hK hS => ?_)
    have hH : sj_H D A ([(h0, .inr (11, [.ref d_text, .ref d_reading, .ref d_cases, .ref d_scripts, .ref d_run, .ref d_definitions, .ref d_definitionScripts, .int 0, .ref d_hookTags, .ref d_hookBefore, .ref d_hookScripts, .int 0, .ref d_filterInUse, .ref d_filterToTry])), (d_cases, .inr (1, [.ref c_reading, .ref c_stepText, .ref c_cellText, .ref c_all, .int 0]))] ++ []) H := hH
    have hK : va_K D vwCl [] s := by simpa using hK
    subst hw_5
    refine lv_if_eq (tgt := 46) hx hb dX11_step_29 (by decide) (fun _ => ?_) (fun h => absurd (by decide) h)
    exact sj_throw hx hb hl0 (ik := 105) (ic := 107) (cls := "java/lang/IndexOutOfBoundsException") trivial hown (by decide) wd1 wd2 (fun w h => hts w (thr_107 w h)) (by decide +kernel) (by decide +kernel) hE hS (hl.1.trans hml.symm) dX11_step_46 dX11_step_49 dX11_step_50 dX11_step_53 hnt (Nat.le_of_ble_eq_true rfl) (Nat.le_of_ble_eq_true rfl) (Nat.le_of_ble_eq_true rfl) (Nat.le_of_ble_eq_true rfl) hlocks (Nat.le_of_ble_eq_true rfl) (Nat.le_of_ble_eq_true rfl)
  · skip
    have d_7 := sj_nlt (n := 100) (by decide) c_1
    refine lv_iload_n hx hb dX11_step_6 rfl (lv_at hl 3 rfl) ?_
    refine lv_sipush (v := 160) hx hb dX11_step_7 (by decide) ?_
    refine lv_icmp_gt (tgt := 17) hx hb dX11_step_10 (by decide) (fun c_8 => ?_) (fun c_8 => ?_)
    · skip
      have d_9 := sj_gtF (n := 160) (by decide) c_8
      refine lv_iconst (v := 0) hx hb dX11_step_17 (by decide) ?_
      refine lv_istore (lv' := [(4, .int 0), (0, .ref h0), (1, .int story), (2, .int step), (3, .int what)]) hx hb dX11_step_18 hl (by decide) rfl (fun ls hl => ?_)
      refine lv_aload_n hx hb dX11_step_20 rfl (lv_at hl 1 rfl) ?_
      refine va_get (D := D) (ci := 11) (v := .ref d_cases) (C := RX11) (T := TX11) (N := 14) hx hb hts in11 hown hK hH.1 0 rfl rfl 2 (by decide) wd0 (fun _ h9 => h9) rfl dX11_step_21 ?_
      refine lv_iload_n hx hb dX11_step_24 rfl (lv_at hl 2 rfl) ?_
      refine lv_iload_n hx hb dX11_step_25 rfl (lv_at hl 3 rfl) ?_
      refine sj_calli (wr := [(h0, .inr (11, [.ref d_text, .ref d_reading, .ref d_cases, .ref d_scripts, .ref d_run, .ref d_definitions, .ref d_definitionScripts, .int 0, .ref d_hookTags, .ref d_hookBefore, .ref d_hookScripts, .int 0, .ref d_filterInUse, .ref d_filterToTry]))]) (va_runV (As := [.int story, .int step]) (rest := []) ⟨hx, hb, hml, hown, hts⟩ (c_X1_hasStep l D d_cases story step c_reading c_stepText c_cellText c_all s.heap.size) (cwV 2 hts gX11_step_X1_hasStep rfl rfl rfl (by decide +kernel) ⟨(Nat.le_of_ble_eq_true rfl), (Nat.le_of_ble_eq_true rfl)⟩) (sj_preV (q := (RX1, TX1, 5)) hH hK [1] rfl rfl [] rfl rfl rfl sj_bln sj_exn) rfl rfl hl.1 rfl (lv_room (Nat.le_of_ble_eq_true rfl)) dX11_step_26 ⟨(Nat.le_of_ble_eq_true rfl), (Nat.le_of_ble_eq_true rfl)⟩) hH hK hS hA [1] [0] rfl rfl rfl rfl (by decide) rfl rfl (fun r_10 u_11 H locs hw_12 hH hK hS => ?_)
      have hH : sj_H D A ([(h0, .inr (11, [.ref d_text, .ref d_reading, .ref d_cases, .ref d_scripts, .ref d_run, .ref d_definitions, .ref d_definitionScripts, .int 0, .ref d_hookTags, .ref d_hookBefore, .ref d_hookScripts, .int 0, .ref d_filterInUse, .ref d_filterToTry])), (d_cases, .inr (1, [.ref c_reading, .ref c_stepText, .ref c_cellText, .ref c_all, .int 0]))] ++ []) H := hH
      have hK : va_K D vwCl [] s := by simpa using hK
      subst hw_12
      refine lv_if_eq (tgt := 46) hx hb dX11_step_29 (by decide) (fun _ => ?_) (fun h => absurd (by decide) h)
      exact sj_throw hx hb hl0 (ik := 105) (ic := 107) (cls := "java/lang/IndexOutOfBoundsException") trivial hown (by decide) wd1 wd2 (fun w h => hts w (thr_107 w h)) (by decide +kernel) (by decide +kernel) hE hS (hl.1.trans hml.symm) dX11_step_46 dX11_step_49 dX11_step_50 dX11_step_53 hnt (Nat.le_of_ble_eq_true rfl) (Nat.le_of_ble_eq_true rfl) (Nat.le_of_ble_eq_true rfl) (Nat.le_of_ble_eq_true rfl) hlocks (Nat.le_of_ble_eq_true rfl) (Nat.le_of_ble_eq_true rfl)
    · skip
      have d_14 := sj_ngt (n := 160) (by decide) c_8
      refine lv_iconst (v := 1) hx hb dX11_step_13 (by decide) ?_
      refine lv_goto (tgt := 18) hx hb dX11_step_14 (by decide) ?_
      refine lv_istore (lv' := [(4, .int 1), (0, .ref h0), (1, .int story), (2, .int step), (3, .int what)]) hx hb dX11_step_18 hl (by decide) rfl (fun ls hl => ?_)
      refine lv_aload_n hx hb dX11_step_20 rfl (lv_at hl 1 rfl) ?_
      refine va_get (D := D) (ci := 11) (v := .ref d_cases) (C := RX11) (T := TX11) (N := 14) hx hb hts in11 hown hK hH.1 0 rfl rfl 2 (by decide) wd0 (fun _ h9 => h9) rfl dX11_step_21 ?_
      refine lv_iload_n hx hb dX11_step_24 rfl (lv_at hl 2 rfl) ?_
      refine lv_iload_n hx hb dX11_step_25 rfl (lv_at hl 3 rfl) ?_
      refine sj_calli (wr := [(h0, .inr (11, [.ref d_text, .ref d_reading, .ref d_cases, .ref d_scripts, .ref d_run, .ref d_definitions, .ref d_definitionScripts, .int 0, .ref d_hookTags, .ref d_hookBefore, .ref d_hookScripts, .int 0, .ref d_filterInUse, .ref d_filterToTry]))]) (va_runV (As := [.int story, .int step]) (rest := []) ⟨hx, hb, hml, hown, hts⟩ (c_X1_hasStep l D d_cases story step c_reading c_stepText c_cellText c_all s.heap.size) (cwV 2 hts gX11_step_X1_hasStep rfl rfl rfl (by decide +kernel) ⟨(Nat.le_of_ble_eq_true rfl), (Nat.le_of_ble_eq_true rfl)⟩) (sj_preV (q := (RX1, TX1, 5)) hH hK [1] rfl rfl [] rfl rfl rfl sj_bln sj_exn) rfl rfl hl.1 rfl (lv_room (Nat.le_of_ble_eq_true rfl)) dX11_step_26 ⟨(Nat.le_of_ble_eq_true rfl), (Nat.le_of_ble_eq_true rfl)⟩) hH hK hS hA [1] [0] rfl rfl rfl rfl (by decide) rfl rfl (fun r_15 u_16 H locs hw_17 hH hK hS => ?_)
      have hH : sj_H D A ([(h0, .inr (11, [.ref d_text, .ref d_reading, .ref d_cases, .ref d_scripts, .ref d_run, .ref d_definitions, .ref d_definitionScripts, .int 0, .ref d_hookTags, .ref d_hookBefore, .ref d_hookScripts, .int 0, .ref d_filterInUse, .ref d_filterToTry])), (d_cases, .inr (1, [.ref c_reading, .ref c_stepText, .ref c_cellText, .ref c_all, .int 0]))] ++ []) H := hH
      have hK : va_K D vwCl [] s := by simpa using hK
      subst hw_17
      refine lv_if_eq (tgt := 46) hx hb dX11_step_29 (by decide) (fun _ => ?_) (fun h => absurd (by decide) h)
      exact sj_throw hx hb hl0 (ik := 105) (ic := 107) (cls := "java/lang/IndexOutOfBoundsException") trivial hown (by decide) wd1 wd2 (fun w h => hts w (thr_107 w h)) (by decide +kernel) (by decide +kernel) hE hS (hl.1.trans hml.symm) dX11_step_46 dX11_step_49 dX11_step_50 dX11_step_53 hnt (Nat.le_of_ble_eq_true rfl) (Nat.le_of_ble_eq_true rfl) (Nat.le_of_ble_eq_true rfl) (Nat.le_of_ble_eq_true rfl) hlocks (Nat.le_of_ble_eq_true rfl) (Nat.le_of_ble_eq_true rfl)
set_option maxHeartbeats 4000000 in
set_option maxRecDepth 100000 in
/-- argument on a new StoryDesk -/
theorem c_X11_argument (l : Launch) (hl0 : l.stackTraces = false) (D : va_G) (h0 : Nat) (story : Int32) (step : Int32) (k : Int32) (d_text : Nat) (d_reading : Nat) (d_cases : Nat) (d_scripts : Nat) (d_run : Nat) (d_definitions : Nat) (d_definitionScripts : Nat) (d_hookTags : Nat) (d_hookBefore : Nat) (d_hookScripts : Nat) (d_filterInUse : Nat) (d_filterToTry : Nat) (c_reading : Nat) (c_stepText : Nat) (c_cellText : Nat) (c_all : Nat) (sz : Nat)  : vx_Met l yX11_argument wsX11_argument ({ frames := 6, cells := 1, slots := 6, locals := 90 }) (va_Pc [.ref h0, .int story, .int step, .int k] (sj_B D [(h0, .inr (11, [.ref d_text, .ref d_reading, .ref d_cases, .ref d_scripts, .ref d_run, .ref d_definitions, .ref d_definitionScripts, .int 0, .ref d_hookTags, .ref d_hookBefore, .ref d_hookScripts, .int 0, .ref d_filterInUse, .ref d_filterToTry])), (d_cases, .inr (1, [.ref c_reading, .ref c_stepText, .ref c_cellText, .ref c_all, .int 0]))] [] sz (sj_xt "java/lang/IndexOutOfBoundsException" (va_A [(h0, .inr (11, [.ref d_text, .ref d_reading, .ref d_cases, .ref d_scripts, .ref d_run, .ref d_definitions, .ref d_definitionScripts, .int 0, .ref d_hookTags, .ref d_hookBefore, .ref d_hookScripts, .int 0, .ref d_filterInUse, .ref d_filterToTry])), (d_cases, .inr (1, [.ref c_reading, .ref c_stepText, .ref c_cellText, .ref c_all, .int 0]))] sz)))) (sj_Qi (S := Unit) D (fun _ _ => False) (fun u => []) (fun u => []) (va_A [(h0, .inr (11, [.ref d_text, .ref d_reading, .ref d_cases, .ref d_scripts, .ref d_run, .ref d_definitions, .ref d_definitionScripts, .int 0, .ref d_hookTags, .ref d_hookBefore, .ref d_hookScripts, .int 0, .ref d_filterInUse, .ref d_filterToTry])), (d_cases, .inr (1, [.ref c_reading, .ref c_stepText, .ref c_cellText, .ref c_all, .int 0]))] sz)) (sj_XC "java/lang/IndexOutOfBoundsException" (True) (va_A [(h0, .inr (11, [.ref d_text, .ref d_reading, .ref d_cases, .ref d_scripts, .ref d_run, .ref d_definitions, .ref d_definitionScripts, .int 0, .ref d_hookTags, .ref d_hookBefore, .ref d_hookScripts, .int 0, .ref d_filterInUse, .ref d_filterToTry])), (d_cases, .inr (1, [.ref c_reading, .ref c_stepText, .ref c_cellText, .ref c_all, .int 0]))] sz)) 1 6 (va_A [(h0, .inr (11, [.ref d_text, .ref d_reading, .ref d_cases, .ref d_scripts, .ref d_run, .ref d_definitions, .ref d_definitionScripts, .int 0, .ref d_hookTags, .ref d_hookBefore, .ref d_hookScripts, .int 0, .ref d_filterInUse, .ref d_filterToTry])), (d_cases, .inr (1, [.ref c_reading, .ref c_stepText, .ref c_cellText, .ref c_all, .int 0]))] sz) := by
  refine sj_vmet (Ex := fun A => sj_xt "java/lang/IndexOutOfBoundsException" A) (XC := fun A => sj_XC "java/lang/IndexOutOfBoundsException" (True) A) (cc := cX11_argument) (maxL := 6) (ret := (some .int)) (by decide) rfl (Nat.le_of_ble_eq_true rfl) ?_
  intro p e s m below meth c A ls hx hb hr hml hts hown hlocks hnt hA hsz hS hH hK hE hl
  have hown : s.vm.findClass RX11 = some m.cls := hown
  have in11 : ∀ w ∈ wsX110, w ∈ wsX11_argument := by decide +kernel
  have wd0 := hts (.fieldLink RX11 30 "StoryDesk" "cases" "LStoryDesk$Cases;") (by decide +kernel)
  have wd1 := hts (.classLink RX11 105 "java/lang/IndexOutOfBoundsException") (by decide +kernel)
  have wd2 := hts (.initialized "java/lang/IndexOutOfBoundsException") (by decide +kernel)
  have thr_107 : ∀ w ∈ (vx_at0 RX11 107 "java/lang/IndexOutOfBoundsException" ["java/lang/RuntimeException", "java/lang/Exception"]).filter goodWord, w ∈ wsX11_argument := by decide +kernel
  have hl : lv_has ls 6 [(0, .ref h0), (1, .int story), (2, .int step), (3, .int k)] := hl
  have hH : sj_H D A ([(h0, .inr (11, [.ref d_text, .ref d_reading, .ref d_cases, .ref d_scripts, .ref d_run, .ref d_definitions, .ref d_definitionScripts, .int 0, .ref d_hookTags, .ref d_hookBefore, .ref d_hookScripts, .int 0, .ref d_filterInUse, .ref d_filterToTry])), (d_cases, .inr (1, [.ref c_reading, .ref c_stepText, .ref c_cellText, .ref c_all, .int 0]))] ++ []) s.heap := hH
  refine lv_aload_n hx hb dX11_argument_0 rfl (lv_at hl 0 rfl) ?_
  refine va_get (D := D) (ci := 11) (v := .ref d_cases) (C := RX11) (T := TX11) (N := 14) hx hb hts in11 hown hK hH.1 0 rfl rfl 2 (by decide) wd0 (fun _ h9 => h9) rfl dX11_argument_1 ?_
  refine lv_iload_n hx hb dX11_argument_4 rfl (lv_at hl 1 rfl) ?_
  refine lv_iload_n hx hb dX11_argument_5 rfl (lv_at hl 2 rfl) ?_
  refine sj_calli (wr := [(h0, .inr (11, [.ref d_text, .ref d_reading, .ref d_cases, .ref d_scripts, .ref d_run, .ref d_definitions, .ref d_definitionScripts, .int 0, .ref d_hookTags, .ref d_hookBefore, .ref d_hookScripts, .int 0, .ref d_filterInUse, .ref d_filterToTry]))]) (va_runV (As := [.int story, .int step]) (rest := []) ⟨hx, hb, hml, hown, hts⟩ (c_X1_hasStep l D d_cases story step c_reading c_stepText c_cellText c_all s.heap.size) (cwV 2 hts gX11_argument_X1_hasStep rfl rfl rfl (by decide +kernel) ⟨(Nat.le_of_ble_eq_true rfl), (Nat.le_of_ble_eq_true rfl)⟩) (sj_preV (q := (RX1, TX1, 5)) hH hK [1] rfl rfl [] rfl rfl rfl sj_bln sj_exn) rfl rfl hl.1 rfl (lv_room (Nat.le_of_ble_eq_true rfl)) dX11_argument_6 ⟨(Nat.le_of_ble_eq_true rfl), (Nat.le_of_ble_eq_true rfl)⟩) hH hK hS hA [1] [0] rfl rfl rfl rfl (by decide) rfl rfl (fun r_1 u_2 H locs hw_3 hH hK hS => ?_)
  have hH : sj_H D A ([(h0, .inr (11, [.ref d_text, .ref d_reading, .ref d_cases, .ref d_scripts, .ref d_run, .ref d_definitions, .ref d_definitionScripts, .int 0, .ref d_hookTags, .ref d_hookBefore, .ref d_hookScripts, .int 0, .ref d_filterInUse, .ref d_filterToTry])), (d_cases, .inr (1, [.ref c_reading, .ref c_stepText, .ref c_cellText, .ref c_all, .int 0]))] ++ []) H := hH
  have hK : va_K D vwCl [] s := by simpa using hK
  subst hw_3
  refine lv_if_ne (tgt := 20) hx hb dX11_argument_9 (by decide) (fun h => absurd (by decide) h) (fun _ => ?_)
  exact sj_throw hx hb hl0 (ik := 105) (ic := 107) (cls := "java/lang/IndexOutOfBoundsException") trivial hown (by decide) wd1 wd2 (fun w h => hts w (thr_107 w h)) (by decide +kernel) (by decide +kernel) hE hS (hl.1.trans hml.symm) dX11_argument_12 dX11_argument_15 dX11_argument_16 dX11_argument_19 hnt (Nat.le_of_ble_eq_true rfl) (Nat.le_of_ble_eq_true rfl) (Nat.le_of_ble_eq_true rfl) (Nat.le_of_ble_eq_true rfl) hlocks (Nat.le_of_ble_eq_true rfl) (Nat.le_of_ble_eq_true rfl)
set_option maxHeartbeats 4000000 in
set_option maxRecDepth 100000 in
/-- cell on a new StoryDesk -/
theorem c_X11_cell (l : Launch) (hl0 : l.stackTraces = false) (D : va_G) (h0 : Nat) (story : Int32) (step : Int32) (ar : Int32) (ac : Int32) (ai : Int32) (d_text : Nat) (d_reading : Nat) (d_cases : Nat) (d_scripts : Nat) (d_run : Nat) (d_definitions : Nat) (d_definitionScripts : Nat) (d_hookTags : Nat) (d_hookBefore : Nat) (d_hookScripts : Nat) (d_filterInUse : Nat) (d_filterToTry : Nat) (c_reading : Nat) (c_stepText : Nat) (c_cellText : Nat) (c_all : Nat) (sz : Nat)  : vx_Met l yX11_cell wsX11_cell ({ frames := 6, cells := 1, slots := 6, locals := 90 }) (va_Pc [.ref h0, .int story, .int step, .int ar, .int ac, .int ai] (sj_B D [(h0, .inr (11, [.ref d_text, .ref d_reading, .ref d_cases, .ref d_scripts, .ref d_run, .ref d_definitions, .ref d_definitionScripts, .int 0, .ref d_hookTags, .ref d_hookBefore, .ref d_hookScripts, .int 0, .ref d_filterInUse, .ref d_filterToTry])), (d_cases, .inr (1, [.ref c_reading, .ref c_stepText, .ref c_cellText, .ref c_all, .int 0]))] [] sz (sj_xt "java/lang/IndexOutOfBoundsException" (va_A [(h0, .inr (11, [.ref d_text, .ref d_reading, .ref d_cases, .ref d_scripts, .ref d_run, .ref d_definitions, .ref d_definitionScripts, .int 0, .ref d_hookTags, .ref d_hookBefore, .ref d_hookScripts, .int 0, .ref d_filterInUse, .ref d_filterToTry])), (d_cases, .inr (1, [.ref c_reading, .ref c_stepText, .ref c_cellText, .ref c_all, .int 0]))] sz)))) (sj_Qi (S := Unit) D (fun _ _ => False) (fun u => []) (fun u => []) (va_A [(h0, .inr (11, [.ref d_text, .ref d_reading, .ref d_cases, .ref d_scripts, .ref d_run, .ref d_definitions, .ref d_definitionScripts, .int 0, .ref d_hookTags, .ref d_hookBefore, .ref d_hookScripts, .int 0, .ref d_filterInUse, .ref d_filterToTry])), (d_cases, .inr (1, [.ref c_reading, .ref c_stepText, .ref c_cellText, .ref c_all, .int 0]))] sz)) (sj_XC "java/lang/IndexOutOfBoundsException" (True) (va_A [(h0, .inr (11, [.ref d_text, .ref d_reading, .ref d_cases, .ref d_scripts, .ref d_run, .ref d_definitions, .ref d_definitionScripts, .int 0, .ref d_hookTags, .ref d_hookBefore, .ref d_hookScripts, .int 0, .ref d_filterInUse, .ref d_filterToTry])), (d_cases, .inr (1, [.ref c_reading, .ref c_stepText, .ref c_cellText, .ref c_all, .int 0]))] sz)) 1 6 (va_A [(h0, .inr (11, [.ref d_text, .ref d_reading, .ref d_cases, .ref d_scripts, .ref d_run, .ref d_definitions, .ref d_definitionScripts, .int 0, .ref d_hookTags, .ref d_hookBefore, .ref d_hookScripts, .int 0, .ref d_filterInUse, .ref d_filterToTry])), (d_cases, .inr (1, [.ref c_reading, .ref c_stepText, .ref c_cellText, .ref c_all, .int 0]))] sz) := by
  refine sj_vmet (Ex := fun A => sj_xt "java/lang/IndexOutOfBoundsException" A) (XC := fun A => sj_XC "java/lang/IndexOutOfBoundsException" (True) A) (cc := cX11_cell) (maxL := 7) (ret := (some .int)) (by decide) rfl (Nat.le_of_ble_eq_true rfl) ?_
  intro p e s m below meth c A ls hx hb hr hml hts hown hlocks hnt hA hsz hS hH hK hE hl
  have hown : s.vm.findClass RX11 = some m.cls := hown
  have in11 : ∀ w ∈ wsX110, w ∈ wsX11_cell := by decide +kernel
  have wd0 := hts (.fieldLink RX11 30 "StoryDesk" "cases" "LStoryDesk$Cases;") (by decide +kernel)
  have wd1 := hts (.classLink RX11 105 "java/lang/IndexOutOfBoundsException") (by decide +kernel)
  have wd2 := hts (.initialized "java/lang/IndexOutOfBoundsException") (by decide +kernel)
  have thr_107 : ∀ w ∈ (vx_at0 RX11 107 "java/lang/IndexOutOfBoundsException" ["java/lang/RuntimeException", "java/lang/Exception"]).filter goodWord, w ∈ wsX11_cell := by decide +kernel
  have hl : lv_has ls 7 [(0, .ref h0), (1, .int story), (2, .int step), (3, .int ar), (4, .int ac), (5, .int ai)] := hl
  have hH : sj_H D A ([(h0, .inr (11, [.ref d_text, .ref d_reading, .ref d_cases, .ref d_scripts, .ref d_run, .ref d_definitions, .ref d_definitionScripts, .int 0, .ref d_hookTags, .ref d_hookBefore, .ref d_hookScripts, .int 0, .ref d_filterInUse, .ref d_filterToTry])), (d_cases, .inr (1, [.ref c_reading, .ref c_stepText, .ref c_cellText, .ref c_all, .int 0]))] ++ []) s.heap := hH
  refine lv_aload_n hx hb dX11_cell_0 rfl (lv_at hl 0 rfl) ?_
  refine va_get (D := D) (ci := 11) (v := .ref d_cases) (C := RX11) (T := TX11) (N := 14) hx hb hts in11 hown hK hH.1 0 rfl rfl 2 (by decide) wd0 (fun _ h9 => h9) rfl dX11_cell_1 ?_
  refine lv_iload_n hx hb dX11_cell_4 rfl (lv_at hl 1 rfl) ?_
  refine lv_iload_n hx hb dX11_cell_5 rfl (lv_at hl 2 rfl) ?_
  refine sj_calli (wr := [(h0, .inr (11, [.ref d_text, .ref d_reading, .ref d_cases, .ref d_scripts, .ref d_run, .ref d_definitions, .ref d_definitionScripts, .int 0, .ref d_hookTags, .ref d_hookBefore, .ref d_hookScripts, .int 0, .ref d_filterInUse, .ref d_filterToTry]))]) (va_runV (As := [.int story, .int step]) (rest := []) ⟨hx, hb, hml, hown, hts⟩ (c_X1_hasStep l D d_cases story step c_reading c_stepText c_cellText c_all s.heap.size) (cwV 2 hts gX11_cell_X1_hasStep rfl rfl rfl (by decide +kernel) ⟨(Nat.le_of_ble_eq_true rfl), (Nat.le_of_ble_eq_true rfl)⟩) (sj_preV (q := (RX1, TX1, 5)) hH hK [1] rfl rfl [] rfl rfl rfl sj_bln sj_exn) rfl rfl hl.1 rfl (lv_room (Nat.le_of_ble_eq_true rfl)) dX11_cell_6 ⟨(Nat.le_of_ble_eq_true rfl), (Nat.le_of_ble_eq_true rfl)⟩) hH hK hS hA [1] [0] rfl rfl rfl rfl (by decide) rfl rfl (fun r_1 u_2 H locs hw_3 hH hK hS => ?_)
  have hH : sj_H D A ([(h0, .inr (11, [.ref d_text, .ref d_reading, .ref d_cases, .ref d_scripts, .ref d_run, .ref d_definitions, .ref d_definitionScripts, .int 0, .ref d_hookTags, .ref d_hookBefore, .ref d_hookScripts, .int 0, .ref d_filterInUse, .ref d_filterToTry])), (d_cases, .inr (1, [.ref c_reading, .ref c_stepText, .ref c_cellText, .ref c_all, .int 0]))] ++ []) H := hH
  have hK : va_K D vwCl [] s := by simpa using hK
  subst hw_3
  refine lv_if_eq (tgt := 24) hx hb dX11_cell_9 (by decide) (fun _ => ?_) (fun h => absurd (by decide) h)
  exact sj_throw hx hb hl0 (ik := 105) (ic := 107) (cls := "java/lang/IndexOutOfBoundsException") trivial hown (by decide) wd1 wd2 (fun w h => hts w (thr_107 w h)) (by decide +kernel) (by decide +kernel) hE hS (hl.1.trans hml.symm) dX11_cell_24 dX11_cell_27 dX11_cell_28 dX11_cell_31 hnt (Nat.le_of_ble_eq_true rfl) (Nat.le_of_ble_eq_true rfl) (Nat.le_of_ble_eq_true rfl) (Nat.le_of_ble_eq_true rfl) hlocks (Nat.le_of_ble_eq_true rfl) (Nat.le_of_ble_eq_true rfl)
set_option maxHeartbeats 4000000 in
set_option maxRecDepth 100000 in
/-- go without a run -/
theorem c_X11_go (l : Launch) (D : va_G) (h0 : Nat) (n : Int32) (d_text : Nat) (d_reading : Nat) (d_cases : Nat) (d_scripts : Nat) (d_run : Nat) (d_definitions : Nat) (d_definitionScripts : Nat) (d_hookTags : Nat) (d_hookBefore : Nat) (d_hookScripts : Nat) (d_filterInUse : Nat) (d_filterToTry : Nat) (r_workers : Nat) (r_queue : Nat) (r_events : Nat) (sz : Nat)  : Met l yX11_go wsX11_go ({ frames := 0, cells := 0, slots := 0, locals := 0 }) (va_Pc [.ref h0, .int n] (sj_B D [(h0, .inr (11, [.ref d_text, .ref d_reading, .ref d_cases, .ref d_scripts, .ref d_run, .ref d_definitions, .ref d_definitionScripts, .int 0, .ref d_hookTags, .ref d_hookBefore, .ref d_hookScripts, .int 0, .ref d_filterInUse, .ref d_filterToTry])), (d_run, .inr (7, [.ref r_workers, .int 0, .int 0, .ref r_queue, .int 0, .int 0, .int 0, .int 0, .int 0, .ref r_events, .int 0]))] [] sz sj_n)) (sj_Qi (S := Unit) D (fun r _ => r = if 1 ≤ n.toInt ∧ n.toInt ≤ 40 then 0 else -1) (fun u => []) (fun u => []) (va_A [(h0, .inr (11, [.ref d_text, .ref d_reading, .ref d_cases, .ref d_scripts, .ref d_run, .ref d_definitions, .ref d_definitionScripts, .int 0, .ref d_hookTags, .ref d_hookBefore, .ref d_hookScripts, .int 0, .ref d_filterInUse, .ref d_filterToTry])), (d_run, .inr (7, [.ref r_workers, .int 0, .int 0, .ref r_queue, .int 0, .int 0, .int 0, .int 0, .int 0, .ref r_events, .int 0]))] sz)) 0 0 (va_A [(h0, .inr (11, [.ref d_text, .ref d_reading, .ref d_cases, .ref d_scripts, .ref d_run, .ref d_definitions, .ref d_definitionScripts, .int 0, .ref d_hookTags, .ref d_hookBefore, .ref d_hookScripts, .int 0, .ref d_filterInUse, .ref d_filterToTry])), (d_run, .inr (7, [.ref r_workers, .int 0, .int 0, .ref r_queue, .int 0, .int 0, .int 0, .int 0, .int 0, .ref r_events, .int 0]))] sz) := by
  refine sj_met (cc := cX11_go) (maxL := 3) (ret := (some .int)) (by decide) rfl (Nat.le_of_ble_eq_true rfl) ?_
  intro p e s m below meth c A ls hx hb hr hml hts hown hlocks hnm hA hsz hS hH hK hE hl
  have hown : s.vm.findClass RX11 = some m.cls := hown
  have in7 : ∀ w ∈ wsX70, w ∈ wsX11_go := by decide +kernel
  have in11 : ∀ w ∈ wsX110, w ∈ wsX11_go := by decide +kernel
  have wd0 := hts (.fieldLink RX11 44 "StoryDesk" "run" "LStoryDesk$Run;") (by decide +kernel)
  have wd1 := hts (.fieldLink RX11 88 "StoryDesk$Run" "underWay" "Z") (by decide +kernel)
  have hl : lv_has ls 3 [(0, .ref h0), (1, .int n)] := hl
  have hH : sj_H D A ([(h0, .inr (11, [.ref d_text, .ref d_reading, .ref d_cases, .ref d_scripts, .ref d_run, .ref d_definitions, .ref d_definitionScripts, .int 0, .ref d_hookTags, .ref d_hookBefore, .ref d_hookScripts, .int 0, .ref d_filterInUse, .ref d_filterToTry])), (d_run, .inr (7, [.ref r_workers, .int 0, .int 0, .ref r_queue, .int 0, .int 0, .int 0, .int 0, .int 0, .ref r_events, .int 0]))] ++ []) s.heap := hH
  refine lv_iload_n hx hb dX11_go_0 rfl (lv_at hl 1 rfl) ?_
  refine lv_iconst (v := 1) hx hb dX11_go_1 (by decide) ?_
  refine lv_icmp_lt (tgt := 11) hx hb dX11_go_2 (by decide) (fun c_1 => ?_) (fun c_1 => ?_)
  · skip
    have d_2 := sj_ltF (n := 1) (by decide) c_1
    refine lv_iconst (v := (-1)) hx hb dX11_go_11 (by decide) ?_
    exact sj_zret hx hb hr hlocks rfl hS () (by first | exact (if_pos (by omega)).symm | exact (if_neg (by omega)).symm) sj_nil (sj_Knil hK) (Nat.le_of_ble_eq_true rfl) (Nat.le_of_ble_eq_true rfl) dX11_go_12
  · skip
    have d_3 := sj_nlt (n := 1) (by decide) c_1
    refine lv_iload_n hx hb dX11_go_5 rfl (lv_at hl 1 rfl) ?_
    refine lv_bipush (v := 40) hx hb dX11_go_6 (by decide) ?_
    refine lv_icmp_le (tgt := 13) hx hb dX11_go_8 (by decide) (fun c_4 => ?_) (fun c_4 => ?_)
    · skip
      have d_5 := sj_leF (n := 40) (by decide) c_4
      refine lv_iconst (v := 0) hx hb dX11_go_13 (by decide) ?_
      refine lv_istore_n (lv' := [(2, .int 0), (0, .ref h0), (1, .int n)]) hx hb dX11_go_14 rfl hl (by decide) rfl (fun ls hl => ?_)
      refine lv_iload_n hx hb dX11_go_15 rfl (lv_at hl 0 rfl) ?_
      refine lv_iload_n hx hb dX11_go_16 rfl (lv_at hl 2 rfl) ?_
      refine lv_icmp_ge (tgt := 62) hx hb dX11_go_17 (by decide) (fun h => absurd h (sj_nleP (n := 0) (by decide) (by omega))) (fun _ => ?_)
      refine lv_aload_n hx hb dX11_go_20 rfl (lv_at hl 1 rfl) ?_
      refine va_get (D := D) (ci := 11) (v := .ref d_run) (C := RX11) (T := TX11) (N := 14) hx hb hts in11 hown hK hH.1 0 rfl rfl 4 (by decide) wd0 (fun _ h9 => h9) rfl dX11_go_21 ?_
      refine va_get (D := D) (ci := 7) (v := .int 0) (C := RX7) (T := TX7) (N := 11) hx hb hts in7 hown hK hH.1 1 rfl rfl 8 (by decide) wd1 (fun _ h9 => h9) rfl dX11_go_24 ?_
      refine lv_if_eq (tgt := 62) hx hb dX11_go_27 (by decide) (fun _ => ?_) (fun h => absurd (by decide) h)
      refine lv_iload_n hx hb dX11_go_62 rfl (lv_at hl 0 rfl) ?_
      exact sj_zret hx hb hr hlocks rfl hS () (by first | exact (if_pos (by omega)).symm | exact (if_neg (by omega)).symm) sj_nil (sj_Knil hK) (Nat.le_of_ble_eq_true rfl) (Nat.le_of_ble_eq_true rfl) dX11_go_63
    · skip
      have d_8 := sj_nle (n := 40) (by decide) c_4
      refine lv_iconst (v := (-1)) hx hb dX11_go_11 (by decide) ?_
      exact sj_zret hx hb hr hlocks rfl hS () (by first | exact (if_pos (by omega)).symm | exact (if_neg (by omega)).symm) sj_nil (sj_Knil hK) (Nat.le_of_ble_eq_true rfl) (Nat.le_of_ble_eq_true rfl) dX11_go_12
set_option maxHeartbeats 4000000 in
set_option maxRecDepth 100000 in
/-- no event is told yet -/
theorem c_X7_told (l : Launch) (D : va_G) (h0 : Nat) (k : Int32) (what : Int32) (r_workers : Nat) (r_queue : Nat) (r_events : Nat) (sz : Nat)  : Met l yX7_told wsX7_told ({ frames := 0, cells := 0, slots := 0, locals := 0 }) (va_Pc [.ref h0, .int k, .int what] (sj_B D [(h0, .inr (7, [.ref r_workers, .int 0, .int 0, .ref r_queue, .int 0, .int 0, .int 0, .int 0, .int 0, .ref r_events, .int 0]))] [] sz sj_n)) (sj_Qi (S := Unit) D (fun r _ => r = -1) (fun u => [(h0, .inr (7, [.ref r_workers, .int 0, .int 0, .ref r_queue, .int 0, .int 0, .int 0, .int 0, .int 0, .ref r_events, .int 0]))]) (fun u => []) (va_A [(h0, .inr (7, [.ref r_workers, .int 0, .int 0, .ref r_queue, .int 0, .int 0, .int 0, .int 0, .int 0, .ref r_events, .int 0]))] sz)) 0 0 (va_A [(h0, .inr (7, [.ref r_workers, .int 0, .int 0, .ref r_queue, .int 0, .int 0, .int 0, .int 0, .int 0, .ref r_events, .int 0]))] sz) := by
  refine sj_met (cc := cX7_told) (maxL := 3) (ret := (some .int)) (by decide) rfl (Nat.le_of_ble_eq_true rfl) ?_
  intro p e s m below meth c A ls hx hb hr hml hts hown hlocks hnm hA hsz hS hH hK hE hl
  have hown : s.vm.findClass RX7 = some m.cls := hown
  have in7 : ∀ w ∈ wsX70, w ∈ wsX7_told := by decide +kernel
  have wd0 := hts (.fieldLink RX7 75 "StoryDesk$Run" "eventCount" "I") (by decide +kernel)
  have hl : lv_has ls 3 [(0, .ref h0), (1, .int k), (2, .int what)] := hl
  have hH : sj_H D A ([(h0, .inr (7, [.ref r_workers, .int 0, .int 0, .ref r_queue, .int 0, .int 0, .int 0, .int 0, .int 0, .ref r_events, .int 0]))] ++ []) s.heap := hH
  refine lv_iload_n hx hb dX7_told_0 rfl (lv_at hl 1 rfl) ?_
  refine lv_if_lt (tgt := 27) hx hb dX7_told_1 (by decide) (fun c_1 => ?_) (fun c_1 => ?_)
  · skip
    have d_2 := sj_ltF (n := 0) (by decide) c_1
    refine lv_iconst (v := (-1)) hx hb dX7_told_27 (by decide) ?_
    exact sj_zret hx hb hr hlocks rfl hS () rfl (sj_sub hH [0] rfl rfl) (sj_Knil hK) (Nat.le_of_ble_eq_true rfl) (Nat.le_of_ble_eq_true rfl) dX7_told_28
  · skip
    have d_3 := sj_nlt (n := 0) (by decide) c_1
    refine lv_iload_n hx hb dX7_told_4 rfl (lv_at hl 1 rfl) ?_
    refine lv_bipush (v := 64) hx hb dX7_told_5 (by decide) ?_
    refine lv_icmp_ge (tgt := 27) hx hb dX7_told_7 (by decide) (fun c_4 => ?_) (fun c_4 => ?_)
    · skip
      have d_5 := sj_geF (n := 64) (by decide) c_4
      refine lv_iconst (v := (-1)) hx hb dX7_told_27 (by decide) ?_
      exact sj_zret hx hb hr hlocks rfl hS () rfl (sj_sub hH [0] rfl rfl) (sj_Knil hK) (Nat.le_of_ble_eq_true rfl) (Nat.le_of_ble_eq_true rfl) dX7_told_28
    · skip
      have d_6 := sj_nge (n := 64) (by decide) c_4
      refine lv_iload_n hx hb dX7_told_10 rfl (lv_at hl 1 rfl) ?_
      refine lv_aload_n hx hb dX7_told_11 rfl (lv_at hl 0 rfl) ?_
      refine va_get (D := D) (ci := 7) (v := .int 0) (C := RX7) (T := TX7) (N := 11) hx hb hts in7 hown hK hH.1 0 rfl rfl 10 (by decide) wd0 (fun _ h9 => h9) rfl dX7_told_12 ?_
      refine lv_icmp_ge (tgt := 27) hx hb dX7_told_15 (by decide) (fun _ => ?_) (fun h => absurd (sj_geP (n := 0) (by decide) (by omega)) h)
      refine lv_iconst (v := (-1)) hx hb dX7_told_27 (by decide) ?_
      exact sj_zret hx hb hr hlocks rfl hS () rfl (sj_sub hH [0] rfl rfl) (sj_Knil hK) (Nat.le_of_ble_eq_true rfl) (Nat.le_of_ble_eq_true rfl) dX7_told_28
set_option maxHeartbeats 4000000 in
set_option maxRecDepth 100000 in
/-- event on a new StoryDesk -/
theorem c_X11_event (l : Launch) (D : va_G) (h0 : Nat) (k : Int32) (what : Int32) (d_text : Nat) (d_reading : Nat) (d_cases : Nat) (d_scripts : Nat) (d_run : Nat) (d_definitions : Nat) (d_definitionScripts : Nat) (d_hookTags : Nat) (d_hookBefore : Nat) (d_hookScripts : Nat) (d_filterInUse : Nat) (d_filterToTry : Nat) (r_workers : Nat) (r_queue : Nat) (r_events : Nat) (sz : Nat)  : Met l yX11_event wsX11_event ({ frames := 1, cells := 0, slots := 0, locals := 22 }) (va_Pc [.ref h0, .int k, .int what] (sj_B D [(h0, .inr (11, [.ref d_text, .ref d_reading, .ref d_cases, .ref d_scripts, .ref d_run, .ref d_definitions, .ref d_definitionScripts, .int 0, .ref d_hookTags, .ref d_hookBefore, .ref d_hookScripts, .int 0, .ref d_filterInUse, .ref d_filterToTry])), (d_run, .inr (7, [.ref r_workers, .int 0, .int 0, .ref r_queue, .int 0, .int 0, .int 0, .int 0, .int 0, .ref r_events, .int 0]))] [] sz sj_n)) (sj_Qi (S := Unit) D (fun r _ => r = -1) (fun u => []) (fun u => []) (va_A [(h0, .inr (11, [.ref d_text, .ref d_reading, .ref d_cases, .ref d_scripts, .ref d_run, .ref d_definitions, .ref d_definitionScripts, .int 0, .ref d_hookTags, .ref d_hookBefore, .ref d_hookScripts, .int 0, .ref d_filterInUse, .ref d_filterToTry])), (d_run, .inr (7, [.ref r_workers, .int 0, .int 0, .ref r_queue, .int 0, .int 0, .int 0, .int 0, .int 0, .ref r_events, .int 0]))] sz)) 0 0 (va_A [(h0, .inr (11, [.ref d_text, .ref d_reading, .ref d_cases, .ref d_scripts, .ref d_run, .ref d_definitions, .ref d_definitionScripts, .int 0, .ref d_hookTags, .ref d_hookBefore, .ref d_hookScripts, .int 0, .ref d_filterInUse, .ref d_filterToTry])), (d_run, .inr (7, [.ref r_workers, .int 0, .int 0, .ref r_queue, .int 0, .int 0, .int 0, .int 0, .int 0, .ref r_events, .int 0]))] sz) := by
  refine sj_met (cc := cX11_event) (maxL := 3) (ret := (some .int)) (by decide) rfl (Nat.le_of_ble_eq_true rfl) ?_
  intro p e s m below meth c A ls hx hb hr hml hts hown hlocks hnm hA hsz hS hH hK hE hl
  have hown : s.vm.findClass RX11 = some m.cls := hown
  have in11 : ∀ w ∈ wsX110, w ∈ wsX11_event := by decide +kernel
  have wd0 := hts (.fieldLink RX11 44 "StoryDesk" "run" "LStoryDesk$Run;") (by decide +kernel)
  have hl : lv_has ls 3 [(0, .ref h0), (1, .int k), (2, .int what)] := hl
  have hH : sj_H D A ([(h0, .inr (11, [.ref d_text, .ref d_reading, .ref d_cases, .ref d_scripts, .ref d_run, .ref d_definitions, .ref d_definitionScripts, .int 0, .ref d_hookTags, .ref d_hookBefore, .ref d_hookScripts, .int 0, .ref d_filterInUse, .ref d_filterToTry])), (d_run, .inr (7, [.ref r_workers, .int 0, .int 0, .ref r_queue, .int 0, .int 0, .int 0, .int 0, .int 0, .ref r_events, .int 0]))] ++ []) s.heap := hH
  refine lv_aload_n hx hb dX11_event_0 rfl (lv_at hl 0 rfl) ?_
  refine va_get (D := D) (ci := 11) (v := .ref d_run) (C := RX11) (T := TX11) (N := 14) hx hb hts in11 hown hK hH.1 0 rfl rfl 4 (by decide) wd0 (fun _ h9 => h9) rfl dX11_event_1 ?_
  refine lv_iload_n hx hb dX11_event_4 rfl (lv_at hl 1 rfl) ?_
  refine lv_iload_n hx hb dX11_event_5 rfl (lv_at hl 2 rfl) ?_
  refine sj_calli (wr := [(h0, .inr (11, [.ref d_text, .ref d_reading, .ref d_cases, .ref d_scripts, .ref d_run, .ref d_definitions, .ref d_definitionScripts, .int 0, .ref d_hookTags, .ref d_hookBefore, .ref d_hookScripts, .int 0, .ref d_filterInUse, .ref d_filterToTry]))]) (va_runV (As := [.int k, .int what]) (rest := []) ⟨hx, hb, hml, hown, hts⟩ (c_X7_told l D d_run k what r_workers r_queue r_events s.heap.size) (cwV 2 hts gX11_event_X7_told rfl rfl rfl (by decide +kernel) ⟨(Nat.le_of_ble_eq_true rfl), (Nat.le_of_ble_eq_true rfl)⟩) (sj_preV (q := (RX7, TX7, 11)) hH hK [1] rfl rfl [] rfl rfl rfl sj_bln sj_exn) rfl rfl hl.1 rfl (lv_room (Nat.le_of_ble_eq_true rfl)) dX11_event_6 ⟨(Nat.le_of_ble_eq_true rfl), (Nat.le_of_ble_eq_true rfl)⟩) hH hK hS hA [1] [0] rfl rfl rfl rfl (by decide) rfl rfl (fun r_1 u_2 H locs hw_3 hH hK hS => ?_)
  have hH : sj_H D A ([(h0, .inr (11, [.ref d_text, .ref d_reading, .ref d_cases, .ref d_scripts, .ref d_run, .ref d_definitions, .ref d_definitionScripts, .int 0, .ref d_hookTags, .ref d_hookBefore, .ref d_hookScripts, .int 0, .ref d_filterInUse, .ref d_filterToTry])), (d_run, .inr (7, [.ref r_workers, .int 0, .int 0, .ref r_queue, .int 0, .int 0, .int 0, .int 0, .int 0, .ref r_events, .int 0]))] ++ []) H := hH
  have hK : va_K D vwCl [] s := by simpa using hK
  subst hw_3
  exact sj_zret hx hb hr hlocks rfl hS () rfl sj_nil (sj_Knil hK) (Nat.le_of_ble_eq_true rfl) (Nat.le_of_ble_eq_true rfl) dX11_event_9
set_option maxHeartbeats 4000000 in
set_option maxRecDepth 100000 in
/-- look at a new StoryDesk -/
theorem c_X11_look (l : Launch) (D : va_G) (h0 : Nat) (what : Int32) (d_text : Nat) (d_reading : Nat) (d_cases : Nat) (d_scripts : Nat) (d_run : Nat) (d_definitions : Nat) (d_definitionScripts : Nat) (d_hookTags : Nat) (d_hookBefore : Nat) (d_hookScripts : Nat) (d_filterInUse : Nat) (d_filterToTry : Nat) (r_workers : Nat) (r_queue : Nat) (r_events : Nat) (t_chars : Nat) (c_reading : Nat) (c_stepText : Nat) (c_cellText : Nat) (c_all : Nat) (e_source : Nat) (e_errorLines : Nat) (e_errorNumbers : Nat) (e_sections : Nat) (e_scenarios : Nat) (e_steps : Nat) (e_examples : Nat) (e_rows : Nat) (e_owner : Nat) (e_table : Nat) (sz : Nat)  : Met l yX11_look wsX11_look ({ frames := 0, cells := 0, slots := 0, locals := 0 }) (va_Pc [.ref h0, .int what] (sj_B D [(h0, .inr (11, [.ref d_text, .ref d_reading, .ref d_cases, .ref d_scripts, .ref d_run, .ref d_definitions, .ref d_definitionScripts, .int 0, .ref d_hookTags, .ref d_hookBefore, .ref d_hookScripts, .int 0, .ref d_filterInUse, .ref d_filterToTry])), (d_run, .inr (7, [.ref r_workers, .int 0, .int 0, .ref r_queue, .int 0, .int 0, .int 0, .int 0, .int 0, .ref r_events, .int 0])), (d_text, .inr (3, [.ref t_chars, .int 0])), (d_cases, .inr (1, [.ref c_reading, .ref c_stepText, .ref c_cellText, .ref c_all, .int 0])), (d_reading, .inr (5, [.ref e_source, .int 0, .ref e_errorLines, .ref e_errorNumbers, .int 0, .ref e_sections, .int 0, .ref e_scenarios, .int 0, .ref e_steps, .int 0, .ref e_examples, .int 0, .ref e_rows, .int 0, .int 0, .int 0, .ref e_owner, .ref e_table]))] [] sz sj_n)) (sj_Qi (S := Unit) D (fun r _ => r = if 0 ≤ what.toInt ∧ what.toInt ≤ 7 then 0 else -1) (fun u => []) (fun u => []) (va_A [(h0, .inr (11, [.ref d_text, .ref d_reading, .ref d_cases, .ref d_scripts, .ref d_run, .ref d_definitions, .ref d_definitionScripts, .int 0, .ref d_hookTags, .ref d_hookBefore, .ref d_hookScripts, .int 0, .ref d_filterInUse, .ref d_filterToTry])), (d_run, .inr (7, [.ref r_workers, .int 0, .int 0, .ref r_queue, .int 0, .int 0, .int 0, .int 0, .int 0, .ref r_events, .int 0])), (d_text, .inr (3, [.ref t_chars, .int 0])), (d_cases, .inr (1, [.ref c_reading, .ref c_stepText, .ref c_cellText, .ref c_all, .int 0])), (d_reading, .inr (5, [.ref e_source, .int 0, .ref e_errorLines, .ref e_errorNumbers, .int 0, .ref e_sections, .int 0, .ref e_scenarios, .int 0, .ref e_steps, .int 0, .ref e_examples, .int 0, .ref e_rows, .int 0, .int 0, .int 0, .ref e_owner, .ref e_table]))] sz)) 0 0 (va_A [(h0, .inr (11, [.ref d_text, .ref d_reading, .ref d_cases, .ref d_scripts, .ref d_run, .ref d_definitions, .ref d_definitionScripts, .int 0, .ref d_hookTags, .ref d_hookBefore, .ref d_hookScripts, .int 0, .ref d_filterInUse, .ref d_filterToTry])), (d_run, .inr (7, [.ref r_workers, .int 0, .int 0, .ref r_queue, .int 0, .int 0, .int 0, .int 0, .int 0, .ref r_events, .int 0])), (d_text, .inr (3, [.ref t_chars, .int 0])), (d_cases, .inr (1, [.ref c_reading, .ref c_stepText, .ref c_cellText, .ref c_all, .int 0])), (d_reading, .inr (5, [.ref e_source, .int 0, .ref e_errorLines, .ref e_errorNumbers, .int 0, .ref e_sections, .int 0, .ref e_scenarios, .int 0, .ref e_steps, .int 0, .ref e_examples, .int 0, .ref e_rows, .int 0, .int 0, .int 0, .ref e_owner, .ref e_table]))] sz) := by
  refine sj_met (cc := cX11_look) (maxL := 2) (ret := (some .int)) (by decide) rfl (Nat.le_of_ble_eq_true rfl) ?_
  intro p e s m below meth c A ls hx hb hr hml hts hown hlocks hnm hA hsz hS hH hK hE hl
  have hown : s.vm.findClass RX11 = some m.cls := hown
  have in1 : ∀ w ∈ wsX10, w ∈ wsX11_look := by decide +kernel
  have in3 : ∀ w ∈ wsX30, w ∈ wsX11_look := by decide +kernel
  have in5 : ∀ w ∈ wsX50, w ∈ wsX11_look := by decide +kernel
  have in7 : ∀ w ∈ wsX70, w ∈ wsX11_look := by decide +kernel
  have in11 : ∀ w ∈ wsX110, w ∈ wsX11_look := by decide +kernel
  have wd0 := hts (.fieldLink RX11 44 "StoryDesk" "run" "LStoryDesk$Run;") (by decide +kernel)
  have wd1 := hts (.fieldLink RX11 88 "StoryDesk$Run" "underWay" "Z") (by decide +kernel)
  have wd2 := hts (.fieldLink RX11 14 "StoryDesk" "text" "LStoryDesk$Letters;") (by decide +kernel)
  have wd3 := hts (.fieldLink RX11 80 "StoryDesk$Letters" "length" "I") (by decide +kernel)
  have wd4 := hts (.fieldLink RX11 30 "StoryDesk" "cases" "LStoryDesk$Cases;") (by decide +kernel)
  have wd5 := hts (.fieldLink RX11 134 "StoryDesk$Cases" "count" "I") (by decide +kernel)
  have wd6 := hts (.fieldLink RX11 114 "StoryDesk" "definitionCount" "I") (by decide +kernel)
  have wd7 := hts (.fieldLink RX11 130 "StoryDesk" "hookCount" "I") (by decide +kernel)
  have wd8 := hts (.fieldLink RX11 21 "StoryDesk" "reading" "LStoryDesk$Reading;") (by decide +kernel)
  have wd9 := hts (.fieldLink RX11 266 "StoryDesk$Reading" "dialect" "I") (by decide +kernel)
  have wd10 := hts (.fieldLink RX11 269 "StoryDesk$Run" "eventCount" "I") (by decide +kernel)
  have wd11 := hts (.fieldLink RX11 102 "StoryDesk$Reading" "errors" "I") (by decide +kernel)
  have hl : lv_has ls 2 [(0, .ref h0), (1, .int what)] := hl
  have hH : sj_H D A ([(h0, .inr (11, [.ref d_text, .ref d_reading, .ref d_cases, .ref d_scripts, .ref d_run, .ref d_definitions, .ref d_definitionScripts, .int 0, .ref d_hookTags, .ref d_hookBefore, .ref d_hookScripts, .int 0, .ref d_filterInUse, .ref d_filterToTry])), (d_run, .inr (7, [.ref r_workers, .int 0, .int 0, .ref r_queue, .int 0, .int 0, .int 0, .int 0, .int 0, .ref r_events, .int 0])), (d_text, .inr (3, [.ref t_chars, .int 0])), (d_cases, .inr (1, [.ref c_reading, .ref c_stepText, .ref c_cellText, .ref c_all, .int 0])), (d_reading, .inr (5, [.ref e_source, .int 0, .ref e_errorLines, .ref e_errorNumbers, .int 0, .ref e_sections, .int 0, .ref e_scenarios, .int 0, .ref e_steps, .int 0, .ref e_examples, .int 0, .ref e_rows, .int 0, .int 0, .int 0, .ref e_owner, .ref e_table]))] ++ []) s.heap := hH
  refine lv_iload_n hx hb dX11_look_0 rfl (lv_at hl 1 rfl) ?_
  by_cases sw_1 : 0 ≤ what.toInt ∧ what.toInt ≤ 7
  · skip
    have sp_2 : what = 0 ∨ what = 1 ∨ what = 2 ∨ what = 3 ∨ what = 4 ∨ what = 5 ∨ what = 6 ∨ what = 7 := by
      rcases (show what.toInt = 0 ∨ what.toInt = 1 ∨ what.toInt = 2 ∨ what.toInt = 3 ∨ what.toInt = 4 ∨ what.toInt = 5 ∨ what.toInt = 6 ∨ what.toInt = 7 by omega) with h | h | h | h | h | h | h | h
      · exact Or.inl (sj_eqP (by decide) h)
      · exact Or.inr (Or.inl (sj_eqP (by decide) h))
      · exact Or.inr (Or.inr (Or.inl (sj_eqP (by decide) h)))
      · exact Or.inr (Or.inr (Or.inr (Or.inl (sj_eqP (by decide) h))))
      · exact Or.inr (Or.inr (Or.inr (Or.inr (Or.inl (sj_eqP (by decide) h)))))
      · exact Or.inr (Or.inr (Or.inr (Or.inr (Or.inr (Or.inl (sj_eqP (by decide) h))))))
      · exact Or.inr (Or.inr (Or.inr (Or.inr (Or.inr (Or.inr (Or.inl (sj_eqP (by decide) h)))))))
      · exact Or.inr (Or.inr (Or.inr (Or.inr (Or.inr (Or.inr (Or.inr (sj_eqP (by decide) h)))))))
    rcases sp_2 with rfl | rfl | rfl | rfl | rfl | rfl | rfl | rfl
    · skip
      refine lv_tableIn (tgt := 48) hx hb dX11_look_1 (by decide) (by decide) rfl (by decide) ?_
      refine lv_aload_n hx hb dX11_look_48 rfl (lv_at hl 0 rfl) ?_
      refine va_get (D := D) (ci := 11) (v := .ref d_run) (C := RX11) (T := TX11) (N := 14) hx hb hts in11 hown hK hH.1 0 rfl rfl 4 (by decide) wd0 (fun _ h9 => h9) rfl dX11_look_49 ?_
      refine va_get (D := D) (ci := 7) (v := .int 0) (C := RX7) (T := TX7) (N := 11) hx hb hts in7 hown hK hH.1 1 rfl rfl 8 (by decide) wd1 (fun _ h9 => h9) rfl dX11_look_52 ?_
      refine lv_if_eq (tgt := 62) hx hb dX11_look_55 (by decide) (fun _ => ?_) (fun h => absurd (by decide) h)
      refine lv_iconst (v := 0) hx hb dX11_look_62 (by decide) ?_
      exact sj_zret hx hb hr hlocks rfl hS () (by first | exact (if_pos (by decide)).symm | exact (if_neg (by omega)).symm) sj_nil (sj_Knil hK) (Nat.le_of_ble_eq_true rfl) (Nat.le_of_ble_eq_true rfl) dX11_look_63
    · skip
      refine lv_tableIn (tgt := 64) hx hb dX11_look_1 (by decide) (by decide) rfl (by decide) ?_
      refine lv_aload_n hx hb dX11_look_64 rfl (lv_at hl 0 rfl) ?_
      refine va_get (D := D) (ci := 11) (v := .ref d_text) (C := RX11) (T := TX11) (N := 14) hx hb hts in11 hown hK hH.1 0 rfl rfl 0 (by decide) wd2 (fun _ h9 => h9) rfl dX11_look_65 ?_
      refine va_get (D := D) (ci := 3) (v := .int 0) (C := RX3) (T := TX3) (N := 2) hx hb hts in3 hown hK hH.1 2 rfl rfl 1 (by decide) wd3 (fun _ h9 => h9) rfl dX11_look_68 ?_
      exact sj_zret hx hb hr hlocks rfl hS () (by first | exact (if_pos (by decide)).symm | exact (if_neg (by omega)).symm) sj_nil (sj_Knil hK) (Nat.le_of_ble_eq_true rfl) (Nat.le_of_ble_eq_true rfl) dX11_look_71
    · skip
      refine lv_tableIn (tgt := 72) hx hb dX11_look_1 (by decide) (by decide) rfl (by decide) ?_
      refine lv_aload_n hx hb dX11_look_72 rfl (lv_at hl 0 rfl) ?_
      refine va_get (D := D) (ci := 11) (v := .ref d_cases) (C := RX11) (T := TX11) (N := 14) hx hb hts in11 hown hK hH.1 0 rfl rfl 2 (by decide) wd4 (fun _ h9 => h9) rfl dX11_look_73 ?_
      refine va_get (D := D) (ci := 1) (v := .int 0) (C := RX1) (T := TX1) (N := 5) hx hb hts in1 hown hK hH.1 3 rfl rfl 4 (by decide) wd5 (fun _ h9 => h9) rfl dX11_look_76 ?_
      exact sj_zret hx hb hr hlocks rfl hS () (by first | exact (if_pos (by decide)).symm | exact (if_neg (by omega)).symm) sj_nil (sj_Knil hK) (Nat.le_of_ble_eq_true rfl) (Nat.le_of_ble_eq_true rfl) dX11_look_79
    · skip
      refine lv_tableIn (tgt := 80) hx hb dX11_look_1 (by decide) (by decide) rfl (by decide) ?_
      refine lv_aload_n hx hb dX11_look_80 rfl (lv_at hl 0 rfl) ?_
      refine va_get (D := D) (ci := 11) (v := .int 0) (C := RX11) (T := TX11) (N := 14) hx hb hts in11 hown hK hH.1 0 rfl rfl 7 (by decide) wd6 (fun _ h9 => h9) rfl dX11_look_81 ?_
      exact sj_zret hx hb hr hlocks rfl hS () (by first | exact (if_pos (by decide)).symm | exact (if_neg (by omega)).symm) sj_nil (sj_Knil hK) (Nat.le_of_ble_eq_true rfl) (Nat.le_of_ble_eq_true rfl) dX11_look_84
    · skip
      refine lv_tableIn (tgt := 85) hx hb dX11_look_1 (by decide) (by decide) rfl (by decide) ?_
      refine lv_aload_n hx hb dX11_look_85 rfl (lv_at hl 0 rfl) ?_
      refine va_get (D := D) (ci := 11) (v := .int 0) (C := RX11) (T := TX11) (N := 14) hx hb hts in11 hown hK hH.1 0 rfl rfl 11 (by decide) wd7 (fun _ h9 => h9) rfl dX11_look_86 ?_
      exact sj_zret hx hb hr hlocks rfl hS () (by first | exact (if_pos (by decide)).symm | exact (if_neg (by omega)).symm) sj_nil (sj_Knil hK) (Nat.le_of_ble_eq_true rfl) (Nat.le_of_ble_eq_true rfl) dX11_look_89
    · skip
      refine lv_tableIn (tgt := 90) hx hb dX11_look_1 (by decide) (by decide) rfl (by decide) ?_
      refine lv_aload_n hx hb dX11_look_90 rfl (lv_at hl 0 rfl) ?_
      refine va_get (D := D) (ci := 11) (v := .ref d_reading) (C := RX11) (T := TX11) (N := 14) hx hb hts in11 hown hK hH.1 0 rfl rfl 1 (by decide) wd8 (fun _ h9 => h9) rfl dX11_look_91 ?_
      refine va_get (D := D) (ci := 5) (v := .int 0) (C := RX5) (T := TX5) (N := 19) hx hb hts in5 hown hK hH.1 4 rfl rfl 1 (by decide) wd9 (fun _ h9 => h9) rfl dX11_look_94 ?_
      exact sj_zret hx hb hr hlocks rfl hS () (by first | exact (if_pos (by decide)).symm | exact (if_neg (by omega)).symm) sj_nil (sj_Knil hK) (Nat.le_of_ble_eq_true rfl) (Nat.le_of_ble_eq_true rfl) dX11_look_97
    · skip
      refine lv_tableIn (tgt := 98) hx hb dX11_look_1 (by decide) (by decide) rfl (by decide) ?_
      refine lv_aload_n hx hb dX11_look_98 rfl (lv_at hl 0 rfl) ?_
      refine va_get (D := D) (ci := 11) (v := .ref d_run) (C := RX11) (T := TX11) (N := 14) hx hb hts in11 hown hK hH.1 0 rfl rfl 4 (by decide) wd0 (fun _ h9 => h9) rfl dX11_look_99 ?_
      refine va_get (D := D) (ci := 7) (v := .int 0) (C := RX7) (T := TX7) (N := 11) hx hb hts in7 hown hK hH.1 1 rfl rfl 10 (by decide) wd10 (fun _ h9 => h9) rfl dX11_look_102 ?_
      exact sj_zret hx hb hr hlocks rfl hS () (by first | exact (if_pos (by decide)).symm | exact (if_neg (by omega)).symm) sj_nil (sj_Knil hK) (Nat.le_of_ble_eq_true rfl) (Nat.le_of_ble_eq_true rfl) dX11_look_105
    · skip
      refine lv_tableIn (tgt := 106) hx hb dX11_look_1 (by decide) (by decide) rfl (by decide) ?_
      refine lv_aload_n hx hb dX11_look_106 rfl (lv_at hl 0 rfl) ?_
      refine va_get (D := D) (ci := 11) (v := .ref d_reading) (C := RX11) (T := TX11) (N := 14) hx hb hts in11 hown hK hH.1 0 rfl rfl 1 (by decide) wd8 (fun _ h9 => h9) rfl dX11_look_107 ?_
      refine va_get (D := D) (ci := 5) (v := .int 0) (C := RX5) (T := TX5) (N := 19) hx hb hts in5 hown hK hH.1 4 rfl rfl 4 (by decide) wd11 (fun _ h9 => h9) rfl dX11_look_110 ?_
      exact sj_zret hx hb hr hlocks rfl hS () (by first | exact (if_pos (by decide)).symm | exact (if_neg (by omega)).symm) sj_nil (sj_Knil hK) (Nat.le_of_ble_eq_true rfl) (Nat.le_of_ble_eq_true rfl) dX11_look_113
  · skip
    refine lv_tableOut (tgt := 114) hx hb dX11_look_1 (by omega) (by decide) ?_
    refine lv_iconst (v := (-1)) hx hb dX11_look_114 (by decide) ?_
    exact sj_zret hx hb hr hlocks rfl hS () (by first | exact (if_pos (by decide)).symm | exact (if_neg (by omega)).symm) sj_nil (sj_Knil hK) (Nat.le_of_ble_eq_true rfl) (Nat.le_of_ble_eq_true rfl) dX11_look_115
set_option maxHeartbeats 4000000 in
set_option maxRecDepth 100000 in
/-- no worker has a case -/
theorem c_X11_world (l : Launch) (D : va_G) (h0 : Nat) (worker : Int32) (d_text : Nat) (d_reading : Nat) (d_cases : Nat) (d_scripts : Nat) (d_run : Nat) (d_definitions : Nat) (d_definitionScripts : Nat) (d_hookTags : Nat) (d_hookBefore : Nat) (d_hookScripts : Nat) (d_filterInUse : Nat) (d_filterToTry : Nat) (r_workers : Nat) (r_queue : Nat) (r_events : Nat) (w0 : Nat) (w1 : Nat) (w2 : Nat) (kw : ClassId) (sz : Nat)  : Met l yX11_world wsX11_world ({ frames := 0, cells := 0, slots := 0, locals := 0 }) (va_Pc [.ref h0, .int worker] (sj_B D [(h0, .inr (11, [.ref d_text, .ref d_reading, .ref d_cases, .ref d_scripts, .ref d_run, .ref d_definitions, .ref d_definitionScripts, .int 0, .ref d_hookTags, .ref d_hookBefore, .ref d_hookScripts, .int 0, .ref d_filterInUse, .ref d_filterToTry])), (d_run, .inr (7, [.ref r_workers, .int 0, .int 0, .ref r_queue, .int 0, .int 0, .int 0, .int 0, .int 0, .ref r_events, .int 0])), (r_workers, .inl (kw, 3, .inr (.inr (.inr (.inr (sj_f3 w0 w1 w2)))))), (w0, .inr (10, [.int 0, .int (-1), .int 0, .int 0, .int 0, .double 0, .int 0, .int 0])), (w1, .inr (10, [.int 1, .int (-1), .int 0, .int 0, .int 0, .double 0, .int 0, .int 0])), (w2, .inr (10, [.int 2, .int (-1), .int 0, .int 0, .int 0, .double 0, .int 0, .int 0]))] [(kw, .object RX10)] sz sj_n)) (sj_Qd (S := Unit) D (fun r _ => r = 0) (fun u => []) (fun u => []) (va_A [(h0, .inr (11, [.ref d_text, .ref d_reading, .ref d_cases, .ref d_scripts, .ref d_run, .ref d_definitions, .ref d_definitionScripts, .int 0, .ref d_hookTags, .ref d_hookBefore, .ref d_hookScripts, .int 0, .ref d_filterInUse, .ref d_filterToTry])), (d_run, .inr (7, [.ref r_workers, .int 0, .int 0, .ref r_queue, .int 0, .int 0, .int 0, .int 0, .int 0, .ref r_events, .int 0])), (r_workers, .inl (kw, 3, .inr (.inr (.inr (.inr (sj_f3 w0 w1 w2)))))), (w0, .inr (10, [.int 0, .int (-1), .int 0, .int 0, .int 0, .double 0, .int 0, .int 0])), (w1, .inr (10, [.int 1, .int (-1), .int 0, .int 0, .int 0, .double 0, .int 0, .int 0])), (w2, .inr (10, [.int 2, .int (-1), .int 0, .int 0, .int 0, .double 0, .int 0, .int 0]))] sz)) 0 0 (va_A [(h0, .inr (11, [.ref d_text, .ref d_reading, .ref d_cases, .ref d_scripts, .ref d_run, .ref d_definitions, .ref d_definitionScripts, .int 0, .ref d_hookTags, .ref d_hookBefore, .ref d_hookScripts, .int 0, .ref d_filterInUse, .ref d_filterToTry])), (d_run, .inr (7, [.ref r_workers, .int 0, .int 0, .ref r_queue, .int 0, .int 0, .int 0, .int 0, .int 0, .ref r_events, .int 0])), (r_workers, .inl (kw, 3, .inr (.inr (.inr (.inr (sj_f3 w0 w1 w2)))))), (w0, .inr (10, [.int 0, .int (-1), .int 0, .int 0, .int 0, .double 0, .int 0, .int 0])), (w1, .inr (10, [.int 1, .int (-1), .int 0, .int 0, .int 0, .double 0, .int 0, .int 0])), (w2, .inr (10, [.int 2, .int (-1), .int 0, .int 0, .int 0, .double 0, .int 0, .int 0]))] sz) := by
  refine sj_met (cc := cX11_world) (maxL := 2) (ret := (some .double)) (by decide) rfl (Nat.le_of_ble_eq_true rfl) ?_
  intro p e s m below meth c A ls hx hb hr hml hts hown hlocks hnm hA hsz hS hH hK hE hl
  have hown : s.vm.findClass RX11 = some m.cls := hown
  have in7 : ∀ w ∈ wsX70, w ∈ wsX11_world := by decide +kernel
  have in10 : ∀ w ∈ wsX100, w ∈ wsX11_world := by decide +kernel
  have in11 : ∀ w ∈ wsX110, w ∈ wsX11_world := by decide +kernel
  have wd0 := hts (.fieldLink RX11 44 "StoryDesk" "run" "LStoryDesk$Run;") (by decide +kernel)
  have wd1 := hts (.fieldLink RX11 242 "StoryDesk$Run" "workers" "[LStoryDesk$Worker;") (by decide +kernel)
  have wd2 := hts (.fieldLink RX11 257 "StoryDesk$Worker" "story" "I") (by decide +kernel)
  have hl : lv_has ls 2 [(0, .ref h0), (1, .int worker)] := hl
  have hH : sj_H D A ([(h0, .inr (11, [.ref d_text, .ref d_reading, .ref d_cases, .ref d_scripts, .ref d_run, .ref d_definitions, .ref d_definitionScripts, .int 0, .ref d_hookTags, .ref d_hookBefore, .ref d_hookScripts, .int 0, .ref d_filterInUse, .ref d_filterToTry])), (d_run, .inr (7, [.ref r_workers, .int 0, .int 0, .ref r_queue, .int 0, .int 0, .int 0, .int 0, .int 0, .ref r_events, .int 0])), (r_workers, .inl (kw, 3, .inr (.inr (.inr (.inr (sj_f3 w0 w1 w2)))))), (w0, .inr (10, [.int 0, .int (-1), .int 0, .int 0, .int 0, .double 0, .int 0, .int 0])), (w1, .inr (10, [.int 1, .int (-1), .int 0, .int 0, .int 0, .double 0, .int 0, .int 0])), (w2, .inr (10, [.int 2, .int (-1), .int 0, .int 0, .int 0, .double 0, .int 0, .int 0]))] ++ []) s.heap := hH
  refine lv_iload_n hx hb dX11_world_0 rfl (lv_at hl 1 rfl) ?_
  refine lv_if_lt (tgt := 24) hx hb dX11_world_1 (by decide) (fun c_1 => ?_) (fun c_1 => ?_)
  · skip
    have d_2 := sj_ltF (n := 0) (by decide) c_1
    refine lv_dconst0 hx hb dX11_world_24 ?_
    exact sj_dret hx hb hr hlocks hS () rfl sj_nil (sj_Knil hK) (Nat.le_of_ble_eq_true rfl) (Nat.le_of_ble_eq_true rfl) dX11_world_25
  · skip
    have d_3 := sj_nlt (n := 0) (by decide) c_1
    refine lv_iload_n hx hb dX11_world_4 rfl (lv_at hl 1 rfl) ?_
    refine lv_iconst (v := 3) hx hb dX11_world_5 (by decide) ?_
    refine lv_icmp_ge (tgt := 24) hx hb dX11_world_6 (by decide) (fun c_4 => ?_) (fun c_4 => ?_)
    · skip
      have d_5 := sj_geF (n := 3) (by decide) c_4
      refine lv_dconst0 hx hb dX11_world_24 ?_
      exact sj_dret hx hb hr hlocks hS () rfl sj_nil (sj_Knil hK) (Nat.le_of_ble_eq_true rfl) (Nat.le_of_ble_eq_true rfl) dX11_world_25
    · skip
      have d_6 := sj_nge (n := 3) (by decide) c_4
      refine lv_aload_n hx hb dX11_world_9 rfl (lv_at hl 0 rfl) ?_
      refine va_get (D := D) (ci := 11) (v := .ref d_run) (C := RX11) (T := TX11) (N := 14) hx hb hts in11 hown hK hH.1 0 rfl rfl 4 (by decide) wd0 (fun _ h9 => h9) rfl dX11_world_10 ?_
      refine va_get (D := D) (ci := 7) (v := .ref r_workers) (C := RX7) (T := TX7) (N := 11) hx hb hts in7 hown hK hH.1 1 rfl rfl 0 (by decide) wd1 (fun _ h9 => h9) rfl dX11_world_13 ?_
      refine lv_iload_n hx hb dX11_world_16 rfl (lv_at hl 1 rfl) ?_
      have sp_7 : worker = 0 ∨ worker = 1 ∨ worker = 2 := by
        rcases (show worker.toInt = 0 ∨ worker.toInt = 1 ∨ worker.toInt = 2 by omega) with h | h | h
        · exact Or.inl (sj_eqP (by decide) h)
        · exact Or.inr (Or.inl (sj_eqP (by decide) h))
        · exact Or.inr (Or.inr (sj_eqP (by decide) h))
      rcases sp_7 with rfl | rfl | rfl
      · skip
        refine va_aldq hx hb hK hH.1 2 0 rfl rfl (sj_vin (by decide) (by decide)) dX11_world_17 ?_
        refine sj_v (y := .ref w0) (rfl) ?_
        refine va_get (D := D) (ci := 10) (v := .int (-1)) (C := RX10) (T := TX10) (N := 8) hx hb hts in10 hown hK hH.1 3 rfl rfl 1 (by decide) wd2 (fun _ h9 => h9) rfl dX11_world_18 ?_
        refine lv_if_ge (tgt := 26) hx hb dX11_world_21 (by decide) (fun h => absurd h (by decide)) (fun _ => ?_)
        refine lv_dconst0 hx hb dX11_world_24 ?_
        exact sj_dret hx hb hr hlocks hS () rfl sj_nil (sj_Knil hK) (Nat.le_of_ble_eq_true rfl) (Nat.le_of_ble_eq_true rfl) dX11_world_25
      · skip
        refine va_aldq hx hb hK hH.1 2 0 rfl rfl (sj_vin (by decide) (by decide)) dX11_world_17 ?_
        refine sj_v (y := .ref w1) (rfl) ?_
        refine va_get (D := D) (ci := 10) (v := .int (-1)) (C := RX10) (T := TX10) (N := 8) hx hb hts in10 hown hK hH.1 4 rfl rfl 1 (by decide) wd2 (fun _ h9 => h9) rfl dX11_world_18 ?_
        refine lv_if_ge (tgt := 26) hx hb dX11_world_21 (by decide) (fun h => absurd h (by decide)) (fun _ => ?_)
        refine lv_dconst0 hx hb dX11_world_24 ?_
        exact sj_dret hx hb hr hlocks hS () rfl sj_nil (sj_Knil hK) (Nat.le_of_ble_eq_true rfl) (Nat.le_of_ble_eq_true rfl) dX11_world_25
      · skip
        refine va_aldq hx hb hK hH.1 2 0 rfl rfl (sj_vin (by decide) (by decide)) dX11_world_17 ?_
        refine sj_v (y := .ref w2) (rfl) ?_
        refine va_get (D := D) (ci := 10) (v := .int (-1)) (C := RX10) (T := TX10) (N := 8) hx hb hts in10 hown hK hH.1 5 rfl rfl 1 (by decide) wd2 (fun _ h9 => h9) rfl dX11_world_18 ?_
        refine lv_if_ge (tgt := 26) hx hb dX11_world_21 (by decide) (fun h => absurd h (by decide)) (fun _ => ?_)
        refine lv_dconst0 hx hb dX11_world_24 ?_
        exact sj_dret hx hb hr hlocks hS () rfl sj_nil (sj_Knil hK) (Nat.le_of_ble_eq_true rfl) (Nat.le_of_ble_eq_true rfl) dX11_world_25
