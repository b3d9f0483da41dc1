theorem dX11_error_0 : decode cX11_error 0 = .ok (.iload_n 1, 1) := by decide +kernel
theorem dX11_error_1 : decode cX11_error 1 = .ok (.ifCond .lt 23, 3) := by decide +kernel
theorem dX11_error_24 : decode cX11_error 24 = .ok (.new 105, 3) := by decide +kernel
theorem dX11_error_27 : decode cX11_error 27 = .ok (.dup, 1) := by decide +kernel
theorem dX11_error_28 : decode cX11_error 28 = .ok (.invokespecial 107, 3) := by decide +kernel
theorem dX11_error_31 : decode cX11_error 31 = .ok (.athrow, 1) := by decide +kernel
theorem dX11_error_4 : decode cX11_error 4 = .ok (.iload_n 1, 1) := by decide +kernel
theorem dX11_error_5 : decode cX11_error 5 = .ok (.aload_n 0, 1) := by decide +kernel
theorem dX11_error_6 : decode cX11_error 6 = .ok (.getfield 21, 3) := by decide +kernel
theorem dX11_error_9 : decode cX11_error 9 = .ok (.getfield 102, 3) := by decide +kernel
theorem dX11_error_12 : decode cX11_error 12 = .ok (.if_icmp .ge 12, 3) := by decide +kernel
theorem dX11_error_15 : decode cX11_error 15 = .ok (.iload_n 2, 1) := by decide +kernel
theorem dX11_error_16 : decode cX11_error 16 = .ok (.ifCond .lt 8, 3) := by decide +kernel
theorem dX11_error_19 : decode cX11_error 19 = .ok (.iload_n 2, 1) := by decide +kernel
theorem dX11_error_20 : decode cX11_error 20 = .ok (.iconst 1, 1) := by decide +kernel
theorem dX11_error_21 : decode cX11_error 21 = .ok (.if_icmp .le 11, 3) := by decide +kernel
theorem dX11_error_32 : decode cX11_error 32 = .ok (.iload_n 2, 1) := by decide +kernel
theorem dX11_error_33 : decode cX11_error 33 = .ok (.ifCond .ne 15, 3) := by decide +kernel
theorem dX11_error_48 : decode cX11_error 48 = .ok (.aload_n 0, 1) := by decide +kernel
theorem dX11_error_49 : decode cX11_error 49 = .ok (.getfield 21, 3) := by decide +kernel
theorem dX11_error_52 : decode cX11_error 52 = .ok (.getfield 111, 3) := by decide +kernel
theorem dX11_error_55 : decode cX11_error 55 = .ok (.iload_n 1, 1) := by decide +kernel
theorem dX11_error_56 : decode cX11_error 56 = .ok (.iaload, 1) := by decide +kernel
theorem dX11_error_57 : decode cX11_error 57 = .ok (.ireturn, 1) := by decide +kernel
theorem dX11_error_36 : decode cX11_error 36 = .ok (.aload_n 0, 1) := by decide +kernel
theorem dX11_error_37 : decode cX11_error 37 = .ok (.getfield 21, 3) := by decide +kernel
theorem dX11_error_40 : decode cX11_error 40 = .ok (.getfield 108, 3) := by decide +kernel
theorem dX11_error_43 : decode cX11_error 43 = .ok (.iload_n 1, 1) := by decide +kernel
theorem dX11_error_44 : decode cX11_error 44 = .ok (.iaload, 1) := by decide +kernel
theorem dX11_error_45 : decode cX11_error 45 = .ok (.goto 12, 3) := by decide +kernel
theorem dX11_story_0 : decode cX11_story 0 = .ok (.iload_n 1, 1) := by decide +kernel
theorem dX11_story_1 : decode cX11_story 1 = .ok (.ifCond .lt 23, 3) := by decide +kernel
theorem dX11_story_24 : decode cX11_story 24 = .ok (.new 105, 3) := by decide +kernel
theorem dX11_story_27 : decode cX11_story 27 = .ok (.dup, 1) := by decide +kernel
theorem dX11_story_28 : decode cX11_story 28 = .ok (.invokespecial 107, 3) := by decide +kernel
theorem dX11_story_31 : decode cX11_story 31 = .ok (.athrow, 1) := by decide +kernel
theorem dX11_story_4 : decode cX11_story 4 = .ok (.iload_n 1, 1) := by decide +kernel
theorem dX11_story_5 : decode cX11_story 5 = .ok (.aload_n 0, 1) := by decide +kernel
theorem dX11_story_6 : decode cX11_story 6 = .ok (.getfield 30, 3) := by decide +kernel
theorem dX11_story_9 : decode cX11_story 9 = .ok (.getfield 134, 3) := by decide +kernel
theorem dX11_story_12 : decode cX11_story 12 = .ok (.if_icmp .ge 12, 3) := by decide +kernel
theorem dX11_story_15 : decode cX11_story 15 = .ok (.iload_n 2, 1) := by decide +kernel
theorem dX11_story_16 : decode cX11_story 16 = .ok (.ifCond .lt 8, 3) := by decide +kernel
theorem dX11_story_19 : decode cX11_story 19 = .ok (.iload_n 2, 1) := by decide +kernel
theorem dX11_story_20 : decode cX11_story 20 = .ok (.iconst 4, 1) := by decide +kernel
theorem dX11_story_21 : decode cX11_story 21 = .ok (.if_icmp .le 11, 3) := by decide +kernel
theorem dX11_story_32 : decode cX11_story 32 = .ok (.aload_n 0, 1) := by decide +kernel
theorem dX11_story_33 : decode cX11_story 33 = .ok (.getfield 30, 3) := by decide +kernel
theorem dX11_story_36 : decode cX11_story 36 = .ok (.getfield 137, 3) := by decide +kernel
theorem dX11_story_39 : decode cX11_story 39 = .ok (.iload_n 1, 1) := by decide +kernel
theorem dX11_story_40 : decode cX11_story 40 = .ok (.aaload, 1) := by decide +kernel
theorem dX11_story_41 : decode cX11_story 41 = .ok (.astore_n 3, 1) := by decide +kernel
theorem dX11_story_42 : decode cX11_story 42 = .ok (.iload_n 2, 1) := by decide +kernel
theorem dX11_story_43 : decode cX11_story 43 = .ok (.ifCond .ne 12, 3) := by decide +kernel
theorem dX11_story_55 : decode cX11_story 55 = .ok (.iload_n 2, 1) := by decide +kernel
theorem dX11_story_56 : decode cX11_story 56 = .ok (.iconst 1, 1) := by decide +kernel
theorem dX11_story_57 : decode cX11_story 57 = .ok (.if_icmp .ne 8, 3) := by decide +kernel
theorem dX11_story_65 : decode cX11_story 65 = .ok (.iload_n 2, 1) := by decide +kernel
theorem dX11_story_66 : decode cX11_story 66 = .ok (.iconst 2, 1) := by decide +kernel
theorem dX11_story_67 : decode cX11_story 67 = .ok (.if_icmp .ne 11, 3) := by decide +kernel
theorem dX11_story_78 : decode cX11_story 78 = .ok (.iload_n 2, 1) := by decide +kernel
theorem dX11_story_79 : decode cX11_story 79 = .ok (.iconst 3, 1) := by decide +kernel
theorem dX11_story_80 : decode cX11_story 80 = .ok (.if_icmp .ne 22, 3) := by decide +kernel
theorem dX11_story_102 : decode cX11_story 102 = .ok (.aload_n 3, 1) := by decide +kernel
theorem dX11_story_103 : decode cX11_story 103 = .ok (.getfield 173, 3) := by decide +kernel
theorem dX11_story_106 : decode cX11_story 106 = .ok (.ireturn, 1) := by decide +kernel
theorem dX11_story_83 : decode cX11_story 83 = .ok (.aload_n 3, 1) := by decide +kernel
theorem dX11_story_84 : decode cX11_story 84 = .ok (.getfield 166, 3) := by decide +kernel
theorem dX11_story_87 : decode cX11_story 87 = .ok (.ifnonnull 7, 3) := by decide +kernel
theorem dX11_story_90 : decode cX11_story 90 = .ok (.iconst 0, 1) := by decide +kernel
theorem dX11_story_91 : decode cX11_story 91 = .ok (.goto 10, 3) := by decide +kernel
theorem dX11_story_101 : decode cX11_story 101 = .ok (.ireturn, 1) := by decide +kernel
theorem dX11_story_94 : decode cX11_story 94 = .ok (.aload_n 3, 1) := by decide +kernel
theorem dX11_story_95 : decode cX11_story 95 = .ok (.getfield 166, 3) := by decide +kernel
theorem dX11_story_98 : decode cX11_story 98 = .ok (.getfield 170, 3) := by decide +kernel
theorem dX11_story_70 : decode cX11_story 70 = .ok (.aload_n 3, 1) := by decide +kernel
theorem dX11_story_71 : decode cX11_story 71 = .ok (.getfield 157, 3) := by decide +kernel
theorem dX11_story_74 : decode cX11_story 74 = .ok (.getfield 161, 3) := by decide +kernel
theorem dX11_story_77 : decode cX11_story 77 = .ok (.ireturn, 1) := by decide +kernel
theorem dX11_story_60 : decode cX11_story 60 = .ok (.aload_n 3, 1) := by decide +kernel
theorem dX11_story_61 : decode cX11_story 61 = .ok (.getfield 141, 3) := by decide +kernel
theorem dX11_story_64 : decode cX11_story 64 = .ok (.ireturn, 1) := by decide +kernel
theorem dX11_story_46 : decode cX11_story 46 = .ok (.aload_n 0, 1) := by decide +kernel
theorem dX11_story_47 : decode cX11_story 47 = .ok (.getfield 30, 3) := by decide +kernel
theorem dX11_story_50 : decode cX11_story 50 = .ok (.aload_n 3, 1) := by decide +kernel
theorem dX11_story_51 : decode cX11_story 51 = .ok (.invokevirtual 153, 3) := by decide +kernel
theorem dX11_story_54 : decode cX11_story 54 = .ok (.ireturn, 1) := by decide +kernel
theorem gX11_story_X1_stepCount : GoodIn wsX11_story (wsV RX11 153 RX1 yX1_stepCount wsX1_stepCount) := goodIn_app (goodIn_sub (List.forall_mem_cons.mpr ⟨(List.mem_cons_of_mem _ (List.mem_append_left _ (List.mem_append_left _ (List.mem_append_left _ (List.mem_append_left _ (List.mem_append_left _ (List.mem_append_left _ (List.mem_append_left _ (List.mem_append_left _ lm11))))))))), List.forall_mem_cons.mpr ⟨(List.mem_cons_of_mem _ (List.mem_append_left _ (List.mem_append_left _ (List.mem_append_left _ (List.mem_append_left _ (List.mem_append_left _ (List.mem_append_left _ (List.mem_append_left _ (List.mem_append_left _ lm12))))))))), List.forall_mem_cons.mpr ⟨(List.mem_cons_of_mem _ (List.mem_append_left _ (List.mem_append_left _ (List.mem_append_left _ (List.mem_append_left _ (List.mem_append_left _ (List.mem_append_left _ (List.mem_append_left _ (List.mem_append_left _ lm13))))))))), List.forall_mem_cons.mpr ⟨(List.mem_cons_of_mem _ (List.mem_append_left _ (List.mem_append_left _ (List.mem_append_left _ (List.mem_append_left _ (List.mem_append_left _ (List.mem_append_left _ (List.mem_append_left _ (List.mem_append_left _ lm14))))))))), (fun _ h => absurd h List.not_mem_nil)⟩⟩⟩⟩) (by decide +kernel)) (goodIn_sub (by unfold wsX1_stepCount; exact List.forall_mem_cons.mpr ⟨(List.mem_cons_of_mem _ (List.mem_append_left _ (List.mem_append_left _ (List.mem_append_left _ (List.mem_append_left _ (List.mem_append_left _ (List.mem_append_left _ (List.mem_append_left _ (List.mem_append_left _ lm15))))))))), List.forall_mem_append.mpr ⟨List.forall_mem_append.mpr ⟨List.forall_mem_append.mpr ⟨List.forall_mem_append.mpr ⟨List.forall_mem_cons.mpr ⟨(List.mem_cons_of_mem _ (List.mem_append_left _ (List.mem_append_left _ (List.mem_append_left _ (List.mem_append_left _ (List.mem_append_left _ (List.mem_append_left _ (List.mem_append_left _ (List.mem_append_left _ lm16))))))))), List.forall_mem_cons.mpr ⟨(List.mem_cons_of_mem _ (List.mem_append_left _ (List.mem_append_left _ (List.mem_append_left _ (List.mem_append_left _ (List.mem_append_left _ (List.mem_append_left _ (List.mem_append_left _ (List.mem_append_left _ lm17))))))))), List.forall_mem_cons.mpr ⟨(List.mem_cons_of_mem _ (List.mem_append_left _ (List.mem_append_left _ (List.mem_append_left _ (List.mem_append_left _ (List.mem_append_left _ (List.mem_append_left _ (List.mem_append_left _ (List.mem_append_left _ lm18))))))))), List.forall_mem_cons.mpr ⟨(List.mem_cons_of_mem _ (List.mem_append_left _ (List.mem_append_left _ (List.mem_append_left _ (List.mem_append_left _ (List.mem_append_left _ (List.mem_append_left _ (List.mem_append_left _ (List.mem_append_left _ lm19))))))))), List.forall_mem_cons.mpr ⟨(List.mem_cons_of_mem _ (List.mem_append_left _ (List.mem_append_left _ (List.mem_append_left _ (List.mem_append_left _ (List.mem_append_left _ (List.mem_append_left _ (List.mem_append_left _ (List.mem_append_left _ lm20))))))))), List.forall_mem_cons.mpr ⟨(List.mem_cons_of_mem _ (List.mem_append_left _ (List.mem_append_left _ (List.mem_append_left _ (List.mem_append_left _ (List.mem_append_left _ (List.mem_append_left _ (List.mem_append_left _ (List.mem_append_left _ lm14))))))))), List.forall_mem_cons.mpr ⟨(List.mem_cons_of_mem _ (List.mem_append_left _ (List.mem_append_left _ (List.mem_append_left _ (List.mem_append_left _ (List.mem_append_left _ (List.mem_append_left _ (List.mem_append_left _ (List.mem_append_left _ lm21))))))))), List.forall_mem_cons.mpr ⟨(List.mem_cons_of_mem _ (List.mem_append_left _ (List.mem_append_left _ (List.mem_append_left _ (List.mem_append_left _ (List.mem_append_left _ (List.mem_append_left _ (List.mem_append_left _ (List.mem_append_left _ lm22))))))))), List.forall_mem_cons.mpr ⟨(List.mem_cons_of_mem _ (List.mem_append_left _ (List.mem_append_left _ (List.mem_append_left _ (List.mem_append_left _ (List.mem_append_left _ (List.mem_append_left _ (List.mem_append_left _ (List.mem_append_left _ lm23))))))))), List.forall_mem_cons.mpr ⟨(List.mem_cons_of_mem _ (List.mem_append_left _ (List.mem_append_left _ (List.mem_append_left _ (List.mem_append_left _ (List.mem_append_left _ (List.mem_append_left _ (List.mem_append_left _ (List.mem_append_right _ lm0))))))))), (fun _ h => absurd h List.not_mem_nil)⟩⟩⟩⟩⟩⟩⟩⟩⟩⟩, (fun _ h => (List.mem_cons_of_mem _ (List.mem_append_left _ (List.mem_append_left _ (List.mem_append_left _ (List.mem_append_left _ (List.mem_append_right _ h)))))))⟩, (fun _ h => (List.mem_cons_of_mem _ (List.mem_append_left _ (List.mem_append_left _ (List.mem_append_left _ (List.mem_append_right _ h))))))⟩, (fun _ h => (List.mem_cons_of_mem _ (List.mem_append_left _ (List.mem_append_left _ (List.mem_append_left _ (List.mem_append_left _ (List.mem_append_left _ (List.mem_append_right _ h))))))))⟩, (fun _ h => (List.mem_cons_of_mem _ (List.mem_append_left _ (List.mem_append_right _ h))))⟩⟩) gw_X1_stepCount)
set_option maxHeartbeats 2000000 in
set_option maxRecDepth 100000 in
theorem k_error (l : Launch) (D : va_G) (g : Nat → Nat) (ka : Nat → ClassId) (ad : Nat → Nat) (i : Nat → Nat → Int32) (r : Nat → Nat → Nat) (L : Nat → Nat → Int64) (d : Nat → Nat → UInt64) (x : Int32) (y : Int32) (hO : OkI i) (hR : RS r) (sz : Nat) (hst : l.stackTraces = false) : vx_Met l yX11_error wsX11_error ({ frames := 6, cells := 1, slots := 6, locals := 90 }) (va_Pc [.ref (g 0), .int x, .int y] (sj_B D (hwc g ka i r L d) (hT ka) sz (gx ad (va_A (hwc g ka i r L d) sz)))) (sj_Qi (S := Unit) D (fun v u => True) (fun _ => hwc g ka i r L d) (fun _ => []) (va_A (hwc g ka i r L d) sz)) (x_XC (S := Unit) D (fun (E : String) _ => (E = "java/lang/IndexOutOfBoundsException")) (fun _ => hwc g ka i r L d) (va_A (hwc g ka i r L d) sz)) 1 6 (va_A (hwc g ka i r L d) sz) := by
  refine x_vmet (Ex := gx ad) (XC := x_XC (S := Unit) D (fun (E : String) _ => (E = "java/lang/IndexOutOfBoundsException")) (fun _ => hwc g ka i r L d)) (cc := cX11_error) (maxL := 3) (ret := (some .int)) (by decide) rfl (Nat.le_of_ble_eq_true rfl) ?_
  intro p e s m below meth c A ls hx hb hr hml hts hown hlocks hnt hA hS hH hK hE hl
  have hown : s.vm.findClass RX11 = some m.cls := hown
  have in5 : ∀ w ∈ wsX50, w ∈ wsX11_error := (fun _ h => (List.mem_cons_of_mem _ (List.mem_append_left _ (List.mem_append_right _ h))))
  have in11 : ∀ w ∈ wsX110, w ∈ wsX11_error := (fun _ h => (List.mem_cons_of_mem _ (List.mem_append_left _ (List.mem_append_left _ (List.mem_append_right _ h)))))
  have wd0 := hts (.classLink RX11 105 "java/lang/IndexOutOfBoundsException") (List.mem_cons_of_mem _ (List.mem_append_left _ (List.mem_append_left _ (List.mem_append_left _ lm0))))
  have wd1 := hts (.initialized "java/lang/IndexOutOfBoundsException") (List.mem_cons_of_mem _ (List.mem_append_left _ (List.mem_append_left _ (List.mem_append_left _ lm1))))
  have wd2 := hts (.fieldLink RX11 21 "StoryDesk" "reading" "LStoryDesk$Reading;") (List.mem_cons_of_mem _ (List.mem_append_left _ (List.mem_append_left _ (List.mem_append_left _ lm2))))
  have wd3 := hts (.fieldLink RX11 102 "StoryDesk$Reading" "errors" "I") (List.mem_cons_of_mem _ (List.mem_append_left _ (List.mem_append_left _ (List.mem_append_left _ lm3))))
  have wd4 := hts (.fieldLink RX11 111 "StoryDesk$Reading" "errorNumbers" "[I") (List.mem_cons_of_mem _ (List.mem_append_left _ (List.mem_append_left _ (List.mem_append_left _ lm5))))
  have wd5 := hts (.fieldLink RX11 108 "StoryDesk$Reading" "errorLines" "[I") (List.mem_cons_of_mem _ (List.mem_append_left _ (List.mem_append_left _ (List.mem_append_left _ lm4))))
  have thr_107 : ∀ w ∈ (vx_at0 RX11 107 "java/lang/IndexOutOfBoundsException" ["java/lang/RuntimeException", "java/lang/Exception"]).filter goodWord, w ∈ wsX11_error := by decide +kernel
  have hl : lv_has ls 3 [(0, .ref (g 0)), (1, .int x), (2, .int y)] := hl
  have hK : va_K D vwCl (hT ka) s := hK
  have hg_1 := s_rng x
  have hg_2 := s_rng y
  have hb13 : (0 : Int) ≤ (i 13 4).toInt ∧ (i 13 4).toInt ≤ 24 := hO 13 4
  refine lv_iload_n hx hb dX11_error_0 rfl (lv_at hl 1 rfl) ?_
  refine lv_if_lt (tgt := 24) hx hb dX11_error_1 (by decide) (fun c_3 => ?_) (fun c_3 => ?_)
  · skip
    have h_4 := s_lt (rfl : x.toInt = _) (show (0 : Int32).toInt = 0 from rfl) c_3
    have hpx : (fun (E : String) (_ : Unit) => (E = "java/lang/IndexOutOfBoundsException")) "java/lang/IndexOutOfBoundsException" () := rfl
    have hHx : sj_H D A ((fun (_ : Unit) => hwc g ka i r L d) ()) s.heap := hH
    exact x_throw (px := (fun (E : String) (_ : Unit) => (E = "java/lang/IndexOutOfBoundsException"))) (W1 := (fun (_ : Unit) => hwc g ka i r L d)) hx hb hst (ik := 105) (ic := 107) (cls := "java/lang/IndexOutOfBoundsException") () hpx hown (by decide) wd0 wd1 (fun w h => hts w (thr_107 w h)) (by decide +kernel) (by decide +kernel) (gx_iob hE) hS hHx hK (hl.1.trans hml.symm) dX11_error_24 dX11_error_27 dX11_error_28 dX11_error_31 hnt (Nat.le_of_ble_eq_true rfl) (Nat.le_of_ble_eq_true rfl) (Nat.le_of_ble_eq_true rfl) (Nat.le_of_ble_eq_true rfl) hlocks (Nat.le_of_ble_eq_true rfl) (Nat.le_of_ble_eq_true rfl)
  · skip
    have h_5 := s_nlt (rfl : x.toInt = _) (show (0 : Int32).toInt = 0 from rfl) c_3
    refine lv_iload_n hx hb dX11_error_4 rfl (lv_at hl 1 rfl) ?_
    refine lv_aload_n hx hb dX11_error_5 rfl (lv_at hl 0 rfl) ?_
    refine h_getr (ci := 11) (C := RX11) (F := TX11) (N := 14) hx hb hts in11 hown hK hH (by decide) (rfl : kd 0 = 11) (by decide) rfl 1 (by decide) wd2 (fun _ h9 => h9) (by decide) rfl (t := 3) (hR 0 1 rfl) (by decide) dX11_error_6 ?_
    have bx_6 : (0 : Int) ≤ (i 3 4).toInt ∧ (i 3 4).toInt ≤ 20 := hO 3 4
    refine h_geti (ci := 5) (C := RX5) (F := TX5) (N := 19) hx hb hts in5 hown hK hH (by decide) (rfl : kd 3 = 5) (by decide) rfl 4 (by decide) wd3 (fun _ h9 => h9) (by decide) rfl dX11_error_9 ?_
    refine lv_icmp_ge (tgt := 24) hx hb dX11_error_12 (by decide) (fun c_7 => ?_) (fun c_7 => ?_)
    · skip
      have h_8 := s_le (rfl : (i 3 4).toInt = _) (rfl : x.toInt = _) c_7
      have hpx : (fun (E : String) (_ : Unit) => (E = "java/lang/IndexOutOfBoundsException")) "java/lang/IndexOutOfBoundsException" () := rfl
      have hHx : sj_H D A ((fun (_ : Unit) => hwc g ka i r L d) ()) s.heap := hH
      exact x_throw (px := (fun (E : String) (_ : Unit) => (E = "java/lang/IndexOutOfBoundsException"))) (W1 := (fun (_ : Unit) => hwc g ka i r L d)) hx hb hst (ik := 105) (ic := 107) (cls := "java/lang/IndexOutOfBoundsException") () hpx hown (by decide) wd0 wd1 (fun w h => hts w (thr_107 w h)) (by decide +kernel) (by decide +kernel) (gx_iob hE) hS hHx hK (hl.1.trans hml.symm) dX11_error_24 dX11_error_27 dX11_error_28 dX11_error_31 hnt (Nat.le_of_ble_eq_true rfl) (Nat.le_of_ble_eq_true rfl) (Nat.le_of_ble_eq_true rfl) (Nat.le_of_ble_eq_true rfl) hlocks (Nat.le_of_ble_eq_true rfl) (Nat.le_of_ble_eq_true rfl)
    · skip
      have h_9 := s_nle (rfl : (i 3 4).toInt = _) (rfl : x.toInt = _) c_7
      refine lv_iload_n hx hb dX11_error_15 rfl (lv_at hl 2 rfl) ?_
      refine lv_if_lt (tgt := 24) hx hb dX11_error_16 (by decide) (fun c_10 => ?_) (fun c_10 => ?_)
      · skip
        have h_11 := s_lt (rfl : y.toInt = _) (show (0 : Int32).toInt = 0 from rfl) c_10
        have hpx : (fun (E : String) (_ : Unit) => (E = "java/lang/IndexOutOfBoundsException")) "java/lang/IndexOutOfBoundsException" () := rfl
        have hHx : sj_H D A ((fun (_ : Unit) => hwc g ka i r L d) ()) s.heap := hH
        exact x_throw (px := (fun (E : String) (_ : Unit) => (E = "java/lang/IndexOutOfBoundsException"))) (W1 := (fun (_ : Unit) => hwc g ka i r L d)) hx hb hst (ik := 105) (ic := 107) (cls := "java/lang/IndexOutOfBoundsException") () hpx hown (by decide) wd0 wd1 (fun w h => hts w (thr_107 w h)) (by decide +kernel) (by decide +kernel) (gx_iob hE) hS hHx hK (hl.1.trans hml.symm) dX11_error_24 dX11_error_27 dX11_error_28 dX11_error_31 hnt (Nat.le_of_ble_eq_true rfl) (Nat.le_of_ble_eq_true rfl) (Nat.le_of_ble_eq_true rfl) (Nat.le_of_ble_eq_true rfl) hlocks (Nat.le_of_ble_eq_true rfl) (Nat.le_of_ble_eq_true rfl)
      · skip
        have h_12 := s_nlt (rfl : y.toInt = _) (show (0 : Int32).toInt = 0 from rfl) c_10
        refine lv_iload_n hx hb dX11_error_19 rfl (lv_at hl 2 rfl) ?_
        refine lv_iconst (v := 1) hx hb dX11_error_20 (by decide) ?_
        refine lv_icmp_le (tgt := 32) hx hb dX11_error_21 (by decide) (fun c_13 => ?_) (fun c_13 => ?_)
        · skip
          have h_14 := s_le (rfl : y.toInt = _) (show (1 : Int32).toInt = 1 from rfl) c_13
          refine lv_iload_n hx hb dX11_error_32 rfl (lv_at hl 2 rfl) ?_
          refine lv_if_ne (tgt := 48) hx hb dX11_error_33 (by decide) (fun c_15 => ?_) (fun c_15 => ?_)
          · skip
            have h_16 := s_ne (rfl : y.toInt = _) (show (0 : Int32).toInt = 0 from rfl) c_15
            refine lv_aload_n hx hb dX11_error_48 rfl (lv_at hl 0 rfl) ?_
            refine h_getr (ci := 11) (C := RX11) (F := TX11) (N := 14) hx hb hts in11 hown hK hH (by decide) (rfl : kd 0 = 11) (by decide) rfl 1 (by decide) wd2 (fun _ h9 => h9) (by decide) rfl (t := 3) (hR 0 1 rfl) (by decide) dX11_error_49 ?_
            refine h_getr (ci := 5) (C := RX5) (F := TX5) (N := 19) hx hb hts in5 hown hK hH (by decide) (rfl : kd 3 = 5) (by decide) rfl 3 (by decide) wd4 (fun _ h9 => h9) (by decide) rfl (t := 7) (hR 3 3 rfl) (by decide) dX11_error_52 ?_
            refine lv_iload_n hx hb dX11_error_55 rfl (lv_at hl 1 rfl) ?_
            refine h_iald hx hb hK hH (by decide) (rfl : kd 7 = 13) (s_vin (N := 20) (rfl : x.toInt = _) (rfl : ln 7 = 20) (by omega) (by omega)) dX11_error_56 ?_
            have ek_17 : x.toNatClampNeg = (x.toInt).toNat := (s_cl (show x.toInt = x.toInt by omega))
            refine sj_i (y := (i 7 (x.toInt).toNat)) (by rw [ek_17]) ?_
            refine vx_ret ?_
            exact sj_zret hx hb hr hlocks rfl hS () trivial hH (sj_Knil hK) (Nat.le_of_ble_eq_true rfl) (Nat.le_of_ble_eq_true rfl) dX11_error_57
          · skip
            have h_18 := s_eq (rfl : y.toInt = _) (show (0 : Int32).toInt = 0 from rfl) c_15
            refine lv_aload_n hx hb dX11_error_36 rfl (lv_at hl 0 rfl) ?_
            refine h_getr (ci := 11) (C := RX11) (F := TX11) (N := 14) hx hb hts in11 hown hK hH (by decide) (rfl : kd 0 = 11) (by decide) rfl 1 (by decide) wd2 (fun _ h9 => h9) (by decide) rfl (t := 3) (hR 0 1 rfl) (by decide) dX11_error_37 ?_
            refine h_getr (ci := 5) (C := RX5) (F := TX5) (N := 19) hx hb hts in5 hown hK hH (by decide) (rfl : kd 3 = 5) (by decide) rfl 2 (by decide) wd5 (fun _ h9 => h9) (by decide) rfl (t := 6) (hR 3 2 rfl) (by decide) dX11_error_40 ?_
            refine lv_iload_n hx hb dX11_error_43 rfl (lv_at hl 1 rfl) ?_
            refine h_iald hx hb hK hH (by decide) (rfl : kd 6 = 13) (s_vin (N := 20) (rfl : x.toInt = _) (rfl : ln 6 = 20) (by omega) (by omega)) dX11_error_44 ?_
            have ek_19 : x.toNatClampNeg = (x.toInt).toNat := (s_cl (show x.toInt = x.toInt by omega))
            refine sj_i (y := (i 6 (x.toInt).toNat)) (by rw [ek_19]) ?_
            refine lv_goto (tgt := 57) hx hb dX11_error_45 (by decide) ?_
            refine vx_ret ?_
            exact sj_zret hx hb hr hlocks rfl hS () trivial hH (sj_Knil hK) (Nat.le_of_ble_eq_true rfl) (Nat.le_of_ble_eq_true rfl) dX11_error_57
        · skip
          have h_20 := s_nle (rfl : y.toInt = _) (show (1 : Int32).toInt = 1 from rfl) c_13
          have hpx : (fun (E : String) (_ : Unit) => (E = "java/lang/IndexOutOfBoundsException")) "java/lang/IndexOutOfBoundsException" () := rfl
          have hHx : sj_H D A ((fun (_ : Unit) => hwc g ka i r L d) ()) s.heap := hH
          exact x_throw (px := (fun (E : String) (_ : Unit) => (E = "java/lang/IndexOutOfBoundsException"))) (W1 := (fun (_ : Unit) => hwc g ka i r L d)) hx hb hst (ik := 105) (ic := 107) (cls := "java/lang/IndexOutOfBoundsException") () hpx hown (by decide) wd0 wd1 (fun w h => hts w (thr_107 w h)) (by decide +kernel) (by decide +kernel) (gx_iob hE) hS hHx hK (hl.1.trans hml.symm) dX11_error_24 dX11_error_27 dX11_error_28 dX11_error_31 hnt (Nat.le_of_ble_eq_true rfl) (Nat.le_of_ble_eq_true rfl) (Nat.le_of_ble_eq_true rfl) (Nat.le_of_ble_eq_true rfl) hlocks (Nat.le_of_ble_eq_true rfl) (Nat.le_of_ble_eq_true rfl)
set_option maxHeartbeats 2000000 in
set_option maxRecDepth 100000 in
theorem k_story (l : Launch) (D : va_G) (g : Nat → Nat) (ka : Nat → ClassId) (ad : Nat → Nat) (i : Nat → Nat → Int32) (r : Nat → Nat → Nat) (L : Nat → Nat → Int64) (d : Nat → Nat → UInt64) (x : Int32) (y : Int32) (hO : OkI i) (hR : RS r) (sz : Nat) (hst : l.stackTraces = false) (hPC : PC i r) : vx_Met l yX11_story wsX11_story ({ frames := 6, cells := 1, slots := 6, locals := 90 }) (va_Pc [.ref (g 0), .int x, .int y] (sj_B D (hwc g ka i r L d) (hT ka) sz (gx ad (va_A (hwc g ka i r L d) sz)))) (sj_Qi (S := Unit) D (fun v u => True) (fun _ => hwc g ka i r L d) (fun _ => []) (va_A (hwc g ka i r L d) sz)) (x_XC (S := Unit) D (fun (E : String) _ => (E = "java/lang/IndexOutOfBoundsException")) (fun _ => hwc g ka i r L d) (va_A (hwc g ka i r L d) sz)) 1 6 (va_A (hwc g ka i r L d) sz) := by
  refine x_vmet (Ex := gx ad) (XC := x_XC (S := Unit) D (fun (E : String) _ => (E = "java/lang/IndexOutOfBoundsException")) (fun _ => hwc g ka i r L d)) (cc := cX11_story) (maxL := 4) (ret := (some .int)) (by decide) rfl (Nat.le_of_ble_eq_true rfl) ?_
  intro p e s m below meth c A ls hx hb hr hml hts hown hlocks hnt hA hS hH hK hE hl
  have hown : s.vm.findClass RX11 = some m.cls := hown
  have in0 : ∀ w ∈ wsX00, w ∈ wsX11_story := (fun _ h => (List.mem_cons_of_mem _ (List.mem_append_left _ (List.mem_append_left _ (List.mem_append_left _ (List.mem_append_left _ (List.mem_append_right _ h)))))))
  have in1 : ∀ w ∈ wsX10, w ∈ wsX11_story := (fun _ h => (List.mem_cons_of_mem _ (List.mem_append_left _ (List.mem_append_left _ (List.mem_append_left _ (List.mem_append_left _ (List.mem_append_left _ (List.mem_append_right _ h))))))))
  have in4 : ∀ w ∈ wsX40, w ∈ wsX11_story := (fun _ h => (List.mem_cons_of_mem _ (List.mem_append_left _ (List.mem_append_left _ (List.mem_append_left _ (List.mem_append_right _ h))))))
  have in6 : ∀ w ∈ wsX60, w ∈ wsX11_story := (fun _ h => (List.mem_cons_of_mem _ (List.mem_append_left _ (List.mem_append_left _ (List.mem_append_right _ h)))))
  have in11 : ∀ w ∈ wsX110, w ∈ wsX11_story := (fun _ h => (List.mem_cons_of_mem _ (List.mem_append_left _ (List.mem_append_left _ (List.mem_append_left _ (List.mem_append_left _ (List.mem_append_left _ (List.mem_append_left _ (List.mem_append_right _ h)))))))))
  have wd0 := hts (.classLink RX11 105 "java/lang/IndexOutOfBoundsException") (List.mem_cons_of_mem _ (List.mem_append_left _ (List.mem_append_left _ (List.mem_append_left _ (List.mem_append_left _ (List.mem_append_left _ (List.mem_append_left _ (List.mem_append_left _ (List.mem_append_left _ lm0)))))))))
  have wd1 := hts (.initialized "java/lang/IndexOutOfBoundsException") (List.mem_cons_of_mem _ (List.mem_append_left _ (List.mem_append_left _ (List.mem_append_left _ (List.mem_append_left _ (List.mem_append_left _ (List.mem_append_left _ (List.mem_append_left _ (List.mem_append_left _ lm1)))))))))
  have wd2 := hts (.fieldLink RX11 30 "StoryDesk" "cases" "LStoryDesk$Cases;") (List.mem_cons_of_mem _ (List.mem_append_left _ (List.mem_append_left _ (List.mem_append_left _ (List.mem_append_left _ (List.mem_append_left _ (List.mem_append_left _ (List.mem_append_left _ (List.mem_append_left _ lm2)))))))))
  have wd3 := hts (.fieldLink RX11 134 "StoryDesk$Cases" "count" "I") (List.mem_cons_of_mem _ (List.mem_append_left _ (List.mem_append_left _ (List.mem_append_left _ (List.mem_append_left _ (List.mem_append_left _ (List.mem_append_left _ (List.mem_append_left _ (List.mem_append_left _ lm3)))))))))
  have wd4 := hts (.fieldLink RX11 137 "StoryDesk$Cases" "all" "[LStoryDesk$Case;") (List.mem_cons_of_mem _ (List.mem_append_left _ (List.mem_append_left _ (List.mem_append_left _ (List.mem_append_left _ (List.mem_append_left _ (List.mem_append_left _ (List.mem_append_left _ (List.mem_append_left _ lm4)))))))))
  have wd5 := hts (.fieldLink RX11 173 "StoryDesk$Case" "status" "I") (List.mem_cons_of_mem _ (List.mem_append_left _ (List.mem_append_left _ (List.mem_append_left _ (List.mem_append_left _ (List.mem_append_left _ (List.mem_append_left _ (List.mem_append_left _ (List.mem_append_left _ lm10)))))))))
  have wd6 := hts (.fieldLink RX11 166 "StoryDesk$Case" "values" "LStoryDesk$Row;") (List.mem_cons_of_mem _ (List.mem_append_left _ (List.mem_append_left _ (List.mem_append_left _ (List.mem_append_left _ (List.mem_append_left _ (List.mem_append_left _ (List.mem_append_left _ (List.mem_append_left _ lm8)))))))))
  have wd7 := hts (.fieldLink RX11 170 "StoryDesk$Row" "line" "I") (List.mem_cons_of_mem _ (List.mem_append_left _ (List.mem_append_left _ (List.mem_append_left _ (List.mem_append_left _ (List.mem_append_left _ (List.mem_append_left _ (List.mem_append_left _ (List.mem_append_left _ lm9)))))))))
  have wd8 := hts (.fieldLink RX11 157 "StoryDesk$Case" "scenario" "LStoryDesk$Part;") (List.mem_cons_of_mem _ (List.mem_append_left _ (List.mem_append_left _ (List.mem_append_left _ (List.mem_append_left _ (List.mem_append_left _ (List.mem_append_left _ (List.mem_append_left _ (List.mem_append_left _ lm6)))))))))
  have wd9 := hts (.fieldLink RX11 161 "StoryDesk$Part" "line" "I") (List.mem_cons_of_mem _ (List.mem_append_left _ (List.mem_append_left _ (List.mem_append_left _ (List.mem_append_left _ (List.mem_append_left _ (List.mem_append_left _ (List.mem_append_left _ (List.mem_append_left _ lm7)))))))))
  have wd10 := hts (.fieldLink RX11 141 "StoryDesk$Case" "tags" "I") (List.mem_cons_of_mem _ (List.mem_append_left _ (List.mem_append_left _ (List.mem_append_left _ (List.mem_append_left _ (List.mem_append_left _ (List.mem_append_left _ (List.mem_append_left _ (List.mem_append_left _ lm5)))))))))
  have thr_107 : ∀ w ∈ (vx_at0 RX11 107 "java/lang/IndexOutOfBoundsException" ["java/lang/RuntimeException", "java/lang/Exception"]).filter goodWord, w ∈ wsX11_story := by decide +kernel
  have hl : lv_has ls 4 [(0, .ref (g 0)), (1, .int x), (2, .int y)] := hl
  have hK : va_K D vwCl (hT ka) s := hK
  have hg_1 := s_rng x
  have hg_2 := s_rng y
  have hb13 : (0 : Int) ≤ (i 13 4).toInt ∧ (i 13 4).toInt ≤ 24 := hO 13 4
  refine lv_iload_n hx hb dX11_story_0 rfl (lv_at hl 1 rfl) ?_
  refine lv_if_lt (tgt := 24) hx hb dX11_story_1 (by decide) (fun c_3 => ?_) (fun c_3 => ?_)
  · skip
    have h_4 := s_lt (rfl : x.toInt = _) (show (0 : Int32).toInt = 0 from rfl) c_3
    have hpx : (fun (E : String) (_ : Unit) => (E = "java/lang/IndexOutOfBoundsException")) "java/lang/IndexOutOfBoundsException" () := rfl
    have hHx : sj_H D A ((fun (_ : Unit) => hwc g ka i r L d) ()) s.heap := hH
    exact x_throw (px := (fun (E : String) (_ : Unit) => (E = "java/lang/IndexOutOfBoundsException"))) (W1 := (fun (_ : Unit) => hwc g ka i r L d)) hx hb hst (ik := 105) (ic := 107) (cls := "java/lang/IndexOutOfBoundsException") () hpx hown (by decide) wd0 wd1 (fun w h => hts w (thr_107 w h)) (by decide +kernel) (by decide +kernel) (gx_iob hE) hS hHx hK (hl.1.trans hml.symm) dX11_story_24 dX11_story_27 dX11_story_28 dX11_story_31 hnt (Nat.le_of_ble_eq_true rfl) (Nat.le_of_ble_eq_true rfl) (Nat.le_of_ble_eq_true rfl) (Nat.le_of_ble_eq_true rfl) hlocks (Nat.le_of_ble_eq_true rfl) (Nat.le_of_ble_eq_true rfl)
  · skip
    have h_5 := s_nlt (rfl : x.toInt = _) (show (0 : Int32).toInt = 0 from rfl) c_3
    refine lv_iload_n hx hb dX11_story_4 rfl (lv_at hl 1 rfl) ?_
    refine lv_aload_n hx hb dX11_story_5 rfl (lv_at hl 0 rfl) ?_
    refine h_getr (ci := 11) (C := RX11) (F := TX11) (N := 14) hx hb hts in11 hown hK hH (by decide) (rfl : kd 0 = 11) (by decide) rfl 2 (by decide) wd2 (fun _ h9 => h9) (by decide) rfl (t := 13) (hR 0 2 rfl) (by decide) dX11_story_6 ?_
    have bx_6 : (0 : Int) ≤ (i 13 4).toInt ∧ (i 13 4).toInt ≤ 24 := hO 13 4
    refine h_geti (ci := 1) (C := RX1) (F := TX1) (N := 5) hx hb hts in1 hown hK hH (by decide) (rfl : kd 13 = 1) (by decide) rfl 4 (by decide) wd3 (fun _ h9 => h9) (by decide) rfl dX11_story_9 ?_
    refine lv_icmp_ge (tgt := 24) hx hb dX11_story_12 (by decide) (fun c_7 => ?_) (fun c_7 => ?_)
    · skip
      have h_8 := s_le (rfl : (i 13 4).toInt = _) (rfl : x.toInt = _) c_7
      have hpx : (fun (E : String) (_ : Unit) => (E = "java/lang/IndexOutOfBoundsException")) "java/lang/IndexOutOfBoundsException" () := rfl
      have hHx : sj_H D A ((fun (_ : Unit) => hwc g ka i r L d) ()) s.heap := hH
      exact x_throw (px := (fun (E : String) (_ : Unit) => (E = "java/lang/IndexOutOfBoundsException"))) (W1 := (fun (_ : Unit) => hwc g ka i r L d)) hx hb hst (ik := 105) (ic := 107) (cls := "java/lang/IndexOutOfBoundsException") () hpx hown (by decide) wd0 wd1 (fun w h => hts w (thr_107 w h)) (by decide +kernel) (by decide +kernel) (gx_iob hE) hS hHx hK (hl.1.trans hml.symm) dX11_story_24 dX11_story_27 dX11_story_28 dX11_story_31 hnt (Nat.le_of_ble_eq_true rfl) (Nat.le_of_ble_eq_true rfl) (Nat.le_of_ble_eq_true rfl) (Nat.le_of_ble_eq_true rfl) hlocks (Nat.le_of_ble_eq_true rfl) (Nat.le_of_ble_eq_true rfl)
    · skip
      have h_9 := s_nle (rfl : (i 13 4).toInt = _) (rfl : x.toInt = _) c_7
      refine lv_iload_n hx hb dX11_story_15 rfl (lv_at hl 2 rfl) ?_
      refine lv_if_lt (tgt := 24) hx hb dX11_story_16 (by decide) (fun c_10 => ?_) (fun c_10 => ?_)
      · skip
        have h_11 := s_lt (rfl : y.toInt = _) (show (0 : Int32).toInt = 0 from rfl) c_10
        have hpx : (fun (E : String) (_ : Unit) => (E = "java/lang/IndexOutOfBoundsException")) "java/lang/IndexOutOfBoundsException" () := rfl
        have hHx : sj_H D A ((fun (_ : Unit) => hwc g ka i r L d) ()) s.heap := hH
        exact x_throw (px := (fun (E : String) (_ : Unit) => (E = "java/lang/IndexOutOfBoundsException"))) (W1 := (fun (_ : Unit) => hwc g ka i r L d)) hx hb hst (ik := 105) (ic := 107) (cls := "java/lang/IndexOutOfBoundsException") () hpx hown (by decide) wd0 wd1 (fun w h => hts w (thr_107 w h)) (by decide +kernel) (by decide +kernel) (gx_iob hE) hS hHx hK (hl.1.trans hml.symm) dX11_story_24 dX11_story_27 dX11_story_28 dX11_story_31 hnt (Nat.le_of_ble_eq_true rfl) (Nat.le_of_ble_eq_true rfl) (Nat.le_of_ble_eq_true rfl) (Nat.le_of_ble_eq_true rfl) hlocks (Nat.le_of_ble_eq_true rfl) (Nat.le_of_ble_eq_true rfl)
      · skip
        have h_12 := s_nlt (rfl : y.toInt = _) (show (0 : Int32).toInt = 0 from rfl) c_10
        refine lv_iload_n hx hb dX11_story_19 rfl (lv_at hl 2 rfl) ?_
        refine lv_iconst (v := 4) hx hb dX11_story_20 (by decide) ?_
        refine lv_icmp_le (tgt := 32) hx hb dX11_story_21 (by decide) (fun c_13 => ?_) (fun c_13 => ?_)
        · skip
          have h_14 := s_le (rfl : y.toInt = _) (show (4 : Int32).toInt = 4 from rfl) c_13
          refine lv_aload_n hx hb dX11_story_32 rfl (lv_at hl 0 rfl) ?_
          refine h_getr (ci := 11) (C := RX11) (F := TX11) (N := 14) hx hb hts in11 hown hK hH (by decide) (rfl : kd 0 = 11) (by decide) rfl 2 (by decide) wd2 (fun _ h9 => h9) (by decide) rfl (t := 13) (hR 0 2 rfl) (by decide) dX11_story_33 ?_
          refine h_getr (ci := 1) (C := RX1) (F := TX1) (N := 5) hx hb hts in1 hown hK hH (by decide) (rfl : kd 13 = 1) (by decide) rfl 3 (by decide) wd4 (fun _ h9 => h9) (by decide) rfl (t := 18) (hR 13 3 rfl) (by decide) dX11_story_36 ?_
          refine lv_iload_n hx hb dX11_story_39 rfl (lv_at hl 1 rfl) ?_
          obtain ⟨j_15, ej_15, hj_15⟩ : ∃ j : Nat, (x).toNatClampNeg = j ∧ (j : Int) = x.toInt := ⟨_, rfl, by rw [s_cl (rfl : x.toInt = _)]; omega⟩
          have lj_15 : j_15 < 24 := by omega
          refine h_qald hx hb hK hH (by decide) (rfl : kd 18 = 18) (by decide) rfl (s_vin (N := 24) (rfl : x.toInt = _) (rfl : ln 18 = 24) (by omega) (by omega)) (t := (216 + 1 * j_15)) (by rw [ej_15]; exact (hR 18 j_15 rfl)) (lt_nK (by omega)) dX11_story_40 ?_
          refine lv_astore_n (lv' := [(3, .ref (g (216 + 1 * j_15))), (0, .ref (g 0)), (1, .int x), (2, .int y)]) hx hb dX11_story_41 rfl hl (by decide) rfl (fun ls hl => ?_)
          refine lv_iload_n hx hb dX11_story_42 rfl (lv_at hl 3 rfl) ?_
          refine lv_if_ne (tgt := 55) hx hb dX11_story_43 (by decide) (fun c_16 => ?_) (fun c_16 => ?_)
          · skip
            have h_17 := s_ne (rfl : y.toInt = _) (show (0 : Int32).toInt = 0 from rfl) c_16
            refine lv_iload_n hx hb dX11_story_55 rfl (lv_at hl 3 rfl) ?_
            refine lv_iconst (v := 1) hx hb dX11_story_56 (by decide) ?_
            refine lv_icmp_ne (tgt := 65) hx hb dX11_story_57 (by decide) (fun c_18 => ?_) (fun c_18 => ?_)
            · skip
              have h_19 := s_ne (rfl : y.toInt = _) (show (1 : Int32).toInt = 1 from rfl) c_18
              refine lv_iload_n hx hb dX11_story_65 rfl (lv_at hl 3 rfl) ?_
              refine lv_iconst (v := 2) hx hb dX11_story_66 (by decide) ?_
              refine lv_icmp_ne (tgt := 78) hx hb dX11_story_67 (by decide) (fun c_20 => ?_) (fun c_20 => ?_)
              · skip
                have h_21 := s_ne (rfl : y.toInt = _) (show (2 : Int32).toInt = 2 from rfl) c_20
                refine lv_iload_n hx hb dX11_story_78 rfl (lv_at hl 3 rfl) ?_
                refine lv_iconst (v := 3) hx hb dX11_story_79 (by decide) ?_
                refine lv_icmp_ne (tgt := 102) hx hb dX11_story_80 (by decide) (fun c_22 => ?_) (fun c_22 => ?_)
                · skip
                  have h_23 := s_ne (rfl : y.toInt = _) (show (3 : Int32).toInt = 3 from rfl) c_22
                  refine lv_aload_n hx hb dX11_story_102 rfl (lv_at hl 0 rfl) ?_
                  have bx_24 : (-1 : Int) ≤ (i (216 + 1 * j_15) 4).toInt ∧ (i (216 + 1 * j_15) 4).toInt ≤ 5 := by have h9 := hO (216 + 1 * j_15) 4; rw [bx_case (by omega) (by omega) 4] at h9; exact h9
                  refine h_geti (ci := 0) (C := RX0) (F := TX0) (N := 5) hx hb hts in0 hown hK hH (lt_nK (by omega)) (kd_case (by omega) (by omega)) (by decide) rfl 4 (by decide) wd5 (fun _ h9 => h9) (by decide) rfl dX11_story_103 ?_
                  refine vx_ret ?_
                  exact sj_zret hx hb hr hlocks rfl hS () trivial hH (sj_Knil hK) (Nat.le_of_ble_eq_true rfl) (Nat.le_of_ble_eq_true rfl) dX11_story_106
                · skip
                  have h_25 := s_eq (rfl : y.toInt = _) (show (3 : Int32).toInt = 3 from rfl) c_22
                  refine lv_aload_n hx hb dX11_story_83 rfl (lv_at hl 0 rfl) ?_
                  rcases (hPC j_15 (by omega)).2 with ⟨nra_26, nrb_27⟩ | ⟨⟨ra_26, hra_26, era_26⟩, ⟨rb_27, hrb_27, erb_27⟩⟩
                  · skip
                    refine h_getq (ci := 0) (C := RX0) (F := TX0) (N := 5) hx hb hts in0 hown hK hH (lt_nK (by omega)) (kd_case (by omega) (by omega)) (by decide) rfl 2 (by decide) wd6 (fun _ h9 => h9) (by decide) rfl dX11_story_84 ?_
                    refine sj_v (y := .null) (rq_none nrb_27) ?_
                    refine lv_ifnonnullN hx hb dX11_story_87 ?_
                    refine lv_iconst (v := 0) hx hb dX11_story_90 (by decide) ?_
                    refine lv_goto (tgt := 101) hx hb dX11_story_91 (by decide) ?_
                    refine vx_ret ?_
                    exact sj_zret hx hb hr hlocks rfl hS () trivial hH (sj_Knil hK) (Nat.le_of_ble_eq_true rfl) (Nat.le_of_ble_eq_true rfl) dX11_story_101
                  · skip
                    refine h_getr (ci := 0) (C := RX0) (F := TX0) (N := 5) hx hb hts in0 hown hK hH (lt_nK (by omega)) (kd_case (by omega) (by omega)) (by decide) rfl 2 (by decide) wd6 (fun _ h9 => h9) (by decide) rfl (t := (96 + 3 * rb_27)) erb_27 (lt_nK (by omega)) dX11_story_84 ?_
                    refine lv_ifnonnull (tgt := 94) hx hb dX11_story_87 (by decide) ?_
                    refine lv_aload_n hx hb dX11_story_94 rfl (lv_at hl 0 rfl) ?_
                    refine h_getr (ci := 0) (C := RX0) (F := TX0) (N := 5) hx hb hts in0 hown hK hH (lt_nK (by omega)) (kd_case (by omega) (by omega)) (by decide) rfl 2 (by decide) wd6 (fun _ h9 => h9) (by decide) rfl (t := (96 + 3 * rb_27)) erb_27 (lt_nK (by omega)) dX11_story_95 ?_
                    refine h_geti (ci := 6) (C := RX6) (F := TX6) (N := 4) hx hb hts in6 hown hK hH (lt_nK (by omega)) (kd_row hrb_27) (by decide) rfl 3 (by decide) wd7 (fun _ h9 => h9) (by decide) rfl dX11_story_98 ?_
                    refine vx_ret ?_
                    exact sj_zret hx hb hr hlocks rfl hS () trivial hH (sj_Knil hK) (Nat.le_of_ble_eq_true rfl) (Nat.le_of_ble_eq_true rfl) dX11_story_101
              · skip
                have h_28 := s_eq (rfl : y.toInt = _) (show (2 : Int32).toInt = 2 from rfl) c_20
                refine lv_aload_n hx hb dX11_story_70 rfl (lv_at hl 0 rfl) ?_
                obtain ⟨q_29, eq_29, hq_29a, hq_29b⟩ : ∃ q, r (216 + 1 * j_15) 0 = q ∧ 42 ≤ q ∧ q < 54 := ⟨_, rfl, (hPC j_15 (by omega)).1 (by omega)⟩
                have pb_30 := bxp hO (p := q_29) (by omega) (by omega)
                refine h_getr (ci := 0) (C := RX0) (F := TX0) (N := 5) hx hb hts in0 hown hK hH (lt_nK (by omega)) (kd_case (by omega) (by omega)) (by decide) rfl 0 (by decide) wd8 (fun _ h9 => h9) (by decide) rfl (t := q_29) eq_29 (lt_nK (by omega)) dX11_story_71 ?_
                have pb_31 := bxp hO (p := q_29) (by omega) (by omega)
                refine h_geti (ci := 4) (C := RX4) (F := TX4) (N := 9) hx hb hts in4 hown hK hH (lt_nK (by omega)) (kd_part (by omega) (by omega)) (by decide) rfl 0 (by decide) wd9 (fun _ h9 => h9) (by decide) rfl dX11_story_74 ?_
                refine vx_ret ?_
                exact sj_zret hx hb hr hlocks rfl hS () trivial hH (sj_Knil hK) (Nat.le_of_ble_eq_true rfl) (Nat.le_of_ble_eq_true rfl) dX11_story_77
            · skip
              have h_32 := s_eq (rfl : y.toInt = _) (show (1 : Int32).toInt = 1 from rfl) c_18
              refine lv_aload_n hx hb dX11_story_60 rfl (lv_at hl 0 rfl) ?_
              have bx_33 : (0 : Int) ≤ (i (216 + 1 * j_15) 3).toInt ∧ (i (216 + 1 * j_15) 3).toInt ≤ 65535 := by have h9 := hO (216 + 1 * j_15) 3; rw [bx_case (by omega) (by omega) 3] at h9; exact h9
              refine h_geti (ci := 0) (C := RX0) (F := TX0) (N := 5) hx hb hts in0 hown hK hH (lt_nK (by omega)) (kd_case (by omega) (by omega)) (by decide) rfl 3 (by decide) wd10 (fun _ h9 => h9) (by decide) rfl dX11_story_61 ?_
              refine vx_ret ?_
              exact sj_zret hx hb hr hlocks rfl hS () trivial hH (sj_Knil hK) (Nat.le_of_ble_eq_true rfl) (Nat.le_of_ble_eq_true rfl) dX11_story_64
          · skip
            have h_34 := s_eq (rfl : y.toInt = _) (show (0 : Int32).toInt = 0 from rfl) c_16
            refine lv_aload_n hx hb dX11_story_46 rfl (lv_at hl 1 rfl) ?_
            refine h_getr (ci := 11) (C := RX11) (F := TX11) (N := 14) hx hb hts in11 hown hK hH (by decide) (rfl : kd 0 = 11) (by decide) rfl 2 (by decide) wd2 (fun _ h9 => h9) (by decide) rfl (t := 13) (hR 0 2 rfl) (by decide) dX11_story_47 ?_
            refine lv_aload_n hx hb dX11_story_50 rfl (lv_at hl 0 rfl) ?_
            refine x_calli (va_runV (As := [.ref (g (216 + 1 * j_15))]) (rest := []) ⟨hx, hb, hml, hown, hts⟩ (k_scn l D g ka ad i r L d j_15 hO hR s.heap.size hPC (by first | omega | decide) (by first | omega | decide)) (cwV 1 hts gX11_story_X1_stepCount rfl rfl rfl (by decide +kernel) ⟨(Nat.le_of_ble_eq_true rfl), (Nat.le_of_ble_eq_true rfl)⟩) (x_preV (q := (RX1, TX1, 5)) hH hK (q_obj (by decide) (rfl : kd 13 = 1) (by decide)) rfl gxb (gxw hE hS (x_F hH hS hA))) rfl rfl hl.1 rfl (lv_room (Nat.le_of_ble_eq_true rfl)) dX11_story_51 ⟨(Nat.le_of_ble_eq_true rfl), (Nat.le_of_ble_eq_true rfl)⟩) hH hS hA rfl rfl (fun r_35 _ H locs hw_36 hH hS => ?_)
            obtain ⟨hr_38, he_39⟩ := hw_36
            have hr_38 : (0 : Int) ≤ r_35.toInt ∧ r_35.toInt ≤ 120 := hr_38
            refine vx_ret ?_
            exact sj_zret hx hb hr hlocks rfl hS () trivial hH (sj_Knil hK) (Nat.le_of_ble_eq_true rfl) (Nat.le_of_ble_eq_true rfl) dX11_story_54
        · skip
          have h_40 := s_nle (rfl : y.toInt = _) (show (4 : Int32).toInt = 4 from rfl) c_13
          have hpx : (fun (E : String) (_ : Unit) => (E = "java/lang/IndexOutOfBoundsException")) "java/lang/IndexOutOfBoundsException" () := rfl
          have hHx : sj_H D A ((fun (_ : Unit) => hwc g ka i r L d) ()) s.heap := hH
          exact x_throw (px := (fun (E : String) (_ : Unit) => (E = "java/lang/IndexOutOfBoundsException"))) (W1 := (fun (_ : Unit) => hwc g ka i r L d)) hx hb hst (ik := 105) (ic := 107) (cls := "java/lang/IndexOutOfBoundsException") () hpx hown (by decide) wd0 wd1 (fun w h => hts w (thr_107 w h)) (by decide +kernel) (by decide +kernel) (gx_iob hE) hS hHx hK (hl.1.trans hml.symm) dX11_story_24 dX11_story_27 dX11_story_28 dX11_story_31 hnt (Nat.le_of_ble_eq_true rfl) (Nat.le_of_ble_eq_true rfl) (Nat.le_of_ble_eq_true rfl) (Nat.le_of_ble_eq_true rfl) hlocks (Nat.le_of_ble_eq_true rfl) (Nat.le_of_ble_eq_true rfl)
