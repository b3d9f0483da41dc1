theorem dX7_init_0 : decode cX7_init 0 = .ok (.aload_n 0, 1) := by decide +kernel
theorem dX7_init_1 : decode cX7_init 1 = .ok (.invokespecial 3, 3) := by decide +kernel
theorem dX7_init_4 : decode cX7_init 4 = .ok (.aload_n 0, 1) := by decide +kernel
theorem dX7_init_5 : decode cX7_init 5 = .ok (.iconst 3, 1) := by decide +kernel
theorem dX7_init_6 : decode cX7_init 6 = .ok (.anewarray 9, 3) := by decide +kernel
theorem dX7_init_9 : decode cX7_init 9 = .ok (.putfield 11, 3) := by decide +kernel
theorem dX7_init_12 : decode cX7_init 12 = .ok (.iconst 0, 1) := by decide +kernel
theorem dX7_init_13 : decode cX7_init 13 = .ok (.istore_n 1, 1) := by decide +kernel
theorem dX7_init_14 : decode cX7_init 14 = .ok (.iload_n 1, 1) := by decide +kernel
theorem dX7_init_15 : decode cX7_init 15 = .ok (.aload_n 0, 1) := by decide +kernel
theorem dX7_init_16 : decode cX7_init 16 = .ok (.getfield 11, 3) := by decide +kernel
theorem dX7_init_19 : decode cX7_init 19 = .ok (.arraylength, 1) := by decide +kernel
theorem dX7_init_20 : decode cX7_init 20 = .ok (.if_icmp .ge 23, 3) := by decide +kernel
theorem dX7_init_23 : decode cX7_init 23 = .ok (.aload_n 0, 1) := by decide +kernel
theorem dX7_init_24 : decode cX7_init 24 = .ok (.getfield 11, 3) := by decide +kernel
theorem dX7_init_27 : decode cX7_init 27 = .ok (.iload_n 1, 1) := by decide +kernel
theorem dX7_init_28 : decode cX7_init 28 = .ok (.new 9, 3) := by decide +kernel
theorem dX7_init_31 : decode cX7_init 31 = .ok (.dup, 1) := by decide +kernel
theorem dX7_init_32 : decode cX7_init 32 = .ok (.iload_n 1, 1) := by decide +kernel
theorem dX7_init_33 : decode cX7_init 33 = .ok (.invokespecial 17, 3) := by decide +kernel
theorem dX7_init_36 : decode cX7_init 36 = .ok (.aastore, 1) := by decide +kernel
theorem dX7_init_37 : decode cX7_init 37 = .ok (.iinc 1 1, 3) := by decide +kernel
theorem dX7_init_40 : decode cX7_init 40 = .ok (.goto (-26), 3) := by decide +kernel
theorem dX7_init_43 : decode cX7_init 43 = .ok (.aload_n 0, 1) := by decide +kernel
theorem dX7_init_44 : decode cX7_init 44 = .ok (.bipush 24, 2) := by decide +kernel
theorem dX7_init_46 : decode cX7_init 46 = .ok (.newarray .int, 2) := by decide +kernel
theorem dX7_init_48 : decode cX7_init 48 = .ok (.putfield 22, 3) := by decide +kernel
theorem dX7_init_51 : decode cX7_init 51 = .ok (.aload_n 0, 1) := by decide +kernel
theorem dX7_init_52 : decode cX7_init 52 = .ok (.sipush 256, 3) := by decide +kernel
theorem dX7_init_55 : decode cX7_init 55 = .ok (.newarray .int, 2) := by decide +kernel
theorem dX7_init_57 : decode cX7_init 57 = .ok (.putfield 26, 3) := by decide +kernel
theorem dX7_init_60 : decode cX7_init 60 = .ok (.return_, 1) := by decide +kernel
theorem dX1_init_0 : decode cX1_init 0 = .ok (.aload_n 0, 1) := by decide +kernel
theorem dX1_init_1 : decode cX1_init 1 = .ok (.invokespecial 3, 3) := by decide +kernel
theorem dX1_init_4 : decode cX1_init 4 = .ok (.aload_n 0, 1) := by decide +kernel
theorem dX1_init_5 : decode cX1_init 5 = .ok (.aload_n 1, 1) := by decide +kernel
theorem dX1_init_6 : decode cX1_init 6 = .ok (.putfield 9, 3) := by decide +kernel
theorem dX1_init_9 : decode cX1_init 9 = .ok (.aload_n 0, 1) := by decide +kernel
theorem dX1_init_10 : decode cX1_init 10 = .ok (.new 15, 3) := by decide +kernel
theorem dX1_init_13 : decode cX1_init 13 = .ok (.dup, 1) := by decide +kernel
theorem dX1_init_14 : decode cX1_init 14 = .ok (.bipush 60, 2) := by decide +kernel
theorem dX1_init_16 : decode cX1_init 16 = .ok (.invokespecial 17, 3) := by decide +kernel
theorem dX1_init_19 : decode cX1_init 19 = .ok (.putfield 20, 3) := by decide +kernel
theorem dX1_init_22 : decode cX1_init 22 = .ok (.aload_n 0, 1) := by decide +kernel
theorem dX1_init_23 : decode cX1_init 23 = .ok (.new 15, 3) := by decide +kernel
theorem dX1_init_26 : decode cX1_init 26 = .ok (.dup, 1) := by decide +kernel
theorem dX1_init_27 : decode cX1_init 27 = .ok (.bipush 60, 2) := by decide +kernel
theorem dX1_init_29 : decode cX1_init 29 = .ok (.invokespecial 17, 3) := by decide +kernel
theorem dX1_init_32 : decode cX1_init 32 = .ok (.putfield 24, 3) := by decide +kernel
theorem dX1_init_35 : decode cX1_init 35 = .ok (.aload_n 0, 1) := by decide +kernel
theorem dX1_init_36 : decode cX1_init 36 = .ok (.bipush 24, 2) := by decide +kernel
theorem dX1_init_38 : decode cX1_init 38 = .ok (.anewarray 27, 3) := by decide +kernel
theorem dX1_init_41 : decode cX1_init 41 = .ok (.putfield 29, 3) := by decide +kernel
theorem dX1_init_44 : decode cX1_init 44 = .ok (.iconst 0, 1) := by decide +kernel
theorem dX1_init_45 : decode cX1_init 45 = .ok (.istore_n 2, 1) := by decide +kernel
theorem dX1_init_74 : decode cX1_init 74 = .ok (.return_, 1) := by decide +kernel
theorem dX1_init_46 : decode cX1_init 46 = .ok (.iload_n 2, 1) := by decide +kernel
theorem dX1_init_47 : decode cX1_init 47 = .ok (.aload_n 0, 1) := by decide +kernel
theorem dX1_init_48 : decode cX1_init 48 = .ok (.getfield 29, 3) := by decide +kernel
theorem dX1_init_51 : decode cX1_init 51 = .ok (.arraylength, 1) := by decide +kernel
theorem dX1_init_52 : decode cX1_init 52 = .ok (.if_icmp .ge 22, 3) := by decide +kernel
theorem dX1_init_55 : decode cX1_init 55 = .ok (.aload_n 0, 1) := by decide +kernel
theorem dX1_init_56 : decode cX1_init 56 = .ok (.getfield 29, 3) := by decide +kernel
theorem dX1_init_59 : decode cX1_init 59 = .ok (.iload_n 2, 1) := by decide +kernel
theorem dX1_init_60 : decode cX1_init 60 = .ok (.new 27, 3) := by decide +kernel
theorem dX1_init_63 : decode cX1_init 63 = .ok (.dup, 1) := by decide +kernel
theorem dX1_init_64 : decode cX1_init 64 = .ok (.invokespecial 33, 3) := by decide +kernel
theorem dX1_init_67 : decode cX1_init 67 = .ok (.aastore, 1) := by decide +kernel
theorem dX1_init_68 : decode cX1_init 68 = .ok (.iinc 2 1, 3) := by decide +kernel
theorem dX1_init_71 : decode cX1_init 71 = .ok (.goto (-25), 3) := by decide +kernel
set_option maxRecDepth 20000 in
theorem ggX7_init_X10_init : GoodIn wsX7_init wsX10_init := goodIn_r _ [13, 14, 2, 3, 15, 16, 28, 29, 30, 31, 32, 33, 34, 35] (by decide +kernel) (by decide +kernel)
set_option maxRecDepth 20000 in
theorem gX7_init_X10_init : GoodIn wsX7_init (wsX10_init) := ggX7_init_X10_init
set_option maxRecDepth 20000 in
theorem ggX1_init_X3_init : GoodIn wsX1_init wsX3_init := goodIn_r _ [16, 17, 2, 3, 18, 19, 28, 29] (by decide +kernel) (by decide +kernel)
set_option maxRecDepth 20000 in
theorem gX1_init_X3_init : GoodIn wsX1_init (wsX3_init) := ggX1_init_X3_init
set_option maxRecDepth 20000 in
theorem ggX1_init_X0_init : GoodIn wsX1_init wsX0_init := goodIn_r _ [21, 22, 2, 3] (by decide +kernel) (by decide +kernel)
set_option maxRecDepth 20000 in
theorem gX1_init_X0_init_n33 : GoodIn wsX1_init (wsX0_init) := ggX1_init_X0_init
set_option maxHeartbeats 4000000 in
set_option maxRecDepth 100000 in
/-- Run() -/
theorem c_X7_init (l : Launch) (D : va_G) (h0 : Nat) (sz : Nat)  : Met l yX7_init wsX7_init ({ frames := 2, cells := 6, slots := 307, locals := 41 }) (va_Pc [.ref h0] (sj_B D [(h0, .inr (7, [.null, .int 0, .int 0, .null, .int 0, .int 0, .int 0, .int 0, .int 0, .null, .int 0]))] [] sz sj_xc)) (sj_Qv (S := Nat × Nat × Nat × ClassId × Nat × Nat × Nat × ClassId × va_W) D (fun _ => True) (fun u => [(h0, .inr (7, [.ref u.1, .int 0, .int 0, .ref u.2.1, .int 0, .int 0, .int 0, .int 0, .int 0, .ref u.2.2.1, .int 0])), (u.1, .inl (u.2.2.2.1, 3, .inr (.inr (.inr (.inr (va_up (va_up (va_up (fun _ => none) 0 (some u.2.2.2.2.1)) 1 (some u.2.2.2.2.2.1)) 2 (some u.2.2.2.2.2.2.1))))))), (u.2.2.2.2.1, .inr (10, [.int 0, .int (-1), .int 0, .int 0, .int 0, .double 0, .int 0, .int 0])), (u.2.2.2.2.2.1, .inr (10, [.int 1, .int (-1), .int 0, .int 0, .int 0, .double 0, .int 0, .int 0])), (u.2.2.2.2.2.2.1, .inr (10, [.int 2, .int (-1), .int 0, .int 0, .int 0, .double 0, .int 0, .int 0])), (u.2.2.1, .inl (u.2.2.2.2.2.2.2.1, 256, .inl (fun _ => 0)))] ++ u.2.2.2.2.2.2.2.2) (fun u => [(u.2.2.2.1, .object RX10), (u.2.2.2.2.2.2.2.1, .int)]) (va_A [(h0, .inr (7, [.null, .int 0, .int 0, .null, .int 0, .int 0, .int 0, .int 0, .int 0, .null, .int 0]))] sz)) 6 307 (va_A [(h0, .inr (7, [.null, .int 0, .int 0, .null, .int 0, .int 0, .int 0, .int 0, .int 0, .null, .int 0]))] sz) := by
  refine sj_met (cc := cX7_init) (maxL := 2) (ret := none) (by decide) rfl (Nat.le_of_ble_eq_true rfl) ?_
  intro p e s m below meth c A ls hx hb hr hml hts hown hlocks hnm hA hsz hS hH hK hE hl
  have hown : s.vm.findClass RX7 = some m.cls := hown
  have hnm : meth.name = "<init>" := hnm
  have in7 : ∀ w ∈ wsX70, w ∈ wsX7_init := by decide +kernel
  have in10 : ∀ w ∈ wsX100, w ∈ wsX7_init := by decide +kernel
  have wd0 := hts (.methodLink RX7 3 objectInit) (by decide +kernel)
  have wd1 := hts (.instanceMethod objectInit) (by decide +kernel)
  have wd2 := hts (.code objectInit ⟨#[0xb1]⟩ 1 none) (by decide +kernel)
  have wd3 := hts (.classLink RX7 9 RX10) (by decide +kernel)
  have wd4 := va_AO.use (A := #[]) hE.2.2.2.2.2.1
  have wd5 := hts (.fieldLink RX7 11 "StoryDesk$Run" "workers" "[LStoryDesk$Worker;") (by decide +kernel)
  have wd6 := hts (.instantiable RX10 8) (by decide +kernel)
  have wd7 := hts (.initialized RX10) (by decide +kernel)
  have wd8 := hts (.methodLink RX7 17 yX10_init) (by decide +kernel)
  have wd9 := hts (.instanceMethod yX10_init) (by decide +kernel)
  have wd10 := hts (.arrayClass .int) (by decide +kernel)
  have wd11 := hts (.fieldLink RX7 22 "StoryDesk$Run" "queue" "[I") (by decide +kernel)
  have wd12 := hts (.fieldLink RX7 26 "StoryDesk$Run" "events" "[I") (by decide +kernel)
  have hl : lv_has ls 2 [(0, .ref h0)] := hl
  have hH : sj_H D A ([(h0, .inr (7, [.null, .int 0, .int 0, .null, .int 0, .int 0, .int 0, .int 0, .int 0, .null, .int 0]))] ++ []) s.heap := hH
  refine lv_aload_n hx hb dX7_init_0 rfl (lv_at hl 0 rfl) ?_
  refine W.objInit hx hb hown wd0 wd1 wd2 rfl (by rw [hml]; exact hl.1) rfl dX7_init_1 (Nat.le_of_ble_eq_true rfl) (Nat.le_of_ble_eq_true rfl) ?_
  refine W.eq (g2 := F0 m 4 ls []) rfl ?_
  refine lv_aload_n hx hb dX7_init_4 rfl (lv_at hl 0 rfl) ?_
  refine lv_iconst (v := 3) hx hb dX7_init_5 (by decide) ?_
  refine sj_newq (C := RX10) (N' := 3) hx hb hown wd3 (sj_ao wd4) hK hH hS hA (by decide) (by decide) (by decide) rfl rfl (Nat.le_of_ble_eq_true rfl) (Nat.le_of_ble_eq_true rfl) dX7_init_6 (fun q_1 k_2 H hK hH hS => ?_)
  have hK : va_K D vwCl [(k_2, .object RX10)] s := hK
  have hH : sj_H D A ([(h0, .inr (7, [.null, .int 0, .int 0, .null, .int 0, .int 0, .int 0, .int 0, .int 0, .null, .int 0])), (q_1, .inl (k_2, 3, .inr (.inr (.inr (.inr (fun _ => none))))))] ++ []) H := hH
  refine sj_putF (D := D) (ci := 7) (v := .ref q_1) (ty := (.array (.object "StoryDesk$Worker"))) (C := RX7) (F := TX7) (N := 11) hx hb hts in7 tyX7 tyX7_ok nmX7 hown hK hH hS 0 rfl rfl 0 (by decide) wd5 (fun _ h9 => h9) rfl hnm rfl (by decide +kernel) rfl rfl (Nat.le_of_ble_eq_true rfl) dX7_init_9 (fun H locs (hH : sj_H D A ([(h0, .inr (7, [.ref q_1, .int 0, .int 0, .null, .int 0, .int 0, .int 0, .int 0, .int 0, .null, .int 0])), (q_1, .inl (k_2, 3, .inr (.inr (.inr (.inr (fun _ => none))))))] ++ []) H) hS => ?_)
  refine lv_iconst (v := 0) hx hb dX7_init_12 (by decide) ?_
  refine lv_istore_n (lv' := [(1, .int 0), (0, .ref h0)]) hx hb dX7_init_13 rfl hl (by decide) rfl (fun ls hl => ?_)
  refine lv_iload_n hx hb dX7_init_14 rfl (lv_at hl 0 rfl) ?_
  refine lv_aload_n hx hb dX7_init_15 rfl (lv_at hl 1 rfl) ?_
  refine va_get (D := D) (ci := 7) (v := .ref q_1) (C := RX7) (T := TX7) (N := 11) hx hb hts in7 hown hK hH.1 0 rfl rfl 0 (by decide) wd5 (fun _ h9 => h9) rfl dX7_init_16 ?_
  refine va_alen hx hb hK hH.1 1 0 rfl rfl (v := 3) rfl dX7_init_19 ?_
  refine lv_icmp_ge (tgt := 43) hx hb dX7_init_20 (by decide) (fun h => absurd h (by decide)) (fun _ => ?_)
  refine lv_aload_n hx hb dX7_init_23 rfl (lv_at hl 1 rfl) ?_
  refine va_get (D := D) (ci := 7) (v := .ref q_1) (C := RX7) (T := TX7) (N := 11) hx hb hts in7 hown hK hH.1 0 rfl rfl 0 (by decide) wd5 (fun _ h9 => h9) rfl dX7_init_24 ?_
  refine lv_iload_n hx hb dX7_init_27 rfl (lv_at hl 0 rfl) ?_
  refine sj_new (ci := 10) (fs := [.int 0, .int 0, .int 0, .int 0, .int 0, .double 0, .int 0, .int 0]) (C := RX10) (F := TX10) (N := 8) hx hb hts in10 tyX10 tyX10_ok hown wd3 wd6 wd7 hK hH hS hA rfl sj_df10 rfl rfl (Nat.le_of_ble_eq_true rfl) (Nat.le_of_ble_eq_true rfl) dX7_init_28 (fun q_4 H hH hS => ?_)
  have hH : sj_H D A ([(h0, .inr (7, [.ref q_1, .int 0, .int 0, .null, .int 0, .int 0, .int 0, .int 0, .int 0, .null, .int 0])), (q_1, .inl (k_2, 3, .inr (.inr (.inr (.inr (fun _ => none)))))), (q_4, .inr (10, [.int 0, .int 0, .int 0, .int 0, .int 0, .double 0, .int 0, .int 0]))] ++ []) H := hH
  refine lv_dup hx hb dX7_init_31 rfl ?_
  refine lv_iload_n hx hb dX7_init_32 rfl (lv_at hl 0 rfl) ?_
  refine sj_callv (wr := [(h0, .inr (7, [.ref q_1, .int 0, .int 0, .null, .int 0, .int 0, .int 0, .int 0, .int 0, .null, .int 0])), (q_1, .inl (k_2, 3, .inr (.inr (.inr (.inr (fun _ => none))))))]) (va_runI (As := [.int 0]) (rest := [.ref q_4, .int 0, .ref q_1]) ⟨hx, hb, hml, hown, hts⟩ (c_X10_init l D q_4 0 H.size) (cwI 1 hts gX7_init_X10_init rfl rfl rfl wd7 wd8 wd9 rfl (by decide +kernel) ⟨(Nat.le_of_ble_eq_true rfl), (Nat.le_of_ble_eq_true rfl)⟩) (sj_preS hH hK [2] rfl rfl [] rfl sj_bln sj_exn) rfl rfl hl.1 rfl (lv_room (Nat.le_of_ble_eq_true rfl)) dX7_init_33 ⟨(Nat.le_of_ble_eq_true rfl), (Nat.le_of_ble_eq_true rfl)⟩) hH hK hS hA [2] [0, 1] rfl rfl rfl rfl (by decide) rfl rfl (fun u_6 H locs hw_7 hH hK hS => ?_)
  have hH : sj_H D A ([(h0, .inr (7, [.ref q_1, .int 0, .int 0, .null, .int 0, .int 0, .int 0, .int 0, .int 0, .null, .int 0])), (q_1, .inl (k_2, 3, .inr (.inr (.inr (.inr (fun _ => none)))))), (q_4, .inr (10, [.int 0, .int (-1), .int 0, .int 0, .int 0, .double 0, .int 0, .int 0]))] ++ []) H := hH
  have hK : va_K D vwCl [(k_2, .object RX10)] s := by simpa using hK
  refine sj_astq hx hb hK hH hS 1 0 2 10 rfl rfl rfl rfl (sj_vin (by decide) (by decide)) dX7_init_36 (fun H locs hH hS => ?_)
  have hH : sj_H D A ([(h0, .inr (7, [.ref q_1, .int 0, .int 0, .null, .int 0, .int 0, .int 0, .int 0, .int 0, .null, .int 0])), (q_1, .inl (k_2, 3, .inr (.inr (.inr (.inr (va_up (fun _ => none) 0 (some q_4))))))), (q_4, .inr (10, [.int 0, .int (-1), .int 0, .int 0, .int 0, .double 0, .int 0, .int 0]))] ++ []) H := hH
  refine lv_iinc (v := 1) (lv' := [(1, .int 1), (0, .ref h0)]) hx hb dX7_init_37 hl (k := 0) rfl (by decide) (by decide) rfl (fun ls hl => ?_)
  refine lv_goto (tgt := 14) hx hb dX7_init_40 (by decide) ?_
  refine lv_iload_n hx hb dX7_init_14 rfl (lv_at hl 0 rfl) ?_
  refine lv_aload_n hx hb dX7_init_15 rfl (lv_at hl 1 rfl) ?_
  refine va_get (D := D) (ci := 7) (v := .ref q_1) (C := RX7) (T := TX7) (N := 11) hx hb hts in7 hown hK hH.1 0 rfl rfl 0 (by decide) wd5 (fun _ h9 => h9) rfl dX7_init_16 ?_
  refine va_alen hx hb hK hH.1 1 0 rfl rfl (v := 3) rfl dX7_init_19 ?_
  refine lv_icmp_ge (tgt := 43) hx hb dX7_init_20 (by decide) (fun h => absurd h (by decide)) (fun _ => ?_)
  refine lv_aload_n hx hb dX7_init_23 rfl (lv_at hl 1 rfl) ?_
  refine va_get (D := D) (ci := 7) (v := .ref q_1) (C := RX7) (T := TX7) (N := 11) hx hb hts in7 hown hK hH.1 0 rfl rfl 0 (by decide) wd5 (fun _ h9 => h9) rfl dX7_init_24 ?_
  refine lv_iload_n hx hb dX7_init_27 rfl (lv_at hl 0 rfl) ?_
  refine sj_new (ci := 10) (fs := [.int 0, .int 0, .int 0, .int 0, .int 0, .double 0, .int 0, .int 0]) (C := RX10) (F := TX10) (N := 8) hx hb hts in10 tyX10 tyX10_ok hown wd3 wd6 wd7 hK hH hS hA rfl sj_df10 rfl rfl (Nat.le_of_ble_eq_true rfl) (Nat.le_of_ble_eq_true rfl) dX7_init_28 (fun q_9 H hH hS => ?_)
  have hH : sj_H D A ([(h0, .inr (7, [.ref q_1, .int 0, .int 0, .null, .int 0, .int 0, .int 0, .int 0, .int 0, .null, .int 0])), (q_1, .inl (k_2, 3, .inr (.inr (.inr (.inr (va_up (fun _ => none) 0 (some q_4))))))), (q_4, .inr (10, [.int 0, .int (-1), .int 0, .int 0, .int 0, .double 0, .int 0, .int 0])), (q_9, .inr (10, [.int 0, .int 0, .int 0, .int 0, .int 0, .double 0, .int 0, .int 0]))] ++ []) H := hH
  refine lv_dup hx hb dX7_init_31 rfl ?_
  refine lv_iload_n hx hb dX7_init_32 rfl (lv_at hl 0 rfl) ?_
  refine sj_callv (wr := [(h0, .inr (7, [.ref q_1, .int 0, .int 0, .null, .int 0, .int 0, .int 0, .int 0, .int 0, .null, .int 0])), (q_1, .inl (k_2, 3, .inr (.inr (.inr (.inr (va_up (fun _ => none) 0 (some q_4))))))), (q_4, .inr (10, [.int 0, .int (-1), .int 0, .int 0, .int 0, .double 0, .int 0, .int 0]))]) (va_runI (As := [.int 1]) (rest := [.ref q_9, .int 1, .ref q_1]) ⟨hx, hb, hml, hown, hts⟩ (c_X10_init l D q_9 1 H.size) (cwI 1 hts gX7_init_X10_init rfl rfl rfl wd7 wd8 wd9 rfl (by decide +kernel) ⟨(Nat.le_of_ble_eq_true rfl), (Nat.le_of_ble_eq_true rfl)⟩) (sj_preS hH hK [3] rfl rfl [] rfl sj_bln sj_exn) rfl rfl hl.1 rfl (lv_room (Nat.le_of_ble_eq_true rfl)) dX7_init_33 ⟨(Nat.le_of_ble_eq_true rfl), (Nat.le_of_ble_eq_true rfl)⟩) hH hK hS hA [3] [0, 1, 2] rfl rfl rfl rfl (by decide) rfl rfl (fun u_11 H locs hw_12 hH hK hS => ?_)
  have hH : sj_H D A ([(h0, .inr (7, [.ref q_1, .int 0, .int 0, .null, .int 0, .int 0, .int 0, .int 0, .int 0, .null, .int 0])), (q_1, .inl (k_2, 3, .inr (.inr (.inr (.inr (va_up (fun _ => none) 0 (some q_4))))))), (q_4, .inr (10, [.int 0, .int (-1), .int 0, .int 0, .int 0, .double 0, .int 0, .int 0])), (q_9, .inr (10, [.int 1, .int (-1), .int 0, .int 0, .int 0, .double 0, .int 0, .int 0]))] ++ []) H := hH
  have hK : va_K D vwCl [(k_2, .object RX10)] s := by simpa using hK
  refine sj_astq hx hb hK hH hS 1 0 3 10 rfl rfl rfl rfl (sj_vin (by decide) (by decide)) dX7_init_36 (fun H locs hH hS => ?_)
  have hH : sj_H D A ([(h0, .inr (7, [.ref q_1, .int 0, .int 0, .null, .int 0, .int 0, .int 0, .int 0, .int 0, .null, .int 0])), (q_1, .inl (k_2, 3, .inr (.inr (.inr (.inr (va_up (va_up (fun _ => none) 0 (some q_4)) 1 (some q_9))))))), (q_4, .inr (10, [.int 0, .int (-1), .int 0, .int 0, .int 0, .double 0, .int 0, .int 0])), (q_9, .inr (10, [.int 1, .int (-1), .int 0, .int 0, .int 0, .double 0, .int 0, .int 0]))] ++ []) H := hH
  refine lv_iinc (v := 2) (lv' := [(1, .int 2), (0, .ref h0)]) hx hb dX7_init_37 hl (k := 0) rfl (by decide) (by decide) rfl (fun ls hl => ?_)
  refine lv_goto (tgt := 14) hx hb dX7_init_40 (by decide) ?_
  refine lv_iload_n hx hb dX7_init_14 rfl (lv_at hl 0 rfl) ?_
  refine lv_aload_n hx hb dX7_init_15 rfl (lv_at hl 1 rfl) ?_
  refine va_get (D := D) (ci := 7) (v := .ref q_1) (C := RX7) (T := TX7) (N := 11) hx hb hts in7 hown hK hH.1 0 rfl rfl 0 (by decide) wd5 (fun _ h9 => h9) rfl dX7_init_16 ?_
  refine va_alen hx hb hK hH.1 1 0 rfl rfl (v := 3) rfl dX7_init_19 ?_
  refine lv_icmp_ge (tgt := 43) hx hb dX7_init_20 (by decide) (fun h => absurd h (by decide)) (fun _ => ?_)
  refine lv_aload_n hx hb dX7_init_23 rfl (lv_at hl 1 rfl) ?_
  refine va_get (D := D) (ci := 7) (v := .ref q_1) (C := RX7) (T := TX7) (N := 11) hx hb hts in7 hown hK hH.1 0 rfl rfl 0 (by decide) wd5 (fun _ h9 => h9) rfl dX7_init_24 ?_
  refine lv_iload_n hx hb dX7_init_27 rfl (lv_at hl 0 rfl) ?_
  refine sj_new (ci := 10) (fs := [.int 0, .int 0, .int 0, .int 0, .int 0, .double 0, .int 0, .int 0]) (C := RX10) (F := TX10) (N := 8) hx hb hts in10 tyX10 tyX10_ok hown wd3 wd6 wd7 hK hH hS hA rfl sj_df10 rfl rfl (Nat.le_of_ble_eq_true rfl) (Nat.le_of_ble_eq_true rfl) dX7_init_28 (fun q_14 H hH hS => ?_)
  have hH : sj_H D A ([(h0, .inr (7, [.ref q_1, .int 0, .int 0, .null, .int 0, .int 0, .int 0, .int 0, .int 0, .null, .int 0])), (q_1, .inl (k_2, 3, .inr (.inr (.inr (.inr (va_up (va_up (fun _ => none) 0 (some q_4)) 1 (some q_9))))))), (q_4, .inr (10, [.int 0, .int (-1), .int 0, .int 0, .int 0, .double 0, .int 0, .int 0])), (q_9, .inr (10, [.int 1, .int (-1), .int 0, .int 0, .int 0, .double 0, .int 0, .int 0])), (q_14, .inr (10, [.int 0, .int 0, .int 0, .int 0, .int 0, .double 0, .int 0, .int 0]))] ++ []) H := hH
  refine lv_dup hx hb dX7_init_31 rfl ?_
  refine lv_iload_n hx hb dX7_init_32 rfl (lv_at hl 0 rfl) ?_
  refine sj_callv (wr := [(h0, .inr (7, [.ref q_1, .int 0, .int 0, .null, .int 0, .int 0, .int 0, .int 0, .int 0, .null, .int 0])), (q_1, .inl (k_2, 3, .inr (.inr (.inr (.inr (va_up (va_up (fun _ => none) 0 (some q_4)) 1 (some q_9))))))), (q_4, .inr (10, [.int 0, .int (-1), .int 0, .int 0, .int 0, .double 0, .int 0, .int 0])), (q_9, .inr (10, [.int 1, .int (-1), .int 0, .int 0, .int 0, .double 0, .int 0, .int 0]))]) (va_runI (As := [.int 2]) (rest := [.ref q_14, .int 2, .ref q_1]) ⟨hx, hb, hml, hown, hts⟩ (c_X10_init l D q_14 2 H.size) (cwI 1 hts gX7_init_X10_init rfl rfl rfl wd7 wd8 wd9 rfl (by decide +kernel) ⟨(Nat.le_of_ble_eq_true rfl), (Nat.le_of_ble_eq_true rfl)⟩) (sj_preS hH hK [4] rfl rfl [] rfl sj_bln sj_exn) rfl rfl hl.1 rfl (lv_room (Nat.le_of_ble_eq_true rfl)) dX7_init_33 ⟨(Nat.le_of_ble_eq_true rfl), (Nat.le_of_ble_eq_true rfl)⟩) hH hK hS hA [4] [0, 1, 2, 3] rfl rfl rfl rfl (by decide) rfl rfl (fun u_16 H locs hw_17 hH hK hS => ?_)
  have hH : sj_H D A ([(h0, .inr (7, [.ref q_1, .int 0, .int 0, .null, .int 0, .int 0, .int 0, .int 0, .int 0, .null, .int 0])), (q_1, .inl (k_2, 3, .inr (.inr (.inr (.inr (va_up (va_up (fun _ => none) 0 (some q_4)) 1 (some q_9))))))), (q_4, .inr (10, [.int 0, .int (-1), .int 0, .int 0, .int 0, .double 0, .int 0, .int 0])), (q_9, .inr (10, [.int 1, .int (-1), .int 0, .int 0, .int 0, .double 0, .int 0, .int 0])), (q_14, .inr (10, [.int 2, .int (-1), .int 0, .int 0, .int 0, .double 0, .int 0, .int 0]))] ++ []) H := hH
  have hK : va_K D vwCl [(k_2, .object RX10)] s := by simpa using hK
  refine sj_astq hx hb hK hH hS 1 0 4 10 rfl rfl rfl rfl (sj_vin (by decide) (by decide)) dX7_init_36 (fun H locs hH hS => ?_)
  have hH : sj_H D A ([(h0, .inr (7, [.ref q_1, .int 0, .int 0, .null, .int 0, .int 0, .int 0, .int 0, .int 0, .null, .int 0])), (q_1, .inl (k_2, 3, .inr (.inr (.inr (.inr (va_up (va_up (va_up (fun _ => none) 0 (some q_4)) 1 (some q_9)) 2 (some q_14))))))), (q_4, .inr (10, [.int 0, .int (-1), .int 0, .int 0, .int 0, .double 0, .int 0, .int 0])), (q_9, .inr (10, [.int 1, .int (-1), .int 0, .int 0, .int 0, .double 0, .int 0, .int 0])), (q_14, .inr (10, [.int 2, .int (-1), .int 0, .int 0, .int 0, .double 0, .int 0, .int 0]))] ++ []) H := hH
  refine lv_iinc (v := 3) (lv' := [(1, .int 3), (0, .ref h0)]) hx hb dX7_init_37 hl (k := 0) rfl (by decide) (by decide) rfl (fun ls hl => ?_)
  refine lv_goto (tgt := 14) hx hb dX7_init_40 (by decide) ?_
  refine lv_iload_n hx hb dX7_init_14 rfl (lv_at hl 0 rfl) ?_
  refine lv_aload_n hx hb dX7_init_15 rfl (lv_at hl 1 rfl) ?_
  refine va_get (D := D) (ci := 7) (v := .ref q_1) (C := RX7) (T := TX7) (N := 11) hx hb hts in7 hown hK hH.1 0 rfl rfl 0 (by decide) wd5 (fun _ h9 => h9) rfl dX7_init_16 ?_
  refine va_alen hx hb hK hH.1 1 0 rfl rfl (v := 3) rfl dX7_init_19 ?_
  refine lv_icmp_ge (tgt := 43) hx hb dX7_init_20 (by decide) (fun _ => ?_) (fun h => absurd (by decide) h)
  refine lv_aload_n hx hb dX7_init_43 rfl (lv_at hl 1 rfl) ?_
  refine lv_bipush (v := 24) hx hb dX7_init_44 (by decide) ?_
  refine sj_newa (atype := .int) (ty := .int) (N' := 24) (a0 := (24, .inl (fun _ => 0))) hx hb wd10 rfl hK hH hS hA (fun _ => rfl) (by decide) (by decide) (by decide) rfl rfl (Nat.le_of_ble_eq_true rfl) (Nat.le_of_ble_eq_true rfl) dX7_init_46 (fun q_19 k_20 H hK hH hS => ?_)
  have hK : va_K D vwCl [(k_2, .object RX10), (k_20, .int)] s := hK
  have hH : sj_H D A ([(h0, .inr (7, [.ref q_1, .int 0, .int 0, .null, .int 0, .int 0, .int 0, .int 0, .int 0, .null, .int 0])), (q_1, .inl (k_2, 3, .inr (.inr (.inr (.inr (va_up (va_up (va_up (fun _ => none) 0 (some q_4)) 1 (some q_9)) 2 (some q_14))))))), (q_4, .inr (10, [.int 0, .int (-1), .int 0, .int 0, .int 0, .double 0, .int 0, .int 0])), (q_9, .inr (10, [.int 1, .int (-1), .int 0, .int 0, .int 0, .double 0, .int 0, .int 0])), (q_14, .inr (10, [.int 2, .int (-1), .int 0, .int 0, .int 0, .double 0, .int 0, .int 0])), (q_19, .inl (k_20, 24, .inl (fun _ => 0)))] ++ []) H := hH
  refine sj_putF (D := D) (ci := 7) (v := .ref q_19) (ty := (.array .int)) (C := RX7) (F := TX7) (N := 11) hx hb hts in7 tyX7 tyX7_ok nmX7 hown hK hH hS 0 rfl rfl 3 (by decide) wd11 (fun _ h9 => h9) rfl hnm rfl (by decide +kernel) rfl rfl (Nat.le_of_ble_eq_true rfl) dX7_init_48 (fun H locs (hH : sj_H D A ([(h0, .inr (7, [.ref q_1, .int 0, .int 0, .ref q_19, .int 0, .int 0, .int 0, .int 0, .int 0, .null, .int 0])), (q_1, .inl (k_2, 3, .inr (.inr (.inr (.inr (va_up (va_up (va_up (fun _ => none) 0 (some q_4)) 1 (some q_9)) 2 (some q_14))))))), (q_4, .inr (10, [.int 0, .int (-1), .int 0, .int 0, .int 0, .double 0, .int 0, .int 0])), (q_9, .inr (10, [.int 1, .int (-1), .int 0, .int 0, .int 0, .double 0, .int 0, .int 0])), (q_14, .inr (10, [.int 2, .int (-1), .int 0, .int 0, .int 0, .double 0, .int 0, .int 0])), (q_19, .inl (k_20, 24, .inl (fun _ => 0)))] ++ []) H) hS => ?_)
  refine lv_aload_n hx hb dX7_init_51 rfl (lv_at hl 1 rfl) ?_
  refine lv_sipush (v := 256) hx hb dX7_init_52 (by decide) ?_
  refine sj_newa (atype := .int) (ty := .int) (N' := 256) (a0 := (256, .inl (fun _ => 0))) hx hb wd10 rfl hK hH hS hA (fun _ => rfl) (by decide) (by decide) (by decide) rfl rfl (Nat.le_of_ble_eq_true rfl) (Nat.le_of_ble_eq_true rfl) dX7_init_55 (fun q_21 k_22 H hK hH hS => ?_)
  have hK : va_K D vwCl [(k_2, .object RX10), (k_20, .int), (k_22, .int)] s := hK
  have hH : sj_H D A ([(h0, .inr (7, [.ref q_1, .int 0, .int 0, .ref q_19, .int 0, .int 0, .int 0, .int 0, .int 0, .null, .int 0])), (q_1, .inl (k_2, 3, .inr (.inr (.inr (.inr (va_up (va_up (va_up (fun _ => none) 0 (some q_4)) 1 (some q_9)) 2 (some q_14))))))), (q_4, .inr (10, [.int 0, .int (-1), .int 0, .int 0, .int 0, .double 0, .int 0, .int 0])), (q_9, .inr (10, [.int 1, .int (-1), .int 0, .int 0, .int 0, .double 0, .int 0, .int 0])), (q_14, .inr (10, [.int 2, .int (-1), .int 0, .int 0, .int 0, .double 0, .int 0, .int 0])), (q_19, .inl (k_20, 24, .inl (fun _ => 0))), (q_21, .inl (k_22, 256, .inl (fun _ => 0)))] ++ []) H := hH
  refine sj_putF (D := D) (ci := 7) (v := .ref q_21) (ty := (.array .int)) (C := RX7) (F := TX7) (N := 11) hx hb hts in7 tyX7 tyX7_ok nmX7 hown hK hH hS 0 rfl rfl 9 (by decide) wd12 (fun _ h9 => h9) rfl hnm rfl (by decide +kernel) rfl rfl (Nat.le_of_ble_eq_true rfl) dX7_init_57 (fun H locs (hH : sj_H D A ([(h0, .inr (7, [.ref q_1, .int 0, .int 0, .ref q_19, .int 0, .int 0, .int 0, .int 0, .int 0, .ref q_21, .int 0])), (q_1, .inl (k_2, 3, .inr (.inr (.inr (.inr (va_up (va_up (va_up (fun _ => none) 0 (some q_4)) 1 (some q_9)) 2 (some q_14))))))), (q_4, .inr (10, [.int 0, .int (-1), .int 0, .int 0, .int 0, .double 0, .int 0, .int 0])), (q_9, .inr (10, [.int 1, .int (-1), .int 0, .int 0, .int 0, .double 0, .int 0, .int 0])), (q_14, .inr (10, [.int 2, .int (-1), .int 0, .int 0, .int 0, .double 0, .int 0, .int 0])), (q_19, .inl (k_20, 24, .inl (fun _ => 0))), (q_21, .inl (k_22, 256, .inl (fun _ => 0)))] ++ []) H) hS => ?_)
  exact sj_vret hx hb hr hlocks hS (q_1, q_19, q_21, k_2, q_4, q_9, q_14, k_22, ([(q_19, .inl (k_20, 24, .inl (fun _ => 0)))] ++ [])) trivial (sj_hide (c1 := [(h0, .inr (7, [.ref q_1, .int 0, .int 0, .ref q_19, .int 0, .int 0, .int 0, .int 0, .int 0, .ref q_21, .int 0])), (q_1, .inl (k_2, 3, .inr (.inr (.inr (.inr (va_up (va_up (va_up (fun _ => none) 0 (some q_4)) 1 (some q_9)) 2 (some q_14))))))), (q_4, .inr (10, [.int 0, .int (-1), .int 0, .int 0, .int 0, .double 0, .int 0, .int 0])), (q_9, .inr (10, [.int 1, .int (-1), .int 0, .int 0, .int 0, .double 0, .int 0, .int 0])), (q_14, .inr (10, [.int 2, .int (-1), .int 0, .int 0, .int 0, .double 0, .int 0, .int 0])), (q_21, .inl (k_22, 256, .inl (fun _ => 0)))]) (c2 := [(q_19, .inl (k_20, 24, .inl (fun _ => 0)))]) hH [0, 1, 2, 3, 4, 6, 5] rfl rfl) (hK.sub [0, 2] rfl) (Nat.le_of_ble_eq_true rfl) (Nat.le_of_ble_eq_true rfl) dX7_init_60
set_option maxHeartbeats 4000000 in
set_option maxRecDepth 100000 in
/-- Cases(reading) -/
theorem c_X1_init (l : Launch) (D : va_G) (h0 : Nat) (r0 : Nat) (sz : Nat)  : Met l yX1_init wsX1_init ({ frames := 2, cells := 29, slots := 268, locals := 41 }) (va_Pc [.ref h0, .ref r0] (sj_B D [(h0, .inr (1, [.null, .null, .null, .null, .int 0]))] [] sz sj_xc)) (sj_Qv (S := Nat × Nat × Nat × Nat × Nat × va_W) D (fun _ => True) (fun u => [(h0, .inr (1, [.ref r0, .ref u.1, .ref u.2.1, .ref u.2.2.1, .int 0])), (u.1, .inr (3, [.ref u.2.2.2.1, .int 0])), (u.2.1, .inr (3, [.ref u.2.2.2.2.1, .int 0]))] ++ u.2.2.2.2.2) (fun u => []) (va_A [(h0, .inr (1, [.null, .null, .null, .null, .int 0]))] sz)) 29 268 (va_A [(h0, .inr (1, [.null, .null, .null, .null, .int 0]))] sz) := by
  refine sj_met (cc := cX1_init) (maxL := 3) (ret := none) (by decide) rfl (Nat.le_of_ble_eq_true rfl) ?_
  intro p e s m below meth c A ls hx hb hr hml hts hown hlocks hnm hA hsz hS hH hK hE hl
  have hown : s.vm.findClass RX1 = some m.cls := hown
  have hnm : meth.name = "<init>" := hnm
  have in0 : ∀ w ∈ wsX00, w ∈ wsX1_init := by decide +kernel
  have in1 : ∀ w ∈ wsX10, w ∈ wsX1_init := by decide +kernel
  have in3 : ∀ w ∈ wsX30, w ∈ wsX1_init := by decide +kernel
  have wd0 := hts (.methodLink RX1 3 objectInit) (by decide +kernel)
  have wd1 := hts (.instanceMethod objectInit) (by decide +kernel)
  have wd2 := hts (.code objectInit ⟨#[0xb1]⟩ 1 none) (by decide +kernel)
  have wd3 := hts (.fieldLink RX1 9 "StoryDesk$Cases" "reading" "LStoryDesk$Reading;") (by decide +kernel)
  have wd4 := hts (.classLink RX1 15 RX3) (by decide +kernel)
  have wd5 := hts (.instantiable RX3 2) (by decide +kernel)
  have wd6 := hts (.initialized RX3) (by decide +kernel)
  have wd7 := hts (.methodLink RX1 17 yX3_init) (by decide +kernel)
  have wd8 := hts (.instanceMethod yX3_init) (by decide +kernel)
  have wd9 := hts (.fieldLink RX1 20 "StoryDesk$Cases" "stepText" "LStoryDesk$Letters;") (by decide +kernel)
  have wd10 := hts (.fieldLink RX1 24 "StoryDesk$Cases" "cellText" "LStoryDesk$Letters;") (by decide +kernel)
  have wd11 := hts (.classLink RX1 27 RX0) (by decide +kernel)
  have wd12 := va_AO.use (A := #[]) hE.1
  have wd13 := hts (.fieldLink RX1 29 "StoryDesk$Cases" "all" "[LStoryDesk$Case;") (by decide +kernel)
  have wd14 := hts (.instantiable RX0 5) (by decide +kernel)
  have wd15 := hts (.initialized RX0) (by decide +kernel)
  have wd16 := hts (.instanceMethod yX0_init) (by decide +kernel)
  have hl : lv_has ls 3 [(0, .ref h0), (1, .ref r0)] := hl
  have hH : sj_H D A ([(h0, .inr (1, [.null, .null, .null, .null, .int 0]))] ++ []) s.heap := hH
  refine lv_aload_n hx hb dX1_init_0 rfl (lv_at hl 0 rfl) ?_
  refine W.objInit hx hb hown wd0 wd1 wd2 rfl (by rw [hml]; exact hl.1) rfl dX1_init_1 (Nat.le_of_ble_eq_true rfl) (Nat.le_of_ble_eq_true rfl) ?_
  refine W.eq (g2 := F0 m 4 ls []) rfl ?_
  refine lv_aload_n hx hb dX1_init_4 rfl (lv_at hl 0 rfl) ?_
  refine lv_aload_n hx hb dX1_init_5 rfl (lv_at hl 1 rfl) ?_
  refine sj_putF (D := D) (ci := 1) (v := .ref r0) (ty := (.object "StoryDesk$Reading")) (C := RX1) (F := TX1) (N := 5) hx hb hts in1 tyX1 tyX1_ok nmX1 hown hK hH hS 0 rfl rfl 0 (by decide) wd3 (fun _ h9 => h9) rfl hnm rfl (by decide +kernel) rfl rfl (Nat.le_of_ble_eq_true rfl) dX1_init_6 (fun H locs (hH : sj_H D A ([(h0, .inr (1, [.ref r0, .null, .null, .null, .int 0]))] ++ []) H) hS => ?_)
  refine lv_aload_n hx hb dX1_init_9 rfl (lv_at hl 0 rfl) ?_
  refine sj_new (ci := 3) (fs := [.null, .int 0]) (C := RX3) (F := TX3) (N := 2) hx hb hts in3 tyX3 tyX3_ok hown wd4 wd5 wd6 hK hH hS hA rfl sj_df3 rfl rfl (Nat.le_of_ble_eq_true rfl) (Nat.le_of_ble_eq_true rfl) dX1_init_10 (fun q_1 H hH hS => ?_)
  have hH : sj_H D A ([(h0, .inr (1, [.ref r0, .null, .null, .null, .int 0])), (q_1, .inr (3, [.null, .int 0]))] ++ []) H := hH
  refine lv_dup hx hb dX1_init_13 rfl ?_
  refine lv_bipush (v := 60) hx hb dX1_init_14 (by decide) ?_
  refine sj_callv (wr := [(h0, .inr (1, [.ref r0, .null, .null, .null, .int 0]))]) (va_runI (As := [.int 60]) (rest := [.ref q_1, .ref h0]) ⟨hx, hb, hml, hown, hts⟩ (c_X3_init l D q_1 60 60 H.size (by decide) (by decide) (by decide)) (cwI 1 hts gX1_init_X3_init rfl rfl rfl wd6 wd7 wd8 rfl (by decide +kernel) ⟨(Nat.le_of_ble_eq_true rfl), (Nat.le_of_ble_eq_true rfl)⟩) (sj_preS hH hK [1] rfl rfl [] rfl sj_bln sj_exn) rfl rfl hl.1 rfl (lv_room (Nat.le_of_ble_eq_true rfl)) dX1_init_16 ⟨(Nat.le_of_ble_eq_true rfl), (Nat.le_of_ble_eq_true rfl)⟩) hH hK hS hA [1] [0] rfl rfl rfl rfl (by decide) rfl rfl (fun u_3 H locs hw_4 hH hK hS => ?_)
  obtain ⟨q_5, k_6⟩ := u_3
  have hH : sj_H D A ([(h0, .inr (1, [.ref r0, .null, .null, .null, .int 0])), (q_1, .inr (3, [.ref q_5, .int 0])), (q_5, .inl (k_6, 60, .inl (fun _ => 0)))] ++ []) H := hH
  have hK : va_K D vwCl [(k_6, .char)] s := hK
  refine sj_putF (D := D) (ci := 1) (v := .ref q_1) (ty := (.object "StoryDesk$Letters")) (C := RX1) (F := TX1) (N := 5) hx hb hts in1 tyX1 tyX1_ok nmX1 hown hK hH hS 0 rfl rfl 1 (by decide) wd9 (fun _ h9 => h9) rfl hnm rfl (by decide +kernel) rfl rfl (Nat.le_of_ble_eq_true rfl) dX1_init_19 (fun H locs (hH : sj_H D A ([(h0, .inr (1, [.ref r0, .ref q_1, .null, .null, .int 0])), (q_1, .inr (3, [.ref q_5, .int 0])), (q_5, .inl (k_6, 60, .inl (fun _ => 0)))] ++ []) H) hS => ?_)
  refine lv_aload_n hx hb dX1_init_22 rfl (lv_at hl 0 rfl) ?_
  refine sj_new (ci := 3) (fs := [.null, .int 0]) (C := RX3) (F := TX3) (N := 2) hx hb hts in3 tyX3 tyX3_ok hown wd4 wd5 wd6 hK hH hS hA rfl sj_df3 rfl rfl (Nat.le_of_ble_eq_true rfl) (Nat.le_of_ble_eq_true rfl) dX1_init_23 (fun q_7 H hH hS => ?_)
  have hH : sj_H D A ([(h0, .inr (1, [.ref r0, .ref q_1, .null, .null, .int 0])), (q_1, .inr (3, [.ref q_5, .int 0])), (q_5, .inl (k_6, 60, .inl (fun _ => 0))), (q_7, .inr (3, [.null, .int 0]))] ++ []) H := hH
  refine lv_dup hx hb dX1_init_26 rfl ?_
  refine lv_bipush (v := 60) hx hb dX1_init_27 (by decide) ?_
  refine sj_callv (wr := [(h0, .inr (1, [.ref r0, .ref q_1, .null, .null, .int 0])), (q_1, .inr (3, [.ref q_5, .int 0])), (q_5, .inl (k_6, 60, .inl (fun _ => 0)))]) (va_runI (As := [.int 60]) (rest := [.ref q_7, .ref h0]) ⟨hx, hb, hml, hown, hts⟩ (c_X3_init l D q_7 60 60 H.size (by decide) (by decide) (by decide)) (cwI 1 hts gX1_init_X3_init rfl rfl rfl wd6 wd7 wd8 rfl (by decide +kernel) ⟨(Nat.le_of_ble_eq_true rfl), (Nat.le_of_ble_eq_true rfl)⟩) (sj_preS hH hK [3] rfl rfl [] rfl sj_bln sj_exn) rfl rfl hl.1 rfl (lv_room (Nat.le_of_ble_eq_true rfl)) dX1_init_29 ⟨(Nat.le_of_ble_eq_true rfl), (Nat.le_of_ble_eq_true rfl)⟩) hH hK hS hA [3] [0, 1, 2] rfl rfl rfl rfl (by decide) rfl rfl (fun u_9 H locs hw_10 hH hK hS => ?_)
  obtain ⟨q_11, k_12⟩ := u_9
  have hH : sj_H D A ([(h0, .inr (1, [.ref r0, .ref q_1, .null, .null, .int 0])), (q_1, .inr (3, [.ref q_5, .int 0])), (q_5, .inl (k_6, 60, .inl (fun _ => 0))), (q_7, .inr (3, [.ref q_11, .int 0])), (q_11, .inl (k_12, 60, .inl (fun _ => 0)))] ++ []) H := hH
  have hK : va_K D vwCl [(k_6, .char), (k_12, .char)] s := hK
  refine sj_putF (D := D) (ci := 1) (v := .ref q_7) (ty := (.object "StoryDesk$Letters")) (C := RX1) (F := TX1) (N := 5) hx hb hts in1 tyX1 tyX1_ok nmX1 hown hK hH hS 0 rfl rfl 2 (by decide) wd10 (fun _ h9 => h9) rfl hnm rfl (by decide +kernel) rfl rfl (Nat.le_of_ble_eq_true rfl) dX1_init_32 (fun H locs (hH : sj_H D A ([(h0, .inr (1, [.ref r0, .ref q_1, .ref q_7, .null, .int 0])), (q_1, .inr (3, [.ref q_5, .int 0])), (q_5, .inl (k_6, 60, .inl (fun _ => 0))), (q_7, .inr (3, [.ref q_11, .int 0])), (q_11, .inl (k_12, 60, .inl (fun _ => 0)))] ++ []) H) hS => ?_)
  refine lv_aload_n hx hb dX1_init_35 rfl (lv_at hl 0 rfl) ?_
  refine lv_bipush (v := 24) hx hb dX1_init_36 (by decide) ?_
  refine sj_newq (C := RX0) (N' := 24) hx hb hown wd11 (sj_ao wd12) hK hH hS hA (by decide) (by decide) (by decide) rfl rfl (Nat.le_of_ble_eq_true rfl) (Nat.le_of_ble_eq_true rfl) dX1_init_38 (fun q_13 k_14 H hK hH hS => ?_)
  have hK : va_K D vwCl [(k_6, .char), (k_12, .char), (k_14, .object RX0)] s := hK
  have hH : sj_H D A ([(h0, .inr (1, [.ref r0, .ref q_1, .ref q_7, .null, .int 0])), (q_1, .inr (3, [.ref q_5, .int 0])), (q_5, .inl (k_6, 60, .inl (fun _ => 0))), (q_7, .inr (3, [.ref q_11, .int 0])), (q_11, .inl (k_12, 60, .inl (fun _ => 0))), (q_13, .inl (k_14, 24, .inr (.inr (.inr (.inr (fun _ => none))))))] ++ []) H := hH
  refine sj_putF (D := D) (ci := 1) (v := .ref q_13) (ty := (.array (.object "StoryDesk$Case"))) (C := RX1) (F := TX1) (N := 5) hx hb hts in1 tyX1 tyX1_ok nmX1 hown hK hH hS 0 rfl rfl 3 (by decide) wd13 (fun _ h9 => h9) rfl hnm rfl (by decide +kernel) rfl rfl (Nat.le_of_ble_eq_true rfl) dX1_init_41 (fun H locs (hH : sj_H D A ([(h0, .inr (1, [.ref r0, .ref q_1, .ref q_7, .ref q_13, .int 0])), (q_1, .inr (3, [.ref q_5, .int 0])), (q_5, .inl (k_6, 60, .inl (fun _ => 0))), (q_7, .inr (3, [.ref q_11, .int 0])), (q_11, .inl (k_12, 60, .inl (fun _ => 0))), (q_13, .inl (k_14, 24, .inr (.inr (.inr (.inr (fun _ => none))))))] ++ []) H) hS => ?_)
  refine lv_iconst (v := 0) hx hb dX1_init_44 (by decide) ?_
  refine lv_istore_n (lv' := [(2, .int 0), (0, .ref h0), (1, .ref r0)]) hx hb dX1_init_45 rfl hl (by decide) rfl (fun ls hl => ?_)
  have after_15 : ∀ (f : Nat → Option Nat) (pl : va_W) (H : Heap) (locs : List Loc) (ls : Array Slot) (cells slots : Nat), cells ≤ 29 → slots ≤ 268 → lv_has ls 3 [(2, .int (nI 24)), (0, .ref h0), (1, .ref r0)] → sj_H D A ([(h0, .inr (1, [.ref r0, .ref q_1, .ref q_7, .ref q_13, .int 0])), (q_1, .inr (3, [.ref q_5, .int 0])), (q_5, .inl (k_6, 60, .inl (fun _ => 0))), (q_7, .inr (3, [.ref q_11, .int 0])), (q_11, .inl (k_12, 60, .inl (fun _ => 0))), (q_13, .inl (k_14, 24, .inr (.inr (.inr (.inr f)))))] ++ pl) H → va_S A s.heap H locs → W p l e (headSpec wsX1_init ({ frames := 2, cells := 29, slots := 268, locals := 41 })).room s m ([.ref h0, .ref r0] : List Value).toArray below meth c H locs cells slots (MQ below (sj_Qv (S := Nat × Nat × Nat × Nat × Nat × va_W) D (fun _ => True) (fun u => [(h0, .inr (1, [.ref r0, .ref u.1, .ref u.2.1, .ref u.2.2.1, .int 0])), (u.1, .inr (3, [.ref u.2.2.2.1, .int 0])), (u.2.1, .inr (3, [.ref u.2.2.2.2.1, .int 0]))] ++ u.2.2.2.2.2) (fun u => []) A) ([.ref h0, .ref r0] : List Value).toArray s 29 268 A) (F0 m 74 ls []) := by
    intro f pl H locs ls cells slots hck hcs hl hH hS
    refine W.widen (k := 29) (n := 268) hck hcs ?_
    exact sj_vret hx hb hr hlocks hS (q_1, q_7, q_13, q_5, q_11, ([(q_5, .inl (k_6, 60, .inl (fun _ => 0))), (q_11, .inl (k_12, 60, .inl (fun _ => 0))), (q_13, .inl (k_14, 24, .inr (.inr (.inr (.inr f)))))] ++ pl)) trivial (sj_hide (c1 := [(h0, .inr (1, [.ref r0, .ref q_1, .ref q_7, .ref q_13, .int 0])), (q_1, .inr (3, [.ref q_5, .int 0])), (q_7, .inr (3, [.ref q_11, .int 0]))]) (c2 := [(q_5, .inl (k_6, 60, .inl (fun _ => 0))), (q_11, .inl (k_12, 60, .inl (fun _ => 0))), (q_13, .inl (k_14, 24, .inr (.inr (.inr (.inr f)))))]) hH [0, 1, 3, 2, 4, 5] rfl rfl) (sj_Knil hK) (Nat.le_of_ble_eq_true rfl) (Nat.le_of_ble_eq_true rfl) dX1_init_74
  have lp_15 : ∀ (n j : Nat) (f : Nat → Option Nat) (pl : va_W) (H : Heap) (locs : List Loc) (ls : Array Slot) (cells slots : Nat), j + n = 24 → cells + n * 1 ≤ 29 → slots + n * 5 ≤ 268 → lv_has ls 3 [(2, .int (nI j)), (0, .ref h0), (1, .ref r0)] → sj_H D A ([(h0, .inr (1, [.ref r0, .ref q_1, .ref q_7, .ref q_13, .int 0])), (q_1, .inr (3, [.ref q_5, .int 0])), (q_5, .inl (k_6, 60, .inl (fun _ => 0))), (q_7, .inr (3, [.ref q_11, .int 0])), (q_11, .inl (k_12, 60, .inl (fun _ => 0))), (q_13, .inl (k_14, 24, .inr (.inr (.inr (.inr f)))))] ++ pl) H → va_S A s.heap H locs → W p l e (headSpec wsX1_init ({ frames := 2, cells := 29, slots := 268, locals := 41 })).room s m ([.ref h0, .ref r0] : List Value).toArray below meth c H locs cells slots (MQ below (sj_Qv (S := Nat × Nat × Nat × Nat × Nat × va_W) D (fun _ => True) (fun u => [(h0, .inr (1, [.ref r0, .ref u.1, .ref u.2.1, .ref u.2.2.1, .int 0])), (u.1, .inr (3, [.ref u.2.2.2.1, .int 0])), (u.2.1, .inr (3, [.ref u.2.2.2.2.1, .int 0]))] ++ u.2.2.2.2.2) (fun u => []) A) ([.ref h0, .ref r0] : List Value).toArray s 29 268 A) (F0 m 46 ls []) := by
    intro n
    induction n with
    | zero =>
      intro j f pl H locs ls cells slots hj hck hcs hl hH hS
      obtain rfl : j = 24 := by omega
      refine lv_iload_n hx hb dX1_init_46 rfl (lv_at hl 0 rfl) ?_
      refine lv_aload_n hx hb dX1_init_47 rfl (lv_at hl 1 rfl) ?_
      refine va_get (D := D) (ci := 1) (v := .ref q_13) (C := RX1) (T := TX1) (N := 5) hx hb hts in1 hown hK hH.1 0 rfl rfl 3 (by decide) wd13 (fun _ h9 => h9) rfl dX1_init_48 ?_
      refine va_alen hx hb hK hH.1 5 2 rfl rfl (v := 24) rfl dX1_init_51 ?_
      refine lv_icmp_ge (tgt := 74) hx hb dX1_init_52 (by decide) (fun _ => ?_) (fun h => absurd (by decide) h)
      exact after_15 f pl H locs ls cells slots (by omega) (by omega) hl hH hS
    | succ n ih =>
      intro j f pl H locs ls cells slots hj hck hcs hl hH hS
      have hjn : j < 24 := by omega
      refine lv_iload_n hx hb dX1_init_46 rfl (lv_at hl 0 rfl) ?_
      refine lv_aload_n hx hb dX1_init_47 rfl (lv_at hl 1 rfl) ?_
      refine va_get (D := D) (ci := 1) (v := .ref q_13) (C := RX1) (T := TX1) (N := 5) hx hb hts in1 hown hK hH.1 0 rfl rfl 3 (by decide) wd13 (fun _ h9 => h9) rfl dX1_init_48 ?_
      refine va_alen hx hb hK hH.1 5 2 rfl rfl (v := 24) rfl dX1_init_51 ?_
      refine lv_icmp_ge (tgt := 74) hx hb dX1_init_52 (by decide) (fun h => absurd h (nI_ge hjn (by decide))) (fun _ => ?_)
      refine lv_aload_n hx hb dX1_init_55 rfl (lv_at hl 1 rfl) ?_
      refine va_get (D := D) (ci := 1) (v := .ref q_13) (C := RX1) (T := TX1) (N := 5) hx hb hts in1 hown hK hH.1 0 rfl rfl 3 (by decide) wd13 (fun _ h9 => h9) rfl dX1_init_56 ?_
      refine lv_iload_n hx hb dX1_init_59 rfl (lv_at hl 0 rfl) ?_
      refine sj_new (ci := 0) (fs := [.null, .null, .null, .int 0, .int 0]) (C := RX0) (F := TX0) (N := 5) hx hb hts in0 tyX0 tyX0_ok hown wd11 wd14 wd15 hK hH hS hA rfl sj_df0 rfl rfl (Nat.le_trans (m := 29) (by omega) (Nat.le_of_ble_eq_true rfl)) (Nat.le_trans (m := 268) (by omega) (Nat.le_of_ble_eq_true rfl)) dX1_init_60 (fun q_18 H hH hS => ?_)
      have hH : sj_H D A ([(h0, .inr (1, [.ref r0, .ref q_1, .ref q_7, .ref q_13, .int 0])), (q_1, .inr (3, [.ref q_5, .int 0])), (q_5, .inl (k_6, 60, .inl (fun _ => 0))), (q_7, .inr (3, [.ref q_11, .int 0])), (q_11, .inl (k_12, 60, .inl (fun _ => 0))), (q_13, .inl (k_14, 24, .inr (.inr (.inr (.inr f))))), (q_18, .inr (0, [.null, .null, .null, .int 0, .int 0]))] ++ pl) H := hH
      refine lv_dup hx hb dX1_init_63 rfl ?_
      refine sj_callv (wr := [(h0, .inr (1, [.ref r0, .ref q_1, .ref q_7, .ref q_13, .int 0])), (q_1, .inr (3, [.ref q_5, .int 0])), (q_5, .inl (k_6, 60, .inl (fun _ => 0))), (q_7, .inr (3, [.ref q_11, .int 0])), (q_11, .inl (k_12, 60, .inl (fun _ => 0))), (q_13, .inl (k_14, 24, .inr (.inr (.inr (.inr f)))))]) (va_runIN (As := []) (rest := [.ref q_18, .int (nI j), .ref q_13]) ⟨hx, hb, hml, hown, hts⟩ (c_X0_init l D q_18 H.size) ⟨(va_cnB 0 hts gX1_init_X0_init_n33 rfl rfl rfl hE.2.2.2.2.2.2.1 wd15 (by decide +kernel) ⟨(Nat.le_of_ble_eq_true rfl), (Nat.le_of_ble_eq_true rfl)⟩), rfl, wd16⟩ (sj_preS hH hK [6] rfl rfl [] rfl sj_bln sj_exn) rfl rfl hl.1 rfl (lv_room (Nat.le_of_ble_eq_true rfl)) dX1_init_64 ⟨(Nat.le_trans (m := 29) (by omega) (Nat.le_of_ble_eq_true rfl)), (Nat.le_trans (m := 268) (by omega) (Nat.le_of_ble_eq_true rfl))⟩) hH hK hS hA [6] [0, 1, 2, 3, 4, 5] rfl rfl rfl rfl (by decide) rfl rfl (fun u_20 H locs hw_21 hH hK hS => ?_)
      have hH : sj_H D A ([(h0, .inr (1, [.ref r0, .ref q_1, .ref q_7, .ref q_13, .int 0])), (q_1, .inr (3, [.ref q_5, .int 0])), (q_5, .inl (k_6, 60, .inl (fun _ => 0))), (q_7, .inr (3, [.ref q_11, .int 0])), (q_11, .inl (k_12, 60, .inl (fun _ => 0))), (q_13, .inl (k_14, 24, .inr (.inr (.inr (.inr f))))), (q_18, .inr (0, [.null, .null, .null, .int 0, .int 0]))] ++ pl) H := hH
      have hK : va_K D vwCl [(k_6, .char), (k_12, .char), (k_14, .object RX0)] s := by simpa using hK
      refine sj_astq hx hb hK hH hS 5 2 6 0 rfl rfl rfl rfl (vp_in_nI hjn (by decide)) dX1_init_67 (fun H locs hH hS => ?_)
      have hH : sj_H D A ([(h0, .inr (1, [.ref r0, .ref q_1, .ref q_7, .ref q_13, .int 0])), (q_1, .inr (3, [.ref q_5, .int 0])), (q_5, .inl (k_6, 60, .inl (fun _ => 0))), (q_7, .inr (3, [.ref q_11, .int 0])), (q_11, .inl (k_12, 60, .inl (fun _ => 0))), (q_13, .inl (k_14, 24, .inr (.inr (.inr (.inr (va_up f (nI j).toNatClampNeg (some q_18))))))), (q_18, .inr (0, [.null, .null, .null, .int 0, .int 0]))] ++ pl) H := hH
      refine lv_iinc (v := (nI (j + 1))) (lv' := [(2, .int (nI (j + 1))), (0, .ref h0), (1, .ref r0)]) hx hb dX1_init_68 hl (k := 0) rfl (by rw [nI_succ]; rfl) (by decide) rfl (fun ls hl => ?_)
      refine lv_goto (tgt := 46) hx hb dX1_init_71 (by decide) ?_
      exact ih (j + 1) _ _ _ _ _ _ _ (by omega) (by omega) (by omega) (lv_sub hl [0, 1, 2] rfl) (sj_hide (c1 := [(h0, .inr (1, [.ref r0, .ref q_1, .ref q_7, .ref q_13, .int 0])), (q_1, .inr (3, [.ref q_5, .int 0])), (q_5, .inl (k_6, 60, .inl (fun _ => 0))), (q_7, .inr (3, [.ref q_11, .int 0])), (q_11, .inl (k_12, 60, .inl (fun _ => 0))), (q_13, .inl (k_14, 24, .inr (.inr (.inr (.inr (va_up f (nI j).toNatClampNeg (some q_18)))))))]) (c2 := [(q_18, .inr (0, [.null, .null, .null, .int 0, .int 0]))]) hH [0, 1, 2, 3, 4, 5, 6] rfl rfl) hS
  exact lp_15 24 0 _ _ _ _ _ _ _ (by omega) (by omega) (by omega)  hl hH hS
