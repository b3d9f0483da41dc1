theorem dL_law_0 : decode cL_law 0 = .ok (.new 8, 3) := by decide +kernel
theorem dL_law_3 : decode cL_law 3 = .ok (.dup, 1) := by decide +kernel
theorem dL_law_4 : decode cL_law 4 = .ok (.invokespecial 53, 3) := by decide +kernel
theorem dL_law_7 : decode cL_law 7 = .ok (.astore_n 1, 1) := by decide +kernel
theorem dL_law_8 : decode cL_law 8 = .ok (.new 54, 3) := by decide +kernel
theorem dL_law_11 : decode cL_law 11 = .ok (.dup, 1) := by decide +kernel
theorem dL_law_12 : decode cL_law 12 = .ok (.invokespecial 56, 3) := by decide +kernel
theorem dL_law_15 : decode cL_law 15 = .ok (.astore_n 2, 1) := by decide +kernel
theorem dL_law_16 : decode cL_law 16 = .ok (.iconst 1, 1) := by decide +kernel
theorem dL_law_17 : decode cL_law 17 = .ok (.newarray .long, 2) := by decide +kernel
theorem dL_law_19 : decode cL_law 19 = .ok (.astore_n 3, 1) := by decide +kernel
theorem dL_law_20 : decode cL_law 20 = .ok (.iconst 0, 1) := by decide +kernel
theorem dL_law_21 : decode cL_law 21 = .ok (.istore 4, 2) := by decide +kernel
theorem dL_law_33 : decode cL_law 33 = .ok (.aload_n 0, 1) := by decide +kernel
theorem dL_law_34 : decode cL_law 34 = .ok (.iload 4, 2) := by decide +kernel
theorem dL_law_36 : decode cL_law 36 = .ok (.iaload, 1) := by decide +kernel
theorem dL_law_37 : decode cL_law 37 = .ok (.bipush 15, 2) := by decide +kernel
theorem dL_law_39 : decode cL_law 39 = .ok (.iand, 1) := by decide +kernel
theorem dL_law_40 : decode cL_law 40 = .ok (.tableswitch 1022 0 15 #[80, 149, 193, 261, 317, 401, 445, 494, 562, 642, 722, 826, 882, 907, 944, 997], 80) := by decide +kernel
set_option maxHeartbeats 8000000 in
set_option maxRecDepth 100000 in
/-- the law from its first instruction -/
theorem sj_law {p : Program} {l : Launch} {e : Env} {s : State} {m : MethodId} {below : List Frame} {meth : Method} {c : Code} {b L : Nat} {xs : Nat → Int32} {A : Nat → Prop} {D : va_G} {ls : Array Slot} (hL : L ≤ 6) (hl0 : l.stackTraces = false) (hx : p.tables.exec = Jvm.exec) (hb : c.code = cL_law) (hr : meth.sig.returnType = ret) (hlocks : meth.locks = false) (hml : c.maxLocals = 9) (hown : s.vm.findClass RL = some m.cls) (hts : ∀ w ∈ wsL_law, w.before #[Value.ref b] s = true) (hX : va_X b L xs s s.heap) (hbl : b < s.heap.size) (hbA : ¬ A b) (hA : ∀ q, s.heap.size ≤ q → A q) (hAd : A = fun q => s.heap.size ≤ q) (hE : sj_xc s) (hxI : sj_xh "java/lang/IndexOutOfBoundsException" A s) (hxA : sj_xh "java/lang/IllegalArgumentException" A s) (hxS : sj_xh "java/lang/IllegalStateException" A s) (hK : va_K D vwCl [] s) (hl : lv_has ls 9 [(0, .ref b)]) : W p l e room_1 s m #[Value.ref b] below meth c s.heap [] 0 0 (lw_Z below #[Value.ref b] s) (F0 m 0 ls []) := by
  have in11 : ∀ w ∈ wsX110, w ∈ wsL_law := inlX11
  have in12 : ∀ w ∈ wsX120, w ∈ wsL_law := inlX12
  have wd0 := hts (.classLink RL 8 RX11) (by decide +kernel)
  have wd1 := hts (.instantiable RX11 14) (by decide +kernel)
  have wd2 := hts (.initialized RX11) (by decide +kernel)
  have wd3 := hts (.methodLink RL 53 yX11_init) (by decide +kernel)
  have wd4 := hts (.instanceMethod yX11_init) (by decide +kernel)
  have wd5 := hts (.classLink RL 54 RX12) (by decide +kernel)
  have wd6 := hts (.instantiable RX12 86) (by decide +kernel)
  have wd7 := hts (.initialized RX12) (by decide +kernel)
  have wd8 := hts (.methodLink RL 56 yX12_init) (by decide +kernel)
  have wd9 := hts (.instanceMethod yX12_init) (by decide +kernel)
  have wd10 := hts (.arrayClass .long) (by decide +kernel)
  have hS : va_S A s.heap s.heap [] := va_S.rf
  have hH : sj_H D A ([] ++ []) s.heap := sj_nil
  refine sj_new (ci := 11) (fs := [.null, .null, .null, .null, .null, .null, .null, .int 0, .null, .null, .null, .int 0, .null, .null]) (C := RX11) (F := TX11) (N := 14) hx hb hts in11 tyX11 tyX11_ok hown wd0 wd1 wd2 hK hH hS hA rfl sj_df11 rfl rfl (Nat.le_of_ble_eq_true rfl) (Nat.le_of_ble_eq_true rfl) dL_law_0 (fun q_1 H hH hS => ?_)
  have hH : sj_H D A ([(q_1, .inr (11, [.null, .null, .null, .null, .null, .null, .null, .int 0, .null, .null, .null, .int 0, .null, .null]))] ++ []) H := hH
  refine lv_dup hx hb dL_law_3 rfl ?_
  refine sj_callv (wr := []) (va_runI (As := []) (rest := [.ref q_1]) ⟨hx, hb, hml, hown, hts⟩ (c_X11_init l D q_1 H.size) (cwI 0 hts gL_law_X11_init rfl rfl rfl wd2 wd3 wd4 rfl (by decide +kernel) ⟨(Nat.le_of_ble_eq_true rfl), (Nat.le_of_ble_eq_true rfl)⟩) (sj_preS hH hK [0] rfl rfl [] rfl sj_xcb (sj_xcw hE)) rfl rfl hl.1 rfl (lv_room (Nat.le_of_ble_eq_true rfl)) dL_law_4 ⟨(Nat.le_of_ble_eq_true rfl), (Nat.le_of_ble_eq_true rfl)⟩) hH hK hS hA [0] [] rfl rfl rfl rfl (by decide) rfl rfl (fun u_3 H locs hw_4 hH hK hS => ?_)
  obtain ⟨q_5, q_6, q_7, q_8, q_9, q_10, q_11, q_12, q_13, q_14, q_15, q_16, q_17, k_18, q_19, q_20, q_21, q_22, q_23, q_24, q_25, q_26, q_27, q_28, q_29, k_30, k_31, k_32, q_33, q_34, q_35, q_36, q_37, q_38, k_39, k_40, k_41, q_42, q_43, q_44, k_45, q_46, q_47, q_48, k_49, k_50, f_51, q_52, q_53, q_54, q_55, q_56, q_57, q_58, q_59, q_60, k_61, k_62, f_63, q_64, q_65, k_66, k_67, q_68, q_69, pl_70⟩ := u_3
  obtain ⟨hf_71, hf_72⟩ := hw_4
  have hH : sj_H D A (([] ++ ([(q_1, .inr (11, [.ref q_5, .ref q_6, .ref q_7, .ref q_8, .ref q_9, .ref q_10, .ref q_11, .int 0, .ref q_12, .ref q_13, .ref q_14, .int 0, .ref q_15, .ref q_16])), (q_5, .inr (3, [.ref q_17, .int 0])), (q_17, .inl (k_18, 480, .inl (fun _ => 0))), (q_6, .inr (5, [.ref q_19, .int 0, .ref q_20, .ref q_21, .int 0, .ref q_22, .int 0, .ref q_23, .int 0, .ref q_24, .int 0, .ref q_25, .int 0, .ref q_26, .int 0, .int 0, .int 0, .ref q_27, .ref q_28])), (q_19, .inr (3, [.ref q_29, .int 0])), (q_29, .inl (k_30, 480, .inl (fun _ => 0))), (q_20, .inl (k_31, 20, .inl (fun _ => 0))), (q_21, .inl (k_32, 20, .inl (fun _ => 0))), (q_7, .inr (1, [.ref q_6, .ref q_33, .ref q_34, .ref q_35, .int 0])), (q_8, .inr (8, [.ref q_36, .ref q_37, .ref q_38])), (q_36, .inl (k_39, 32, .inl (fun _ => 0))), (q_37, .inl (k_40, 32, .inl (fun _ => 0))), (q_38, .inl (k_41, 8, .inl (fun _ => 0))), (q_9, .inr (7, [.ref q_42, .int 0, .int 0, .ref q_43, .int 0, .int 0, .int 0, .int 0, .int 0, .ref q_44, .int 0])), (q_42, .inl (k_45, 3, .inr (.inr (.inr (.inr (va_up (va_up (va_up (fun _ => none) 0 (some q_46)) 1 (some q_47)) 2 (some q_48))))))), (q_46, .inr (10, [.int 0, .int (-1), .int 0, .int 0, .int 0, .double 0, .int 0, .int 0])), (q_47, .inr (10, [.int 1, .int (-1), .int 0, .int 0, .int 0, .double 0, .int 0, .int 0])), (q_48, .inr (10, [.int 2, .int (-1), .int 0, .int 0, .int 0, .double 0, .int 0, .int 0])), (q_44, .inl (k_49, 256, .inl (fun _ => 0))), (q_10, .inl (k_50, 13, .inr (.inr (.inr (.inr f_51))))), (q_52, .inr (2, [.ref q_53, .ref q_54, .int 0, .ref q_55, .ref q_56, .int 0, .int 0, .ref q_57, .ref q_58, .ref q_59, .ref q_60])), (q_54, .inl (k_61, 62, .inl (fun _ => 0))), (q_12, .inl (k_62, 9, .inr (.inr (.inr (.inr f_63))))), (q_64, .inr (9, [.ref q_65, .int 0, .int 0, .int 0])), (q_13, .inl (k_66, 8, .inl (fun _ => 0))), (q_14, .inl (k_67, 8, .inl (fun _ => 0))), (q_15, .inr (9, [.ref q_68, .int 0, .int 0, .int 0])), (q_16, .inr (9, [.ref q_69, .int 0, .int 0, .int 0]))] ++ pl_70)) ++ []) H := hH
  have hH : sj_H D A ([(q_1, .inr (11, [.ref q_5, .ref q_6, .ref q_7, .ref q_8, .ref q_9, .ref q_10, .ref q_11, .int 0, .ref q_12, .ref q_13, .ref q_14, .int 0, .ref q_15, .ref q_16])), (q_5, .inr (3, [.ref q_17, .int 0])), (q_17, .inl (k_18, 480, .inl (fun _ => 0))), (q_6, .inr (5, [.ref q_19, .int 0, .ref q_20, .ref q_21, .int 0, .ref q_22, .int 0, .ref q_23, .int 0, .ref q_24, .int 0, .ref q_25, .int 0, .ref q_26, .int 0, .int 0, .int 0, .ref q_27, .ref q_28])), (q_19, .inr (3, [.ref q_29, .int 0])), (q_29, .inl (k_30, 480, .inl (fun _ => 0))), (q_20, .inl (k_31, 20, .inl (fun _ => 0))), (q_21, .inl (k_32, 20, .inl (fun _ => 0))), (q_7, .inr (1, [.ref q_6, .ref q_33, .ref q_34, .ref q_35, .int 0])), (q_8, .inr (8, [.ref q_36, .ref q_37, .ref q_38])), (q_36, .inl (k_39, 32, .inl (fun _ => 0))), (q_37, .inl (k_40, 32, .inl (fun _ => 0))), (q_38, .inl (k_41, 8, .inl (fun _ => 0))), (q_9, .inr (7, [.ref q_42, .int 0, .int 0, .ref q_43, .int 0, .int 0, .int 0, .int 0, .int 0, .ref q_44, .int 0])), (q_42, .inl (k_45, 3, .inr (.inr (.inr (.inr (va_up (va_up (va_up (fun _ => none) 0 (some q_46)) 1 (some q_47)) 2 (some q_48))))))), (q_46, .inr (10, [.int 0, .int (-1), .int 0, .int 0, .int 0, .double 0, .int 0, .int 0])), (q_47, .inr (10, [.int 1, .int (-1), .int 0, .int 0, .int 0, .double 0, .int 0, .int 0])), (q_48, .inr (10, [.int 2, .int (-1), .int 0, .int 0, .int 0, .double 0, .int 0, .int 0])), (q_44, .inl (k_49, 256, .inl (fun _ => 0))), (q_10, .inl (k_50, 13, .inr (.inr (.inr (.inr f_51))))), (q_52, .inr (2, [.ref q_53, .ref q_54, .int 0, .ref q_55, .ref q_56, .int 0, .int 0, .ref q_57, .ref q_58, .ref q_59, .ref q_60])), (q_54, .inl (k_61, 62, .inl (fun _ => 0))), (q_12, .inl (k_62, 9, .inr (.inr (.inr (.inr f_63))))), (q_64, .inr (9, [.ref q_65, .int 0, .int 0, .int 0])), (q_13, .inl (k_66, 8, .inl (fun _ => 0))), (q_14, .inl (k_67, 8, .inl (fun _ => 0))), (q_15, .inr (9, [.ref q_68, .int 0, .int 0, .int 0])), (q_16, .inr (9, [.ref q_69, .int 0, .int 0, .int 0]))] ++ (pl_70 ++ [])) H := sj_as hH
  generalize pl_70 ++ [] = pl_73 at hH
  have hK : va_K D vwCl [(k_18, .char), (k_30, .char), (k_31, .int), (k_32, .int), (k_39, .int), (k_40, .int), (k_41, .int), (k_45, .object RX10), (k_49, .int), (k_50, .object RX2), (k_61, .int), (k_62, .object RX9), (k_66, .boolean), (k_67, .int)] s := hK
  rw [sj_f3_eq] at hH
  have hH : sj_H D A ([(q_1, .inr (11, [.ref q_5, .ref q_6, .ref q_7, .ref q_8, .ref q_9, .ref q_10, .ref q_11, .int 0, .ref q_12, .ref q_13, .ref q_14, .int 0, .ref q_15, .ref q_16])), (q_5, .inr (3, [.ref q_17, .int 0])), (q_17, .inl (k_18, 480, .inl (fun _ => 0))), (q_6, .inr (5, [.ref q_19, .int 0, .ref q_20, .ref q_21, .int 0, .ref q_22, .int 0, .ref q_23, .int 0, .ref q_24, .int 0, .ref q_25, .int 0, .ref q_26, .int 0, .int 0, .int 0, .ref q_27, .ref q_28])), (q_19, .inr (3, [.ref q_29, .int 0])), (q_29, .inl (k_30, 480, .inl (fun _ => 0))), (q_20, .inl (k_31, 20, .inl (fun _ => 0))), (q_21, .inl (k_32, 20, .inl (fun _ => 0))), (q_7, .inr (1, [.ref q_6, .ref q_33, .ref q_34, .ref q_35, .int 0])), (q_8, .inr (8, [.ref q_36, .ref q_37, .ref q_38])), (q_36, .inl (k_39, 32, .inl (fun _ => 0))), (q_37, .inl (k_40, 32, .inl (fun _ => 0))), (q_38, .inl (k_41, 8, .inl (fun _ => 0))), (q_9, .inr (7, [.ref q_42, .int 0, .int 0, .ref q_43, .int 0, .int 0, .int 0, .int 0, .int 0, .ref q_44, .int 0])), (q_42, .inl (k_45, 3, .inr (.inr (.inr (.inr (sj_f3 q_46 q_47 q_48)))))), (q_46, .inr (10, [.int 0, .int (-1), .int 0, .int 0, .int 0, .double 0, .int 0, .int 0])), (q_47, .inr (10, [.int 1, .int (-1), .int 0, .int 0, .int 0, .double 0, .int 0, .int 0])), (q_48, .inr (10, [.int 2, .int (-1), .int 0, .int 0, .int 0, .double 0, .int 0, .int 0])), (q_44, .inl (k_49, 256, .inl (fun _ => 0))), (q_10, .inl (k_50, 13, .inr (.inr (.inr (.inr f_51))))), (q_52, .inr (2, [.ref q_53, .ref q_54, .int 0, .ref q_55, .ref q_56, .int 0, .int 0, .ref q_57, .ref q_58, .ref q_59, .ref q_60])), (q_54, .inl (k_61, 62, .inl (fun _ => 0))), (q_12, .inl (k_62, 9, .inr (.inr (.inr (.inr f_63))))), (q_64, .inr (9, [.ref q_65, .int 0, .int 0, .int 0])), (q_13, .inl (k_66, 8, .inl (fun _ => 0))), (q_14, .inl (k_67, 8, .inl (fun _ => 0))), (q_15, .inr (9, [.ref q_68, .int 0, .int 0, .int 0])), (q_16, .inr (9, [.ref q_69, .int 0, .int 0, .int 0]))] ++ pl_73) H := hH
  refine lv_astore_n (lv' := [(1, .ref q_1), (0, .ref b)]) hx hb dL_law_7 rfl hl (by decide) rfl (fun ls hl => ?_)
  refine sj_new (ci := 12) (fs := [.int 0, .null, .int 0, .null, .int 0, .null, .int 0, .int 0, .int 0, .int 0, .int 0, .int 0, .null, .int 0, .null, .null, .null, .int 0, .int 0, .null, .null, .null, .null, .int 0, .null, .null, .int 0, .int 0, .null, .null, .null, .null, .null, .int 0, .null, .null, .null, .null, .null, .null, .int 0, .int 0, .null, .null, .null, .int 0, .null, .null, .null, .int 0, .null, .null, .int 0, .null, .int 0, .int 0, .null, .int 0, .null, .null, .null, .null, .null, .null, .null, .int 0, .int 0, .int 0, .null, .null, .null, .null, .null, .null, .int 0, .int 0, .int 0, .int 0, .int 0, .int 0, .int 0, .int 0, .null, .null, .null, .null]) (C := RX12) (F := TX12) (N := 86) hx hb hts in12 tyX12 tyX12_ok hown wd5 wd6 wd7 hK hH hS hA rfl sj_df12 rfl rfl (Nat.le_of_ble_eq_true rfl) (Nat.le_of_ble_eq_true rfl) dL_law_8 (fun q_74 H hH hS => ?_)
  have hH : sj_H D A ([(q_1, .inr (11, [.ref q_5, .ref q_6, .ref q_7, .ref q_8, .ref q_9, .ref q_10, .ref q_11, .int 0, .ref q_12, .ref q_13, .ref q_14, .int 0, .ref q_15, .ref q_16])), (q_5, .inr (3, [.ref q_17, .int 0])), (q_17, .inl (k_18, 480, .inl (fun _ => 0))), (q_6, .inr (5, [.ref q_19, .int 0, .ref q_20, .ref q_21, .int 0, .ref q_22, .int 0, .ref q_23, .int 0, .ref q_24, .int 0, .ref q_25, .int 0, .ref q_26, .int 0, .int 0, .int 0, .ref q_27, .ref q_28])), (q_19, .inr (3, [.ref q_29, .int 0])), (q_29, .inl (k_30, 480, .inl (fun _ => 0))), (q_20, .inl (k_31, 20, .inl (fun _ => 0))), (q_21, .inl (k_32, 20, .inl (fun _ => 0))), (q_7, .inr (1, [.ref q_6, .ref q_33, .ref q_34, .ref q_35, .int 0])), (q_8, .inr (8, [.ref q_36, .ref q_37, .ref q_38])), (q_36, .inl (k_39, 32, .inl (fun _ => 0))), (q_37, .inl (k_40, 32, .inl (fun _ => 0))), (q_38, .inl (k_41, 8, .inl (fun _ => 0))), (q_9, .inr (7, [.ref q_42, .int 0, .int 0, .ref q_43, .int 0, .int 0, .int 0, .int 0, .int 0, .ref q_44, .int 0])), (q_42, .inl (k_45, 3, .inr (.inr (.inr (.inr (sj_f3 q_46 q_47 q_48)))))), (q_46, .inr (10, [.int 0, .int (-1), .int 0, .int 0, .int 0, .double 0, .int 0, .int 0])), (q_47, .inr (10, [.int 1, .int (-1), .int 0, .int 0, .int 0, .double 0, .int 0, .int 0])), (q_48, .inr (10, [.int 2, .int (-1), .int 0, .int 0, .int 0, .double 0, .int 0, .int 0])), (q_44, .inl (k_49, 256, .inl (fun _ => 0))), (q_10, .inl (k_50, 13, .inr (.inr (.inr (.inr f_51))))), (q_52, .inr (2, [.ref q_53, .ref q_54, .int 0, .ref q_55, .ref q_56, .int 0, .int 0, .ref q_57, .ref q_58, .ref q_59, .ref q_60])), (q_54, .inl (k_61, 62, .inl (fun _ => 0))), (q_12, .inl (k_62, 9, .inr (.inr (.inr (.inr f_63))))), (q_64, .inr (9, [.ref q_65, .int 0, .int 0, .int 0])), (q_13, .inl (k_66, 8, .inl (fun _ => 0))), (q_14, .inl (k_67, 8, .inl (fun _ => 0))), (q_15, .inr (9, [.ref q_68, .int 0, .int 0, .int 0])), (q_16, .inr (9, [.ref q_69, .int 0, .int 0, .int 0])), (q_74, .inr (12, [.int 0, .null, .int 0, .null, .int 0, .null, .int 0, .int 0, .int 0, .int 0, .int 0, .int 0, .null, .int 0, .null, .null, .null, .int 0, .int 0, .null, .null, .null, .null, .int 0, .null, .null, .int 0, .int 0, .null, .null, .null, .null, .null, .int 0, .null, .null, .null, .null, .null, .null, .int 0, .int 0, .null, .null, .null, .int 0, .null, .null, .null, .int 0, .null, .null, .int 0, .null, .int 0, .int 0, .null, .int 0, .null, .null, .null, .null, .null, .null, .null, .int 0, .int 0, .int 0, .null, .null, .null, .null, .null, .null, .int 0, .int 0, .int 0, .int 0, .int 0, .int 0, .int 0, .int 0, .null, .null, .null, .null]))] ++ pl_73) H := hH
  refine lv_dup hx hb dL_law_11 rfl ?_
  refine sj_callv (wr := [(q_1, .inr (11, [.ref q_5, .ref q_6, .ref q_7, .ref q_8, .ref q_9, .ref q_10, .ref q_11, .int 0, .ref q_12, .ref q_13, .ref q_14, .int 0, .ref q_15, .ref q_16])), (q_5, .inr (3, [.ref q_17, .int 0])), (q_17, .inl (k_18, 480, .inl (fun _ => 0))), (q_6, .inr (5, [.ref q_19, .int 0, .ref q_20, .ref q_21, .int 0, .ref q_22, .int 0, .ref q_23, .int 0, .ref q_24, .int 0, .ref q_25, .int 0, .ref q_26, .int 0, .int 0, .int 0, .ref q_27, .ref q_28])), (q_19, .inr (3, [.ref q_29, .int 0])), (q_29, .inl (k_30, 480, .inl (fun _ => 0))), (q_20, .inl (k_31, 20, .inl (fun _ => 0))), (q_21, .inl (k_32, 20, .inl (fun _ => 0))), (q_7, .inr (1, [.ref q_6, .ref q_33, .ref q_34, .ref q_35, .int 0])), (q_8, .inr (8, [.ref q_36, .ref q_37, .ref q_38])), (q_36, .inl (k_39, 32, .inl (fun _ => 0))), (q_37, .inl (k_40, 32, .inl (fun _ => 0))), (q_38, .inl (k_41, 8, .inl (fun _ => 0))), (q_9, .inr (7, [.ref q_42, .int 0, .int 0, .ref q_43, .int 0, .int 0, .int 0, .int 0, .int 0, .ref q_44, .int 0])), (q_42, .inl (k_45, 3, .inr (.inr (.inr (.inr (sj_f3 q_46 q_47 q_48)))))), (q_46, .inr (10, [.int 0, .int (-1), .int 0, .int 0, .int 0, .double 0, .int 0, .int 0])), (q_47, .inr (10, [.int 1, .int (-1), .int 0, .int 0, .int 0, .double 0, .int 0, .int 0])), (q_48, .inr (10, [.int 2, .int (-1), .int 0, .int 0, .int 0, .double 0, .int 0, .int 0])), (q_44, .inl (k_49, 256, .inl (fun _ => 0))), (q_10, .inl (k_50, 13, .inr (.inr (.inr (.inr f_51))))), (q_52, .inr (2, [.ref q_53, .ref q_54, .int 0, .ref q_55, .ref q_56, .int 0, .int 0, .ref q_57, .ref q_58, .ref q_59, .ref q_60])), (q_54, .inl (k_61, 62, .inl (fun _ => 0))), (q_12, .inl (k_62, 9, .inr (.inr (.inr (.inr f_63))))), (q_64, .inr (9, [.ref q_65, .int 0, .int 0, .int 0])), (q_13, .inl (k_66, 8, .inl (fun _ => 0))), (q_14, .inl (k_67, 8, .inl (fun _ => 0))), (q_15, .inr (9, [.ref q_68, .int 0, .int 0, .int 0])), (q_16, .inr (9, [.ref q_69, .int 0, .int 0, .int 0]))]) (va_runI (As := []) (rest := [.ref q_74]) ⟨hx, hb, hml, hown, hts⟩ (c_X12_init l D q_74 H.size) (cwI 0 hts gL_law_X12_init rfl rfl rfl wd7 wd8 wd9 rfl (by decide +kernel) ⟨(Nat.le_of_ble_eq_true rfl), (Nat.le_of_ble_eq_true rfl)⟩) (sj_preS hH hK [28] rfl rfl [] rfl sj_bln sj_exn) rfl rfl hl.1 rfl (lv_room (Nat.le_of_ble_eq_true rfl)) dL_law_12 ⟨(Nat.le_of_ble_eq_true rfl), (Nat.le_of_ble_eq_true rfl)⟩) hH hK hS hA [28] [0, 1, 2, 3, 4, 5, 6, 7, 8, 9, 10, 11, 12, 13, 14, 15, 16, 17, 18, 19, 20, 21, 22, 23, 24, 25, 26, 27] rfl rfl rfl rfl (by decide) rfl rfl (fun u_76 H locs hw_77 hH hK hS => ?_)
  obtain ⟨f_78, k_79, k_80, k_81, k_82, k_83, k_84, k_85, k_86, k_87, k_88, pl_89⟩ := u_76
  have hH : sj_H D A (([(q_1, .inr (11, [.ref q_5, .ref q_6, .ref q_7, .ref q_8, .ref q_9, .ref q_10, .ref q_11, .int 0, .ref q_12, .ref q_13, .ref q_14, .int 0, .ref q_15, .ref q_16])), (q_5, .inr (3, [.ref q_17, .int 0])), (q_17, .inl (k_18, 480, .inl (fun _ => 0))), (q_6, .inr (5, [.ref q_19, .int 0, .ref q_20, .ref q_21, .int 0, .ref q_22, .int 0, .ref q_23, .int 0, .ref q_24, .int 0, .ref q_25, .int 0, .ref q_26, .int 0, .int 0, .int 0, .ref q_27, .ref q_28])), (q_19, .inr (3, [.ref q_29, .int 0])), (q_29, .inl (k_30, 480, .inl (fun _ => 0))), (q_20, .inl (k_31, 20, .inl (fun _ => 0))), (q_21, .inl (k_32, 20, .inl (fun _ => 0))), (q_7, .inr (1, [.ref q_6, .ref q_33, .ref q_34, .ref q_35, .int 0])), (q_8, .inr (8, [.ref q_36, .ref q_37, .ref q_38])), (q_36, .inl (k_39, 32, .inl (fun _ => 0))), (q_37, .inl (k_40, 32, .inl (fun _ => 0))), (q_38, .inl (k_41, 8, .inl (fun _ => 0))), (q_9, .inr (7, [.ref q_42, .int 0, .int 0, .ref q_43, .int 0, .int 0, .int 0, .int 0, .int 0, .ref q_44, .int 0])), (q_42, .inl (k_45, 3, .inr (.inr (.inr (.inr (sj_f3 q_46 q_47 q_48)))))), (q_46, .inr (10, [.int 0, .int (-1), .int 0, .int 0, .int 0, .double 0, .int 0, .int 0])), (q_47, .inr (10, [.int 1, .int (-1), .int 0, .int 0, .int 0, .double 0, .int 0, .int 0])), (q_48, .inr (10, [.int 2, .int (-1), .int 0, .int 0, .int 0, .double 0, .int 0, .int 0])), (q_44, .inl (k_49, 256, .inl (fun _ => 0))), (q_10, .inl (k_50, 13, .inr (.inr (.inr (.inr f_51))))), (q_52, .inr (2, [.ref q_53, .ref q_54, .int 0, .ref q_55, .ref q_56, .int 0, .int 0, .ref q_57, .ref q_58, .ref q_59, .ref q_60])), (q_54, .inl (k_61, 62, .inl (fun _ => 0))), (q_12, .inl (k_62, 9, .inr (.inr (.inr (.inr f_63))))), (q_64, .inr (9, [.ref q_65, .int 0, .int 0, .int 0])), (q_13, .inl (k_66, 8, .inl (fun _ => 0))), (q_14, .inl (k_67, 8, .inl (fun _ => 0))), (q_15, .inr (9, [.ref q_68, .int 0, .int 0, .int 0])), (q_16, .inr (9, [.ref q_69, .int 0, .int 0, .int 0]))] ++ ([(q_74, .inr (12, sj_M f_78 0)), ((f_78 1), .inl (k_79, 480, .inl (fun _ => 0))), ((f_78 5), .inl (k_80, 40, .inl (fun _ => 0))), ((f_78 62), .inl (k_81, 9, .inl (fun _ => 0))), ((f_78 68), .inl (k_82, 8, .inl (fun _ => 0))), ((f_78 69), .inl (k_83, 8, .inl (fun _ => 0))), ((f_78 70), .inl (k_84, 32, .inl (fun _ => 0))), ((f_78 71), .inl (k_85, 32, .inl (fun _ => 0))), ((f_78 72), .inl (k_86, 8, .inl (fun _ => 0))), ((f_78 82), .inl (k_87, 256, .inl (fun _ => 0))), ((f_78 83), .inl (k_88, 3, .inl (upd (upd (upd (fun _ => 0) 0 (-1)) 1 (-1)) 2 (-1))))] ++ pl_89)) ++ pl_73) H := hH
  have hH : sj_H D A ([(q_1, .inr (11, [.ref q_5, .ref q_6, .ref q_7, .ref q_8, .ref q_9, .ref q_10, .ref q_11, .int 0, .ref q_12, .ref q_13, .ref q_14, .int 0, .ref q_15, .ref q_16])), (q_5, .inr (3, [.ref q_17, .int 0])), (q_17, .inl (k_18, 480, .inl (fun _ => 0))), (q_6, .inr (5, [.ref q_19, .int 0, .ref q_20, .ref q_21, .int 0, .ref q_22, .int 0, .ref q_23, .int 0, .ref q_24, .int 0, .ref q_25, .int 0, .ref q_26, .int 0, .int 0, .int 0, .ref q_27, .ref q_28])), (q_19, .inr (3, [.ref q_29, .int 0])), (q_29, .inl (k_30, 480, .inl (fun _ => 0))), (q_20, .inl (k_31, 20, .inl (fun _ => 0))), (q_21, .inl (k_32, 20, .inl (fun _ => 0))), (q_7, .inr (1, [.ref q_6, .ref q_33, .ref q_34, .ref q_35, .int 0])), (q_8, .inr (8, [.ref q_36, .ref q_37, .ref q_38])), (q_36, .inl (k_39, 32, .inl (fun _ => 0))), (q_37, .inl (k_40, 32, .inl (fun _ => 0))), (q_38, .inl (k_41, 8, .inl (fun _ => 0))), (q_9, .inr (7, [.ref q_42, .int 0, .int 0, .ref q_43, .int 0, .int 0, .int 0, .int 0, .int 0, .ref q_44, .int 0])), (q_42, .inl (k_45, 3, .inr (.inr (.inr (.inr (sj_f3 q_46 q_47 q_48)))))), (q_46, .inr (10, [.int 0, .int (-1), .int 0, .int 0, .int 0, .double 0, .int 0, .int 0])), (q_47, .inr (10, [.int 1, .int (-1), .int 0, .int 0, .int 0, .double 0, .int 0, .int 0])), (q_48, .inr (10, [.int 2, .int (-1), .int 0, .int 0, .int 0, .double 0, .int 0, .int 0])), (q_44, .inl (k_49, 256, .inl (fun _ => 0))), (q_10, .inl (k_50, 13, .inr (.inr (.inr (.inr f_51))))), (q_52, .inr (2, [.ref q_53, .ref q_54, .int 0, .ref q_55, .ref q_56, .int 0, .int 0, .ref q_57, .ref q_58, .ref q_59, .ref q_60])), (q_54, .inl (k_61, 62, .inl (fun _ => 0))), (q_12, .inl (k_62, 9, .inr (.inr (.inr (.inr f_63))))), (q_64, .inr (9, [.ref q_65, .int 0, .int 0, .int 0])), (q_13, .inl (k_66, 8, .inl (fun _ => 0))), (q_14, .inl (k_67, 8, .inl (fun _ => 0))), (q_15, .inr (9, [.ref q_68, .int 0, .int 0, .int 0])), (q_16, .inr (9, [.ref q_69, .int 0, .int 0, .int 0])), (q_74, .inr (12, sj_M f_78 0)), ((f_78 1), .inl (k_79, 480, .inl (fun _ => 0))), ((f_78 5), .inl (k_80, 40, .inl (fun _ => 0))), ((f_78 62), .inl (k_81, 9, .inl (fun _ => 0))), ((f_78 68), .inl (k_82, 8, .inl (fun _ => 0))), ((f_78 69), .inl (k_83, 8, .inl (fun _ => 0))), ((f_78 70), .inl (k_84, 32, .inl (fun _ => 0))), ((f_78 71), .inl (k_85, 32, .inl (fun _ => 0))), ((f_78 72), .inl (k_86, 8, .inl (fun _ => 0))), ((f_78 82), .inl (k_87, 256, .inl (fun _ => 0))), ((f_78 83), .inl (k_88, 3, .inl (upd (upd (upd (fun _ => 0) 0 (-1)) 1 (-1)) 2 (-1))))] ++ (pl_89 ++ pl_73)) H := sj_as hH
  generalize pl_89 ++ pl_73 = pl_90 at hH
  have hK : va_K D vwCl [(k_18, .char), (k_30, .char), (k_31, .int), (k_32, .int), (k_39, .int), (k_40, .int), (k_41, .int), (k_45, .object RX10), (k_49, .int), (k_50, .object RX2), (k_61, .int), (k_62, .object RX9), (k_66, .boolean), (k_67, .int), (k_79, .char), (k_80, .int), (k_81, .int), (k_82, .boolean), (k_83, .int), (k_84, .int), (k_85, .int), (k_86, .int), (k_87, .int), (k_88, .int)] s := hK
  refine lv_astore_n (lv' := [(2, .ref q_74), (1, .ref q_1), (0, .ref b)]) hx hb dL_law_15 rfl hl (by decide) rfl (fun ls hl => ?_)
  refine lv_iconst (v := 1) hx hb dL_law_16 (by decide) ?_
  refine sj_newa (atype := .long) (ty := .long) (N' := 1) (a0 := (1, .inr (.inl (fun _ => 0)))) hx hb wd10 rfl hK hH hS hA (fun _ => rfl) (by decide) (by decide) (by decide) rfl rfl (Nat.le_of_ble_eq_true rfl) (Nat.le_of_ble_eq_true rfl) dL_law_17 (fun q_91 k_92 H hK hH hS => ?_)
  have hK : va_K D vwCl [(k_18, .char), (k_30, .char), (k_31, .int), (k_32, .int), (k_39, .int), (k_40, .int), (k_41, .int), (k_45, .object RX10), (k_49, .int), (k_50, .object RX2), (k_61, .int), (k_62, .object RX9), (k_66, .boolean), (k_67, .int), (k_79, .char), (k_80, .int), (k_81, .int), (k_82, .boolean), (k_83, .int), (k_84, .int), (k_85, .int), (k_86, .int), (k_87, .int), (k_88, .int), (k_92, .long)] s := hK
  have hH : sj_H D A ([(q_1, .inr (11, [.ref q_5, .ref q_6, .ref q_7, .ref q_8, .ref q_9, .ref q_10, .ref q_11, .int 0, .ref q_12, .ref q_13, .ref q_14, .int 0, .ref q_15, .ref q_16])), (q_5, .inr (3, [.ref q_17, .int 0])), (q_17, .inl (k_18, 480, .inl (fun _ => 0))), (q_6, .inr (5, [.ref q_19, .int 0, .ref q_20, .ref q_21, .int 0, .ref q_22, .int 0, .ref q_23, .int 0, .ref q_24, .int 0, .ref q_25, .int 0, .ref q_26, .int 0, .int 0, .int 0, .ref q_27, .ref q_28])), (q_19, .inr (3, [.ref q_29, .int 0])), (q_29, .inl (k_30, 480, .inl (fun _ => 0))), (q_20, .inl (k_31, 20, .inl (fun _ => 0))), (q_21, .inl (k_32, 20, .inl (fun _ => 0))), (q_7, .inr (1, [.ref q_6, .ref q_33, .ref q_34, .ref q_35, .int 0])), (q_8, .inr (8, [.ref q_36, .ref q_37, .ref q_38])), (q_36, .inl (k_39, 32, .inl (fun _ => 0))), (q_37, .inl (k_40, 32, .inl (fun _ => 0))), (q_38, .inl (k_41, 8, .inl (fun _ => 0))), (q_9, .inr (7, [.ref q_42, .int 0, .int 0, .ref q_43, .int 0, .int 0, .int 0, .int 0, .int 0, .ref q_44, .int 0])), (q_42, .inl (k_45, 3, .inr (.inr (.inr (.inr (sj_f3 q_46 q_47 q_48)))))), (q_46, .inr (10, [.int 0, .int (-1), .int 0, .int 0, .int 0, .double 0, .int 0, .int 0])), (q_47, .inr (10, [.int 1, .int (-1), .int 0, .int 0, .int 0, .double 0, .int 0, .int 0])), (q_48, .inr (10, [.int 2, .int (-1), .int 0, .int 0, .int 0, .double 0, .int 0, .int 0])), (q_44, .inl (k_49, 256, .inl (fun _ => 0))), (q_10, .inl (k_50, 13, .inr (.inr (.inr (.inr f_51))))), (q_52, .inr (2, [.ref q_53, .ref q_54, .int 0, .ref q_55, .ref q_56, .int 0, .int 0, .ref q_57, .ref q_58, .ref q_59, .ref q_60])), (q_54, .inl (k_61, 62, .inl (fun _ => 0))), (q_12, .inl (k_62, 9, .inr (.inr (.inr (.inr f_63))))), (q_64, .inr (9, [.ref q_65, .int 0, .int 0, .int 0])), (q_13, .inl (k_66, 8, .inl (fun _ => 0))), (q_14, .inl (k_67, 8, .inl (fun _ => 0))), (q_15, .inr (9, [.ref q_68, .int 0, .int 0, .int 0])), (q_16, .inr (9, [.ref q_69, .int 0, .int 0, .int 0])), (q_74, .inr (12, sj_M f_78 0)), ((f_78 1), .inl (k_79, 480, .inl (fun _ => 0))), ((f_78 5), .inl (k_80, 40, .inl (fun _ => 0))), ((f_78 62), .inl (k_81, 9, .inl (fun _ => 0))), ((f_78 68), .inl (k_82, 8, .inl (fun _ => 0))), ((f_78 69), .inl (k_83, 8, .inl (fun _ => 0))), ((f_78 70), .inl (k_84, 32, .inl (fun _ => 0))), ((f_78 71), .inl (k_85, 32, .inl (fun _ => 0))), ((f_78 72), .inl (k_86, 8, .inl (fun _ => 0))), ((f_78 82), .inl (k_87, 256, .inl (fun _ => 0))), ((f_78 83), .inl (k_88, 3, .inl (upd (upd (upd (fun _ => 0) 0 (-1)) 1 (-1)) 2 (-1)))), (q_91, .inl (k_92, 1, .inr (.inl (fun _ => 0))))] ++ pl_90) H := hH
  refine lv_astore_n (lv' := [(3, .ref q_91), (2, .ref q_74), (1, .ref q_1), (0, .ref b)]) hx hb dL_law_19 rfl hl (by decide) rfl (fun ls hl => ?_)
  refine lv_iconst (v := 0) hx hb dL_law_20 (by decide) ?_
  refine lv_istore (lv' := [(4, .int 0), (3, .ref q_91), (2, .ref q_74), (1, .ref q_1), (0, .ref b)]) hx hb dL_law_21 hl (by decide) rfl (fun ls hl => ?_)
  rcases (show L = 0 ∨ L = 1 ∨ L = 2 ∨ L = 3 ∨ L = 4 ∨ L = 5 ∨ L = 6 by omega) with rfl | rfl | rfl | rfl | rfl | rfl | rfl
  · skip
    refine lv_iload hx hb dL_law_23 (lv_at hl 0 rfl) ?_
    refine lv_aload_n hx hb dL_law_25 rfl (lv_at hl 4 rfl) ?_
    refine va_slen hx hb hX hbl hbA hS dL_law_26 ?_
    refine sj_i (y := 0) (rfl) ?_
    refine lv_bipush (v := 6) hx hb dL_law_27 (by decide) ?_
    refine lv_isub hx hb dL_law_29 ?_
    refine sj_i (y := (-6)) (by decide) ?_
    refine lv_icmp_gt (tgt := 1068) hx hb dL_law_30 (by decide) (fun _ => ?_) (fun h => absurd (by decide) h)
    refine lv_iconst (v := 1) hx hb dL_law_1068 (by decide) ?_
    refine va_forget (fun q hq => by have h9 := hS.2.2 q hq; rw [hAd] at h9; exact h9) ?_
    refine W.widen (k := 600002) (n := 7302232) (Nat.le_of_ble_eq_true rfl) (Nat.le_of_ble_eq_true rfl) ?_
    exact lw_ret hx hb hr hlocks dL_law_1069
  · skip
    refine lv_iload hx hb dL_law_23 (lv_at hl 0 rfl) ?_
    refine lv_aload_n hx hb dL_law_25 rfl (lv_at hl 4 rfl) ?_
    refine va_slen hx hb hX hbl hbA hS dL_law_26 ?_
    refine sj_i (y := 1) (rfl) ?_
    refine lv_bipush (v := 6) hx hb dL_law_27 (by decide) ?_
    refine lv_isub hx hb dL_law_29 ?_
    refine sj_i (y := (-5)) (by decide) ?_
    refine lv_icmp_gt (tgt := 1068) hx hb dL_law_30 (by decide) (fun _ => ?_) (fun h => absurd (by decide) h)
    refine lv_iconst (v := 1) hx hb dL_law_1068 (by decide) ?_
    refine va_forget (fun q hq => by have h9 := hS.2.2 q hq; rw [hAd] at h9; exact h9) ?_
    refine W.widen (k := 600002) (n := 7302232) (Nat.le_of_ble_eq_true rfl) (Nat.le_of_ble_eq_true rfl) ?_
    exact lw_ret hx hb hr hlocks dL_law_1069
  · skip
    refine lv_iload hx hb dL_law_23 (lv_at hl 0 rfl) ?_
    refine lv_aload_n hx hb dL_law_25 rfl (lv_at hl 4 rfl) ?_
    refine va_slen hx hb hX hbl hbA hS dL_law_26 ?_
    refine sj_i (y := 2) (rfl) ?_
    refine lv_bipush (v := 6) hx hb dL_law_27 (by decide) ?_
    refine lv_isub hx hb dL_law_29 ?_
    refine sj_i (y := (-4)) (by decide) ?_
    refine lv_icmp_gt (tgt := 1068) hx hb dL_law_30 (by decide) (fun _ => ?_) (fun h => absurd (by decide) h)
    refine lv_iconst (v := 1) hx hb dL_law_1068 (by decide) ?_
    refine va_forget (fun q hq => by have h9 := hS.2.2 q hq; rw [hAd] at h9; exact h9) ?_
    refine W.widen (k := 600002) (n := 7302232) (Nat.le_of_ble_eq_true rfl) (Nat.le_of_ble_eq_true rfl) ?_
    exact lw_ret hx hb hr hlocks dL_law_1069
  · skip
    refine lv_iload hx hb dL_law_23 (lv_at hl 0 rfl) ?_
    refine lv_aload_n hx hb dL_law_25 rfl (lv_at hl 4 rfl) ?_
    refine va_slen hx hb hX hbl hbA hS dL_law_26 ?_
    refine sj_i (y := 3) (rfl) ?_
    refine lv_bipush (v := 6) hx hb dL_law_27 (by decide) ?_
    refine lv_isub hx hb dL_law_29 ?_
    refine sj_i (y := (-3)) (by decide) ?_
    refine lv_icmp_gt (tgt := 1068) hx hb dL_law_30 (by decide) (fun _ => ?_) (fun h => absurd (by decide) h)
    refine lv_iconst (v := 1) hx hb dL_law_1068 (by decide) ?_
    refine va_forget (fun q hq => by have h9 := hS.2.2 q hq; rw [hAd] at h9; exact h9) ?_
    refine W.widen (k := 600002) (n := 7302232) (Nat.le_of_ble_eq_true rfl) (Nat.le_of_ble_eq_true rfl) ?_
    exact lw_ret hx hb hr hlocks dL_law_1069
  · skip
    refine lv_iload hx hb dL_law_23 (lv_at hl 0 rfl) ?_
    refine lv_aload_n hx hb dL_law_25 rfl (lv_at hl 4 rfl) ?_
    refine va_slen hx hb hX hbl hbA hS dL_law_26 ?_
    refine sj_i (y := 4) (rfl) ?_
    refine lv_bipush (v := 6) hx hb dL_law_27 (by decide) ?_
    refine lv_isub hx hb dL_law_29 ?_
    refine sj_i (y := (-2)) (by decide) ?_
    refine lv_icmp_gt (tgt := 1068) hx hb dL_law_30 (by decide) (fun _ => ?_) (fun h => absurd (by decide) h)
    refine lv_iconst (v := 1) hx hb dL_law_1068 (by decide) ?_
    refine va_forget (fun q hq => by have h9 := hS.2.2 q hq; rw [hAd] at h9; exact h9) ?_
    refine W.widen (k := 600002) (n := 7302232) (Nat.le_of_ble_eq_true rfl) (Nat.le_of_ble_eq_true rfl) ?_
    exact lw_ret hx hb hr hlocks dL_law_1069
  · skip
    refine lv_iload hx hb dL_law_23 (lv_at hl 0 rfl) ?_
    refine lv_aload_n hx hb dL_law_25 rfl (lv_at hl 4 rfl) ?_
    refine va_slen hx hb hX hbl hbA hS dL_law_26 ?_
    refine sj_i (y := 5) (rfl) ?_
    refine lv_bipush (v := 6) hx hb dL_law_27 (by decide) ?_
    refine lv_isub hx hb dL_law_29 ?_
    refine sj_i (y := (-1)) (by decide) ?_
    refine lv_icmp_gt (tgt := 1068) hx hb dL_law_30 (by decide) (fun _ => ?_) (fun h => absurd (by decide) h)
    refine lv_iconst (v := 1) hx hb dL_law_1068 (by decide) ?_
    refine va_forget (fun q hq => by have h9 := hS.2.2 q hq; rw [hAd] at h9; exact h9) ?_
    refine W.widen (k := 600002) (n := 7302232) (Nat.le_of_ble_eq_true rfl) (Nat.le_of_ble_eq_true rfl) ?_
    exact lw_ret hx hb hr hlocks dL_law_1069
  · skip
    refine lv_iload hx hb dL_law_23 (lv_at hl 0 rfl) ?_
    refine lv_aload_n hx hb dL_law_25 rfl (lv_at hl 4 rfl) ?_
    refine va_slen hx hb hX hbl hbA hS dL_law_26 ?_
    refine sj_i (y := 6) (rfl) ?_
    refine lv_bipush (v := 6) hx hb dL_law_27 (by decide) ?_
    refine lv_isub hx hb dL_law_29 ?_
    refine sj_i (y := 0) (by decide) ?_
    refine lv_icmp_gt (tgt := 1068) hx hb dL_law_30 (by decide) (fun h => absurd h (by decide)) (fun _ => ?_)
    refine lv_aload_n hx hb dL_law_33 rfl (lv_at hl 4 rfl) ?_
    refine lv_iload hx hb dL_law_34 (lv_at hl 0 rfl) ?_
    refine va_sld hx hb hX hbl hbA hS (sj_vin (by decide) (by decide)) dL_law_36 ?_
    refine sj_i (y := (xs 0)) rfl ?_
    refine lv_bipush (v := 15) hx hb dL_law_37 (by decide) ?_
    refine lv_iand hx hb dL_law_39 ?_
    refine sj_i (y := (xs 0 &&& 15)) (rfl) ?_
    obtain ⟨j, hj, ej⟩ := pk_andE (xs 0) (m := 15) 4 (by decide +kernel)
    refine sj_i ej ?_
    rcases (show j = 0 ∨ j = 1 ∨ j = 2 ∨ j = 3 ∨ j = 4 ∨ j = 5 ∨ j = 6 ∨ j = 7 ∨ j = 8 ∨ j = 9 ∨ j = 10 ∨ j = 11 ∨ j = 12 ∨ j = 13 ∨ j = 14 ∨ j = 15 by omega) with rfl | rfl | rfl | rfl | rfl | rfl | rfl | rfl | rfl | rfl | rfl | rfl | rfl | rfl | rfl | rfl
    · skip
      refine lv_tableIn (tgt := 120) hx hb dL_law_40 (by decide) (by decide) rfl (by decide) ?_
      exact lop_0 hl0 hx hb hr hlocks hml hown hts hX hbl hbA hA hAd hE hxI hxA hxS hf_71 hf_72 hK hH hS hl
    · skip
      refine lv_tableIn (tgt := 189) hx hb dL_law_40 (by decide) (by decide) rfl (by decide) ?_
      exact lop_1 hl0 hx hb hr hlocks hml hown hts hX hbl hbA hA hAd hE hxI hxA hxS hf_71 hf_72 hK hH hS hl
    · skip
      refine lv_tableIn (tgt := 233) hx hb dL_law_40 (by decide) (by decide) rfl (by decide) ?_
      exact lop_2 hl0 hx hb hr hlocks hml hown hts hX hbl hbA hA hAd hE hxI hxA hxS hf_71 hf_72 hK hH hS hl
    · skip
      refine lv_tableIn (tgt := 301) hx hb dL_law_40 (by decide) (by decide) rfl (by decide) ?_
      exact lop_3 hl0 hx hb hr hlocks hml hown hts hX hbl hbA hA hAd hE hxI hxA hxS hf_71 hf_72 hK hH hS hl
    · skip
      refine lv_tableIn (tgt := 357) hx hb dL_law_40 (by decide) (by decide) rfl (by decide) ?_
      exact lop_4 hl0 hx hb hr hlocks hml hown hts hX hbl hbA hA hAd hE hxI hxA hxS hf_71 hf_72 hK hH hS hl
    · skip
      refine lv_tableIn (tgt := 441) hx hb dL_law_40 (by decide) (by decide) rfl (by decide) ?_
      exact lop_5 hl0 hx hb hr hlocks hml hown hts hX hbl hbA hA hAd hE hxI hxA hxS hf_71 hf_72 hK hH hS hl
    · skip
      refine lv_tableIn (tgt := 485) hx hb dL_law_40 (by decide) (by decide) rfl (by decide) ?_
      exact lop_6 hl0 hx hb hr hlocks hml hown hts hX hbl hbA hA hAd hE hxI hxA hxS hf_71 hf_72 hK hH hS hl
    · skip
      refine lv_tableIn (tgt := 534) hx hb dL_law_40 (by decide) (by decide) rfl (by decide) ?_
      exact lop_7 hl0 hx hb hr hlocks hml hown hts hX hbl hbA hA hAd hE hxI hxA hxS hf_71 hf_72 hK hH hS hl
    · skip
      refine lv_tableIn (tgt := 602) hx hb dL_law_40 (by decide) (by decide) rfl (by decide) ?_
      exact lop_8 hl0 hx hb hr hlocks hml hown hts hX hbl hbA hA hAd hE hxI hxA hxS hf_71 hf_72 hK hH hS hl
    · skip
      refine lv_tableIn (tgt := 682) hx hb dL_law_40 (by decide) (by decide) rfl (by decide) ?_
      exact lop_9 hl0 hx hb hr hlocks hml hown hts hX hbl hbA hA hAd hE hxI hxA hxS hf_71 hf_72 hK hH hS hl
    · skip
      refine lv_tableIn (tgt := 762) hx hb dL_law_40 (by decide) (by decide) rfl (by decide) ?_
      exact lop_10 hl0 hx hb hr hlocks hml hown hts hX hbl hbA hA hAd hE hxI hxA hxS hf_71 hf_72 hK hH hS hl
    · skip
      refine lv_tableIn (tgt := 866) hx hb dL_law_40 (by decide) (by decide) rfl (by decide) ?_
      exact lop_11 hl0 hx hb hr hlocks hml hown hts hX hbl hbA hA hAd hE hxI hxA hxS hf_71 hf_72 hK hH hS hl
    · skip
      refine lv_tableIn (tgt := 922) hx hb dL_law_40 (by decide) (by decide) rfl (by decide) ?_
      exact lop_12 hl0 hx hb hr hlocks hml hown hts hX hbl hbA hA hAd hE hxI hxA hxS hf_71 hf_72 hK hH hS hl
    · skip
      refine lv_tableIn (tgt := 947) hx hb dL_law_40 (by decide) (by decide) rfl (by decide) ?_
      exact lop_13 hl0 hx hb hr hlocks hml hown hts hX hbl hbA hA hAd hE hxI hxA hxS hf_71 hf_72 hK hH hS hl
    · skip
      refine lv_tableIn (tgt := 984) hx hb dL_law_40 (by decide) (by decide) rfl (by decide) ?_
      exact lop_14 hl0 hx hb hr hlocks hml hown hts hX hbl hbA hA hAd hE hxI hxA hxS hf_71 hf_72 hK hH hS hl
    · skip
      refine lv_tableIn (tgt := 1037) hx hb dL_law_40 (by decide) (by decide) rfl (by decide) ?_
      exact lop_15 hl0 hx hb hr hlocks hml hown hts hX hbl hbA hA hAd hE hxI hxA hxS hf_71 hf_72 hK hH hS hl
