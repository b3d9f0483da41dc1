theorem dX3_add_0 : decode cX3_add 0 = .ok (.aload_n 0, 1) := by decide +kernel
theorem dX3_add_1 : decode cX3_add 1 = .ok (.getfield 13, 3) := by decide +kernel
theorem dX3_add_4 : decode cX3_add 4 = .ok (.aload_n 0, 1) := by decide +kernel
theorem dX3_add_5 : decode cX3_add 5 = .ok (.getfield 7, 3) := by decide +kernel
theorem dX3_add_8 : decode cX3_add 8 = .ok (.arraylength, 1) := by decide +kernel
theorem dX3_add_9 : decode cX3_add 9 = .ok (.if_icmp .ge 23, 3) := by decide +kernel
theorem dX3_add_12 : decode cX3_add 12 = .ok (.aload_n 0, 1) := by decide +kernel
theorem dX3_add_13 : decode cX3_add 13 = .ok (.getfield 7, 3) := by decide +kernel
theorem dX3_add_16 : decode cX3_add 16 = .ok (.aload_n 0, 1) := by decide +kernel
theorem dX3_add_17 : decode cX3_add 17 = .ok (.getfield 13, 3) := by decide +kernel
theorem dX3_add_20 : decode cX3_add 20 = .ok (.iload_n 1, 1) := by decide +kernel
theorem dX3_add_21 : decode cX3_add 21 = .ok (.castore, 1) := by decide +kernel
theorem dX3_add_22 : decode cX3_add 22 = .ok (.aload_n 0, 1) := by decide +kernel
theorem dX3_add_23 : decode cX3_add 23 = .ok (.dup, 1) := by decide +kernel
theorem dX3_add_24 : decode cX3_add 24 = .ok (.getfield 13, 3) := by decide +kernel
theorem dX3_add_27 : decode cX3_add 27 = .ok (.iconst 1, 1) := by decide +kernel
theorem dX3_add_28 : decode cX3_add 28 = .ok (.iadd, 1) := by decide +kernel
theorem dX3_add_29 : decode cX3_add 29 = .ok (.putfield 13, 3) := by decide +kernel
theorem dX3_add_32 : decode cX3_add 32 = .ok (.return_, 1) := by decide +kernel
theorem dX11_put_0 : decode cX11_put 0 = .ok (.iload_n 3, 1) := by decide +kernel
theorem dX11_put_1 : decode cX11_put 1 = .ok (.iconst 1, 1) := by decide +kernel
theorem dX11_put_2 : decode cX11_put 2 = .ok (.if_icmp .lt 24, 3) := by decide +kernel
theorem dX11_put_26 : decode cX11_put 26 = .ok (.iconst 0, 1) := by decide +kernel
theorem dX11_put_27 : decode cX11_put 27 = .ok (.ireturn, 1) := by decide +kernel
theorem dX11_put_5 : decode cX11_put 5 = .ok (.iload_n 3, 1) := by decide +kernel
theorem dX11_put_6 : decode cX11_put 6 = .ok (.bipush 8, 2) := by decide +kernel
theorem dX11_put_8 : decode cX11_put 8 = .ok (.if_icmp .gt 18, 3) := by decide +kernel
theorem dX11_put_11 : decode cX11_put 11 = .ok (.aload_n 0, 1) := by decide +kernel
theorem dX11_put_12 : decode cX11_put 12 = .ok (.getfield 14, 3) := by decide +kernel
theorem dX11_put_15 : decode cX11_put 15 = .ok (.getfield 80, 3) := by decide +kernel
theorem dX11_put_18 : decode cX11_put 18 = .ok (.iload_n 3, 1) := by decide +kernel
theorem dX11_put_19 : decode cX11_put 19 = .ok (.iadd, 1) := by decide +kernel
theorem dX11_put_20 : decode cX11_put 20 = .ok (.sipush 480, 3) := by decide +kernel
theorem dX11_put_23 : decode cX11_put 23 = .ok (.if_icmp .le 5, 3) := by decide +kernel
theorem dX11_put_28 : decode cX11_put 28 = .ok (.iconst 0, 1) := by decide +kernel
theorem dX11_put_29 : decode cX11_put 29 = .ok (.istore 4, 2) := by decide +kernel
theorem dX11_put_80 : decode cX11_put 80 = .ok (.iload_n 3, 1) := by decide +kernel
theorem dX11_put_81 : decode cX11_put 81 = .ok (.iconst 1, 1) := by decide +kernel
theorem dX11_put_82 : decode cX11_put 82 = .ok (.isub, 1) := by decide +kernel
theorem dX11_put_83 : decode cX11_put 83 = .ok (.istore 4, 2) := by decide +kernel
theorem dX11_put_85 : decode cX11_put 85 = .ok (.iload 4, 2) := by decide +kernel
theorem dX11_put_87 : decode cX11_put 87 = .ok (.ifCond .lt 29, 3) := by decide +kernel
theorem dX11_put_116 : decode cX11_put 116 = .ok (.iconst 1, 1) := by decide +kernel
theorem dX11_put_117 : decode cX11_put 117 = .ok (.ireturn, 1) := by decide +kernel
theorem dX11_put_90 : decode cX11_put 90 = .ok (.aload_n 0, 1) := by decide +kernel
theorem dX11_put_91 : decode cX11_put 91 = .ok (.getfield 14, 3) := by decide +kernel
theorem dX11_put_94 : decode cX11_put 94 = .ok (.lload_n 1, 1) := by decide +kernel
theorem dX11_put_95 : decode cX11_put 95 = .ok (.bipush 8, 2) := by decide +kernel
theorem dX11_put_97 : decode cX11_put 97 = .ok (.iload 4, 2) := by decide +kernel
theorem dX11_put_99 : decode cX11_put 99 = .ok (.imul, 1) := by decide +kernel
theorem dX11_put_100 : decode cX11_put 100 = .ok (.lushr, 1) := by decide +kernel
theorem dX11_put_101 : decode cX11_put 101 = .ok (.l2i, 1) := by decide +kernel
theorem dX11_put_102 : decode cX11_put 102 = .ok (.sipush 255, 3) := by decide +kernel
theorem dX11_put_105 : decode cX11_put 105 = .ok (.iand, 1) := by decide +kernel
theorem dX11_put_106 : decode cX11_put 106 = .ok (.i2c, 1) := by decide +kernel
theorem dX11_put_107 : decode cX11_put 107 = .ok (.invokevirtual 84, 3) := by decide +kernel
theorem dX11_put_110 : decode cX11_put 110 = .ok (.iinc 4 (-1), 3) := by decide +kernel
theorem dX11_put_113 : decode cX11_put 113 = .ok (.goto (-28), 3) := by decide +kernel
theorem dX11_put_31 : decode cX11_put 31 = .ok (.iload 4, 2) := by decide +kernel
theorem dX11_put_33 : decode cX11_put 33 = .ok (.iload_n 3, 1) := by decide +kernel
theorem dX11_put_34 : decode cX11_put 34 = .ok (.if_icmp .ge 46, 3) := by decide +kernel
theorem dX11_put_37 : decode cX11_put 37 = .ok (.lload_n 1, 1) := by decide +kernel
theorem dX11_put_38 : decode cX11_put 38 = .ok (.bipush 8, 2) := by decide +kernel
theorem dX11_put_40 : decode cX11_put 40 = .ok (.iload 4, 2) := by decide +kernel
theorem dX11_put_42 : decode cX11_put 42 = .ok (.imul, 1) := by decide +kernel
theorem dX11_put_43 : decode cX11_put 43 = .ok (.lushr, 1) := by decide +kernel
theorem dX11_put_44 : decode cX11_put 44 = .ok (.l2i, 1) := by decide +kernel
theorem dX11_put_45 : decode cX11_put 45 = .ok (.sipush 255, 3) := by decide +kernel
theorem dX11_put_48 : decode cX11_put 48 = .ok (.iand, 1) := by decide +kernel
theorem dX11_put_49 : decode cX11_put 49 = .ok (.istore 5, 2) := by decide +kernel
theorem dX11_put_74 : decode cX11_put 74 = .ok (.iinc 4 1, 3) := by decide +kernel
theorem dX11_put_77 : decode cX11_put 77 = .ok (.goto (-46), 3) := by decide +kernel
theorem dX11_put_51 : decode cX11_put 51 = .ok (.iload 5, 2) := by decide +kernel
theorem dX11_put_53 : decode cX11_put 53 = .ok (.bipush 10, 2) := by decide +kernel
theorem dX11_put_55 : decode cX11_put 55 = .ok (.if_icmp .eq 19, 3) := by decide +kernel
theorem dX11_put_58 : decode cX11_put 58 = .ok (.iload 5, 2) := by decide +kernel
theorem dX11_put_60 : decode cX11_put 60 = .ok (.bipush 32, 2) := by decide +kernel
theorem dX11_put_62 : decode cX11_put 62 = .ok (.if_icmp .lt 10, 3) := by decide +kernel
theorem dX11_put_72 : decode cX11_put 72 = .ok (.iconst 0, 1) := by decide +kernel
theorem dX11_put_73 : decode cX11_put 73 = .ok (.ireturn, 1) := by decide +kernel
theorem dX11_put_65 : decode cX11_put 65 = .ok (.iload 5, 2) := by decide +kernel
theorem dX11_put_67 : decode cX11_put 67 = .ok (.bipush 126, 2) := by decide +kernel
theorem dX11_put_69 : decode cX11_put 69 = .ok (.if_icmp .le 5, 3) := by decide +kernel
theorem dX12_put_0 : decode cX12_put 0 = .ok (.aload_n 0, 1) := by decide +kernel
theorem dX12_put_1 : decode cX12_put 1 = .ok (.iconst 0, 1) := by decide +kernel
theorem dX12_put_2 : decode cX12_put 2 = .ok (.putfield 1, 3) := by decide +kernel
theorem dX12_put_5 : decode cX12_put 5 = .ok (.iload_n 3, 1) := by decide +kernel
theorem dX12_put_6 : decode cX12_put 6 = .ok (.iconst 1, 1) := by decide +kernel
theorem dX12_put_7 : decode cX12_put 7 = .ok (.if_icmp .lt 21, 3) := by decide +kernel
theorem dX12_put_28 : decode cX12_put 28 = .ok (.iconst 0, 1) := by decide +kernel
theorem dX12_put_29 : decode cX12_put 29 = .ok (.ireturn, 1) := by decide +kernel
theorem dX12_put_10 : decode cX12_put 10 = .ok (.iload_n 3, 1) := by decide +kernel
theorem dX12_put_11 : decode cX12_put 11 = .ok (.bipush 8, 2) := by decide +kernel
theorem dX12_put_13 : decode cX12_put 13 = .ok (.if_icmp .gt 15, 3) := by decide +kernel
theorem dX12_put_16 : decode cX12_put 16 = .ok (.aload_n 0, 1) := by decide +kernel
theorem dX12_put_17 : decode cX12_put 17 = .ok (.getfield 7, 3) := by decide +kernel
theorem dX12_put_20 : decode cX12_put 20 = .ok (.iload_n 3, 1) := by decide +kernel
theorem dX12_put_21 : decode cX12_put 21 = .ok (.iadd, 1) := by decide +kernel
theorem dX12_put_22 : decode cX12_put 22 = .ok (.sipush 480, 3) := by decide +kernel
theorem dX12_put_25 : decode cX12_put 25 = .ok (.if_icmp .le 5, 3) := by decide +kernel
theorem dX12_put_30 : decode cX12_put 30 = .ok (.iconst 0, 1) := by decide +kernel
theorem dX12_put_31 : decode cX12_put 31 = .ok (.istore 4, 2) := by decide +kernel
theorem dX12_put_82 : decode cX12_put 82 = .ok (.iload_n 3, 1) := by decide +kernel
theorem dX12_put_83 : decode cX12_put 83 = .ok (.iconst 1, 1) := by decide +kernel
theorem dX12_put_84 : decode cX12_put 84 = .ok (.isub, 1) := by decide +kernel
theorem dX12_put_85 : decode cX12_put 85 = .ok (.istore 4, 2) := by decide +kernel
theorem dX12_put_87 : decode cX12_put 87 = .ok (.iload 4, 2) := by decide +kernel
theorem dX12_put_89 : decode cX12_put 89 = .ok (.ifCond .lt 41, 3) := by decide +kernel
theorem dX12_put_130 : decode cX12_put 130 = .ok (.iconst 1, 1) := by decide +kernel
theorem dX12_put_131 : decode cX12_put 131 = .ok (.ireturn, 1) := by decide +kernel
theorem dX12_put_92 : decode cX12_put 92 = .ok (.aload_n 0, 1) := by decide +kernel
theorem dX12_put_93 : decode cX12_put 93 = .ok (.getfield 12, 3) := by decide +kernel
theorem dX12_put_96 : decode cX12_put 96 = .ok (.aload_n 0, 1) := by decide +kernel
theorem dX12_put_97 : decode cX12_put 97 = .ok (.getfield 7, 3) := by decide +kernel
theorem dX12_put_100 : decode cX12_put 100 = .ok (.lload_n 1, 1) := by decide +kernel
theorem dX12_put_101 : decode cX12_put 101 = .ok (.bipush 8, 2) := by decide +kernel
theorem dX12_put_103 : decode cX12_put 103 = .ok (.iload 4, 2) := by decide +kernel
theorem dX12_put_105 : decode cX12_put 105 = .ok (.imul, 1) := by decide +kernel
theorem dX12_put_106 : decode cX12_put 106 = .ok (.lshr, 1) := by decide +kernel
theorem dX12_put_107 : decode cX12_put 107 = .ok (.ldc2_w 10, 3) := by decide +kernel
theorem dX12_put_110 : decode cX12_put 110 = .ok (.land, 1) := by decide +kernel
theorem dX12_put_111 : decode cX12_put 111 = .ok (.l2i, 1) := by decide +kernel
theorem dX12_put_112 : decode cX12_put 112 = .ok (.i2c, 1) := by decide +kernel
theorem dX12_put_113 : decode cX12_put 113 = .ok (.castore, 1) := by decide +kernel
theorem dX12_put_114 : decode cX12_put 114 = .ok (.aload_n 0, 1) := by decide +kernel
theorem dX12_put_115 : decode cX12_put 115 = .ok (.dup, 1) := by decide +kernel
theorem dX12_put_116 : decode cX12_put 116 = .ok (.getfield 7, 3) := by decide +kernel
theorem dX12_put_119 : decode cX12_put 119 = .ok (.iconst 1, 1) := by decide +kernel
theorem dX12_put_120 : decode cX12_put 120 = .ok (.iadd, 1) := by decide +kernel
theorem dX12_put_121 : decode cX12_put 121 = .ok (.putfield 7, 3) := by decide +kernel
theorem dX12_put_124 : decode cX12_put 124 = .ok (.iinc 4 (-1), 3) := by decide +kernel
theorem dX12_put_127 : decode cX12_put 127 = .ok (.goto (-40), 3) := by decide +kernel
theorem dX12_put_33 : decode cX12_put 33 = .ok (.iload 4, 2) := by decide +kernel
theorem dX12_put_35 : decode cX12_put 35 = .ok (.iload_n 3, 1) := by decide +kernel
theorem dX12_put_36 : decode cX12_put 36 = .ok (.if_icmp .ge 46, 3) := by decide +kernel
theorem dX12_put_39 : decode cX12_put 39 = .ok (.lload_n 1, 1) := by decide +kernel
theorem dX12_put_40 : decode cX12_put 40 = .ok (.bipush 8, 2) := by decide +kernel
theorem dX12_put_42 : decode cX12_put 42 = .ok (.iload 4, 2) := by decide +kernel
theorem dX12_put_44 : decode cX12_put 44 = .ok (.imul, 1) := by decide +kernel
theorem dX12_put_45 : decode cX12_put 45 = .ok (.lshr, 1) := by decide +kernel
theorem dX12_put_46 : decode cX12_put 46 = .ok (.ldc2_w 10, 3) := by decide +kernel
theorem dX12_put_49 : decode cX12_put 49 = .ok (.land, 1) := by decide +kernel
theorem dX12_put_50 : decode cX12_put 50 = .ok (.l2i, 1) := by decide +kernel
theorem dX12_put_51 : decode cX12_put 51 = .ok (.istore 5, 2) := by decide +kernel
theorem dX12_put_76 : decode cX12_put 76 = .ok (.iinc 4 1, 3) := by decide +kernel
theorem dX12_put_79 : decode cX12_put 79 = .ok (.goto (-46), 3) := by decide +kernel
theorem dX12_put_53 : decode cX12_put 53 = .ok (.iload 5, 2) := by decide +kernel
theorem dX12_put_55 : decode cX12_put 55 = .ok (.bipush 10, 2) := by decide +kernel
theorem dX12_put_57 : decode cX12_put 57 = .ok (.if_icmp .eq 19, 3) := by decide +kernel
theorem dX12_put_60 : decode cX12_put 60 = .ok (.iload 5, 2) := by decide +kernel
theorem dX12_put_62 : decode cX12_put 62 = .ok (.bipush 32, 2) := by decide +kernel
theorem dX12_put_64 : decode cX12_put 64 = .ok (.if_icmp .lt 10, 3) := by decide +kernel
theorem dX12_put_74 : decode cX12_put 74 = .ok (.iconst 0, 1) := by decide +kernel
theorem dX12_put_75 : decode cX12_put 75 = .ok (.ireturn, 1) := by decide +kernel
theorem dX12_put_67 : decode cX12_put 67 = .ok (.iload 5, 2) := by decide +kernel
theorem dX12_put_69 : decode cX12_put 69 = .ok (.bipush 126, 2) := by decide +kernel
theorem dX12_put_71 : decode cX12_put 71 = .ok (.if_icmp .le 5, 3) := by decide +kernel
set_option maxRecDepth 20000 in
theorem ggX11_put_X3_add : GoodIn wsX11_put wsX3_add := goodIn_r _ [7, 8, 9, 24, 25] (by decide +kernel) (by decide +kernel)
set_option maxRecDepth 20000 in
theorem gX11_put_X3_add : GoodIn wsX11_put (wsV RX11 84 RX3 yX3_add wsX3_add) := goodIn_app (goodIn_of _ (by decide +kernel)) ggX11_put_X3_add
def sj_by (x : Int64) (y : Int32) : Int32 := ((x.toUInt64 >>> (y.toInt64.toUInt64 &&& Int64.toUInt64 63)).toInt64).toInt32 &&& 255
def sj_bm (x : Int64) (y : Int32) : Int32 := ((x >>> (y.toInt64 &&& 63)) &&& 255).toInt32
def sj_ok (b : Int32) : Prop := b = 10 ∨ (32 ≤ b.toInt ∧ b.toInt ≤ 126)
def sj_P (f : Int64 → Int32 → Int32) (x : Int64) (n : Int32) : Prop := 1 ≤ n.toInt ∧ n.toInt ≤ 8 ∧ ∀ j : Nat, (j : Int) < n.toInt → sj_ok (f x (nI (8 * j)))
set_option maxHeartbeats 4000000 in
set_option maxRecDepth 100000 in
/-- a character is added -/
theorem c_X3_add (l : Launch) (D : va_G) (h0 : Nat) (one : Int32) (tch : Nat) (a : Nat) (kt : ClassId) (ft : Nat → Int32) (sz : Nat) (ha : a < 480) : Met l yX3_add wsX3_add ({ frames := 0, cells := 0, slots := 0, locals := 0 }) (va_Pc [.ref h0, .int one] (sj_B D [(h0, .inr (3, [.ref tch, .int (nI a)])), (tch, .inl (kt, 480, .inl ft))] [(kt, .char)] sz sj_n)) (sj_Qv (S := Unit) D (fun _ => True) (fun u => [(h0, .inr (3, [.ref tch, .int (nI (a + 1))])), (tch, .inl (kt, 480, .inl (upd ft (nI a).toNatClampNeg (vp_nar .char one))))]) (fun u => []) (va_A [(h0, .inr (3, [.ref tch, .int (nI a)])), (tch, .inl (kt, 480, .inl ft))] sz)) 0 0 (va_A [(h0, .inr (3, [.ref tch, .int (nI a)])), (tch, .inl (kt, 480, .inl ft))] sz) := by
  refine sj_met (cc := cX3_add) (maxL := 2) (ret := none) (by decide) rfl (Nat.le_of_ble_eq_true rfl) ?_
  intro p e s m below meth c A ls hx hb hr hml hts hown hlocks hnm hA hsz hS hH hK hE hl
  have hown : s.vm.findClass RX3 = some m.cls := hown
  have in3 : ∀ w ∈ wsX30, w ∈ wsX3_add := by decide +kernel
  have wd0 := hts (.fieldLink RX3 13 "StoryDesk$Letters" "length" "I") (by decide +kernel)
  have wd1 := hts (.fieldLink RX3 7 "StoryDesk$Letters" "chars" "[C") (by decide +kernel)
  have hl : lv_has ls 2 [(0, .ref h0), (1, .int one)] := hl
  have hH : sj_H D A ([(h0, .inr (3, [.ref tch, .int (nI a)])), (tch, .inl (kt, 480, .inl ft))] ++ []) s.heap := hH
  refine lv_aload_n hx hb dX3_add_0 rfl (lv_at hl 0 rfl) ?_
  refine va_get (D := D) (ci := 3) (v := .int (nI a)) (C := RX3) (T := TX3) (N := 2) hx hb hts in3 hown hK hH.1 0 rfl rfl 1 (by decide) wd0 (fun _ h9 => h9) rfl dX3_add_1 ?_
  refine lv_aload_n hx hb dX3_add_4 rfl (lv_at hl 0 rfl) ?_
  refine va_get (D := D) (ci := 3) (v := .ref tch) (C := RX3) (T := TX3) (N := 2) hx hb hts in3 hown hK hH.1 0 rfl rfl 0 (by decide) wd1 (fun _ h9 => h9) rfl dX3_add_5 ?_
  refine va_alen hx hb hK hH.1 1 0 rfl rfl (v := 480) rfl dX3_add_8 ?_
  refine lv_icmp_ge (tgt := 32) hx hb dX3_add_9 (by decide) (fun h => absurd h (nI_ge (a := a) (b := 480) ha (by decide))) (fun _ => ?_)
  refine lv_aload_n hx hb dX3_add_12 rfl (lv_at hl 0 rfl) ?_
  refine va_get (D := D) (ci := 3) (v := .ref tch) (C := RX3) (T := TX3) (N := 2) hx hb hts in3 hown hK hH.1 0 rfl rfl 0 (by decide) wd1 (fun _ h9 => h9) rfl dX3_add_13 ?_
  refine lv_aload_n hx hb dX3_add_16 rfl (lv_at hl 0 rfl) ?_
  refine va_get (D := D) (ci := 3) (v := .int (nI a)) (C := RX3) (T := TX3) (N := 2) hx hb hts in3 hown hK hH.1 0 rfl rfl 1 (by decide) wd0 (fun _ h9 => h9) rfl dX3_add_17 ?_
  refine lv_iload_n hx hb dX3_add_20 rfl (lv_at hl 1 rfl) ?_
  refine sj_cast hx hb hK hH hS 1 0 rfl rfl (vp_in_nI ha (by decide)) dX3_add_21 (fun H locs hH hS => ?_)
  have hH : sj_H D A ([(h0, .inr (3, [.ref tch, .int (nI a)])), (tch, .inl (kt, 480, .inl (upd ft (nI a).toNatClampNeg (vp_nar .char one))))] ++ []) H := hH
  refine lv_aload_n hx hb dX3_add_22 rfl (lv_at hl 0 rfl) ?_
  refine lv_dup hx hb dX3_add_23 rfl ?_
  refine va_get (D := D) (ci := 3) (v := .int (nI a)) (C := RX3) (T := TX3) (N := 2) hx hb hts in3 hown hK hH.1 0 rfl rfl 1 (by decide) wd0 (fun _ h9 => h9) rfl dX3_add_24 ?_
  refine lv_iconst (v := 1) hx hb dX3_add_27 (by decide) ?_
  refine lv_iadd hx hb dX3_add_28 ?_
  refine sj_i (y := (nI (a + 1))) (nI_1 a) ?_
  refine sj_put (D := D) (ci := 3) (v := .int (nI (a + 1))) (ty := .int) (C := RX3) (F := TX3) (N := 2) hx hb hts in3 tyX3 tyX3_ok nmX3 hown hK hH hS 0 rfl rfl 1 (by decide) wd0 (fun _ h9 => h9) rfl (by decide +kernel) rfl rfl (Nat.le_of_ble_eq_true rfl) dX3_add_29 (fun H locs (hH : sj_H D A ([(h0, .inr (3, [.ref tch, .int (nI (a + 1))])), (tch, .inl (kt, 480, .inl (upd ft (nI a).toNatClampNeg (vp_nar .char one))))] ++ []) H) hS => ?_)
  exact sj_vret hx hb hr hlocks hS () trivial (sj_sub hH [0, 1] rfl rfl) (sj_Knil hK) (Nat.le_of_ble_eq_true rfl) (Nat.le_of_ble_eq_true rfl) dX3_add_32
set_option maxHeartbeats 4000000 in
set_option maxRecDepth 100000 in
/-- put on a new StoryDesk -/
theorem c_X11_put (l : Launch) (D : va_G) (h0 : Nat) (bytes : Int64) (n : Int32) (d_text : Nat) (d_reading : Nat) (d_cases : Nat) (d_scripts : Nat) (d_run : Nat) (d_definitions : Nat) (d_definitionScripts : Nat) (d_hookTags : Nat) (d_hookBefore : Nat) (d_hookScripts : Nat) (d_filterInUse : Nat) (d_filterToTry : Nat) (tch : Nat) (kt : ClassId) (sz : Nat)  : Met l yX11_put wsX11_put ({ frames := 1, cells := 0, slots := 0, locals := 21 }) (va_Pc [.ref h0, .long bytes, .int n] (sj_B D [(h0, .inr (11, [.ref d_text, .ref d_reading, .ref d_cases, .ref d_scripts, .ref d_run, .ref d_definitions, .ref d_definitionScripts, .int 0, .ref d_hookTags, .ref d_hookBefore, .ref d_hookScripts, .int 0, .ref d_filterInUse, .ref d_filterToTry])), (d_text, .inr (3, [.ref tch, .int 0])), (tch, .inl (kt, 480, .inl (fun _ => 0)))] [(kt, .char)] sz sj_n)) (sj_Qi (S := Unit) D (fun r _ => (r = 1 ∧ sj_P sj_by bytes n) ∨ (r = 0 ∧ ¬ sj_P sj_by bytes n)) (fun u => []) (fun u => []) (va_A [(h0, .inr (11, [.ref d_text, .ref d_reading, .ref d_cases, .ref d_scripts, .ref d_run, .ref d_definitions, .ref d_definitionScripts, .int 0, .ref d_hookTags, .ref d_hookBefore, .ref d_hookScripts, .int 0, .ref d_filterInUse, .ref d_filterToTry])), (d_text, .inr (3, [.ref tch, .int 0])), (tch, .inl (kt, 480, .inl (fun _ => 0)))] sz)) 0 0 (va_A [(h0, .inr (11, [.ref d_text, .ref d_reading, .ref d_cases, .ref d_scripts, .ref d_run, .ref d_definitions, .ref d_definitionScripts, .int 0, .ref d_hookTags, .ref d_hookBefore, .ref d_hookScripts, .int 0, .ref d_filterInUse, .ref d_filterToTry])), (d_text, .inr (3, [.ref tch, .int 0])), (tch, .inl (kt, 480, .inl (fun _ => 0)))] sz) := by
  refine sj_met (cc := cX11_put) (maxL := 6) (ret := (some .boolean)) (by decide) rfl (Nat.le_of_ble_eq_true rfl) ?_
  intro p e s m below meth c A ls hx hb hr hml hts hown hlocks hnm hA hsz hS hH hK hE hl
  have hown : s.vm.findClass RX11 = some m.cls := hown
  have in3 : ∀ w ∈ wsX30, w ∈ wsX11_put := by decide +kernel
  have in11 : ∀ w ∈ wsX110, w ∈ wsX11_put := by decide +kernel
  have wd0 := hts (.fieldLink RX11 14 "StoryDesk" "text" "LStoryDesk$Letters;") (by decide +kernel)
  have wd1 := hts (.fieldLink RX11 80 "StoryDesk$Letters" "length" "I") (by decide +kernel)
  have hl : lv_has ls 6 [(0, .ref h0), (1, .long bytes), (3, .int n)] := hl
  have hH : sj_H D A ([(h0, .inr (11, [.ref d_text, .ref d_reading, .ref d_cases, .ref d_scripts, .ref d_run, .ref d_definitions, .ref d_definitionScripts, .int 0, .ref d_hookTags, .ref d_hookBefore, .ref d_hookScripts, .int 0, .ref d_filterInUse, .ref d_filterToTry])), (d_text, .inr (3, [.ref tch, .int 0])), (tch, .inl (kt, 480, .inl (fun _ => 0)))] ++ []) s.heap := hH
  refine lv_iload_n hx hb dX11_put_0 rfl (lv_at hl 2 rfl) ?_
  refine lv_iconst (v := 1) hx hb dX11_put_1 (by decide) ?_
  refine lv_icmp_lt (tgt := 26) hx hb dX11_put_2 (by decide) (fun c_1 => ?_) (fun c_1 => ?_)
  · skip
    have d_2 := sj_ltF (n := 1) (by decide) c_1
    refine lv_iconst (v := 0) hx hb dX11_put_26 (by decide) ?_
    exact sj_zret hx hb hr hlocks (by decide +kernel) hS () (Or.inr ⟨rfl, fun h => by have h1 := h.1; have h2 := h.2.1; omega⟩) sj_nil (sj_Knil hK) (Nat.le_of_ble_eq_true rfl) (Nat.le_of_ble_eq_true rfl) dX11_put_27
  · skip
    have d_3 := sj_nlt (n := 1) (by decide) c_1
    refine lv_iload_n hx hb dX11_put_5 rfl (lv_at hl 2 rfl) ?_
    refine lv_bipush (v := 8) hx hb dX11_put_6 (by decide) ?_
    refine lv_icmp_gt (tgt := 26) hx hb dX11_put_8 (by decide) (fun c_4 => ?_) (fun c_4 => ?_)
    · skip
      have d_5 := sj_gtF (n := 8) (by decide) c_4
      refine lv_iconst (v := 0) hx hb dX11_put_26 (by decide) ?_
      exact sj_zret hx hb hr hlocks (by decide +kernel) hS () (Or.inr ⟨rfl, fun h => by have h1 := h.1; have h2 := h.2.1; omega⟩) sj_nil (sj_Knil hK) (Nat.le_of_ble_eq_true rfl) (Nat.le_of_ble_eq_true rfl) dX11_put_27
    · skip
      have d_6 := sj_ngt (n := 8) (by decide) c_4
      obtain ⟨N, hN1, hN8, hnN⟩ : ∃ N : Nat, 1 ≤ N ∧ N ≤ 8 ∧ n = nI N := ⟨n.toInt.toNat, by omega, by omega, sj_nI (by omega) (by omega)⟩
      have hnT : n.toInt = (N : Int) := by rw [hnN, nI_toInt (by omega)]
      rw [hnN] at hl
      refine lv_aload_n hx hb dX11_put_11 rfl (lv_at hl 0 rfl) ?_
      refine va_get (D := D) (ci := 11) (v := .ref d_text) (C := RX11) (T := TX11) (N := 14) hx hb hts in11 hown hK hH.1 0 rfl rfl 0 (by decide) wd0 (fun _ h9 => h9) rfl dX11_put_12 ?_
      refine va_get (D := D) (ci := 3) (v := .int 0) (C := RX3) (T := TX3) (N := 2) hx hb hts in3 hown hK hH.1 1 rfl rfl 1 (by decide) wd1 (fun _ h9 => h9) rfl dX11_put_15 ?_
      refine lv_iload_n hx hb dX11_put_18 rfl (lv_at hl 2 rfl) ?_
      refine lv_iadd hx hb dX11_put_19 ?_
      refine sj_i (y := (nI N)) ((by rw [← nI_0, nI_add, Nat.zero_add])) ?_
      refine lv_sipush (v := 480) hx hb dX11_put_20 (by decide) ?_
      refine lv_icmp_le (tgt := 28) hx hb dX11_put_23 (by decide) (fun _ => ?_) (fun h => absurd (nI_le (a := N) (b := 480) (by omega) (by decide)) h)
      refine lv_iconst (v := 0) hx hb dX11_put_28 (by decide) ?_
      refine lv_istore (lv' := [(4, .int 0), (0, .ref h0), (1, .long bytes), (3, .int (nI N))]) hx hb dX11_put_29 hl (by decide) rfl (fun ls hl => ?_)
      have after1 : (∀ i : Nat, i < N → sj_ok (sj_by bytes (nI (8 * i)))) → ∀ ls : Array Slot, lv_has ls 6 [(0, .ref h0), (1, .long bytes), (3, .int (nI N))] → W p l e (headSpec wsX11_put ({ frames := 1, cells := 0, slots := 0, locals := 21 })).room s m ([.ref h0, .long bytes, .int n] : List Value).toArray below meth c s.heap [] 0 0 (MQ below (sj_Qi (S := Unit) D (fun r _ => (r = 1 ∧ sj_P sj_by bytes n) ∨ (r = 0 ∧ ¬ sj_P sj_by bytes n)) (fun u => []) (fun u => []) A) ([.ref h0, .long bytes, .int n] : List Value).toArray s 0 0 A) (F0 m 80 ls []) := by
        intro hall ls hl
        refine lv_iload_n hx hb dX11_put_80 rfl (lv_at hl 2 rfl) ?_
        refine lv_iconst (v := 1) hx hb dX11_put_81 (by decide) ?_
        refine lv_isub hx hb dX11_put_82 ?_
        refine sj_i (y := (nI N - 1)) (rfl) ?_
        refine lv_istore (lv' := [(4, .int (nI N - 1)), (0, .ref h0), (1, .long bytes), (3, .int (nI N))]) hx hb dX11_put_83 hl (by decide) rfl (fun ls hl => ?_)
        have lp2 : ∀ (k a : Nat) (ft : Nat → Int32) (H : Heap) (locs : List Loc) (ls : Array Slot), a + k = N → lv_has ls 6 [(0, .ref h0), (1, .long bytes), (4, .int (nI k - 1))] → sj_H D A ([(h0, .inr (11, [.ref d_text, .ref d_reading, .ref d_cases, .ref d_scripts, .ref d_run, .ref d_definitions, .ref d_definitionScripts, .int 0, .ref d_hookTags, .ref d_hookBefore, .ref d_hookScripts, .int 0, .ref d_filterInUse, .ref d_filterToTry])), (d_text, .inr (3, [.ref tch, .int (nI a)])), (tch, .inl (kt, 480, .inl ft))] ++ []) H → va_S A s.heap H locs → W p l e (headSpec wsX11_put ({ frames := 1, cells := 0, slots := 0, locals := 21 })).room s m ([.ref h0, .long bytes, .int n] : List Value).toArray below meth c H locs 0 0 (MQ below (sj_Qi (S := Unit) D (fun r _ => (r = 1 ∧ sj_P sj_by bytes n) ∨ (r = 0 ∧ ¬ sj_P sj_by bytes n)) (fun u => []) (fun u => []) A) ([.ref h0, .long bytes, .int n] : List Value).toArray s 0 0 A) (F0 m 85 ls []) := by
          intro k
          induction k with
          | zero =>
            intro a ft H locs ls ha hl hH hS
            refine lv_iload hx hb dX11_put_85 (lv_at hl 2 rfl) ?_
            refine lv_if_lt (tgt := 116) hx hb dX11_put_87 (by decide) (fun _ => ?_) (fun h => absurd (by decide) h)
            refine lv_iconst (v := 1) hx hb dX11_put_116 (by decide) ?_
            exact sj_zret hx hb hr hlocks (by decide +kernel) hS () (Or.inl ⟨rfl, by omega, by omega, fun i hi => hall i (by omega)⟩) sj_nil (sj_Knil hK) (Nat.le_of_ble_eq_true rfl) (Nat.le_of_ble_eq_true rfl) dX11_put_117
          | succ k ih =>
            intro a ft H locs ls ha hl hH hS
            rw [nI_pred k] at hl
            refine lv_iload hx hb dX11_put_85 (lv_at hl 2 rfl) ?_
            refine lv_if_lt (tgt := 116) hx hb dX11_put_87 (by decide) (fun h => absurd h (nI_pos (by omega))) (fun _ => ?_)
            refine lv_aload_n hx hb dX11_put_90 rfl (lv_at hl 0 rfl) ?_
            refine va_get (D := D) (ci := 11) (v := .ref d_text) (C := RX11) (T := TX11) (N := 14) hx hb hts in11 hown hK hH.1 0 rfl rfl 0 (by decide) wd0 (fun _ h9 => h9) rfl dX11_put_91 ?_
            refine lv_lload_n hx hb dX11_put_94 rfl (lv_at hl 1 rfl) ?_
            refine lv_bipush (v := 8) hx hb dX11_put_95 (by decide) ?_
            refine lv_iload hx hb dX11_put_97 (lv_at hl 2 rfl) ?_
            refine lv_imul hx hb dX11_put_99 ?_
            refine sj_i (y := (nI (8 * k))) ((by rw [show (8 : Int32) = nI 8 from rfl, pk_mul])) ?_
            refine lv_lushr (v := (bytes.toUInt64 >>> ((nI (8 * k)).toInt64.toUInt64 &&& Int64.toUInt64 63)).toInt64) hx hb dX11_put_100 rfl ?_
            refine lv_l2i (v := ((bytes.toUInt64 >>> ((nI (8 * k)).toInt64.toUInt64 &&& Int64.toUInt64 63)).toInt64).toInt32) hx hb dX11_put_101 rfl ?_
            refine lv_sipush (v := 255) hx hb dX11_put_102 (by decide) ?_
            refine lv_iand hx hb dX11_put_105 ?_
            refine lv_i2c (v := ((((((bytes.toUInt64 >>> ((nI (8 * k)).toInt64.toUInt64 &&& Int64.toUInt64 63)).toInt64).toInt32) &&& 255)).toUInt32 % 65536).toInt32) hx hb dX11_put_106 rfl ?_
            refine lv_topi (fun ch ech => ?_)
            refine sj_callv (wr := [(h0, .inr (11, [.ref d_text, .ref d_reading, .ref d_cases, .ref d_scripts, .ref d_run, .ref d_definitions, .ref d_definitionScripts, .int 0, .ref d_hookTags, .ref d_hookBefore, .ref d_hookScripts, .int 0, .ref d_filterInUse, .ref d_filterToTry]))]) (va_runV (As := [.int ch]) (rest := []) ⟨hx, hb, hml, hown, hts⟩ (c_X3_add l D d_text ch tch a kt ft H.size (by omega)) (cwV 1 hts gX11_put_X3_add rfl rfl rfl (by decide +kernel) ⟨(Nat.le_of_ble_eq_true rfl), (Nat.le_of_ble_eq_true rfl)⟩) (sj_preV (q := (RX3, TX3, 2)) hH hK [1, 2] rfl rfl [0] rfl rfl rfl sj_bln sj_exn) rfl rfl hl.1 rfl (lv_room (Nat.le_of_ble_eq_true rfl)) dX11_put_107 ⟨(Nat.le_of_ble_eq_true rfl), (Nat.le_of_ble_eq_true rfl)⟩) hH hK hS hA [1, 2] [0] rfl rfl rfl rfl (by decide) rfl rfl (fun u_11 H locs hw_12 hH hK hS => ?_)
            have hH : sj_H D A ([(h0, .inr (11, [.ref d_text, .ref d_reading, .ref d_cases, .ref d_scripts, .ref d_run, .ref d_definitions, .ref d_definitionScripts, .int 0, .ref d_hookTags, .ref d_hookBefore, .ref d_hookScripts, .int 0, .ref d_filterInUse, .ref d_filterToTry])), (d_text, .inr (3, [.ref tch, .int (nI (a + 1))])), (tch, .inl (kt, 480, .inl (upd ft (nI a).toNatClampNeg (vp_nar .char ch))))] ++ []) H := hH
            have hK : va_K D vwCl [(kt, .char)] s := by simpa using hK
            refine lv_iinc (v := (nI k - 1)) (lv' := [(4, .int (nI k - 1)), (0, .ref h0), (1, .long bytes)]) hx hb dX11_put_110 hl (k := 2) rfl (by rw [Int32.sub_eq_add_neg]; rfl) (by decide) rfl (fun ls hl => ?_)
            refine lv_goto (tgt := 85) hx hb dX11_put_113 (by decide) ?_
            exact ih (a + 1) _ H locs ls (by omega) (lv_sub hl [1, 2, 0] rfl) (sj_sub2 hH [0, 1, 2] rfl rfl) hS
        exact lp2 N 0 _ _ _ ls (Nat.zero_add N) (lv_sub hl [1, 2, 0] rfl) hH hS
      have lp1 : ∀ (t j : Nat), j + t = N → (∀ i : Nat, i < j → sj_ok (sj_by bytes (nI (8 * i)))) → ∀ ls : Array Slot, lv_has ls 6 [(0, .ref h0), (1, .long bytes), (3, .int (nI N)), (4, .int (nI j))] → W p l e (headSpec wsX11_put ({ frames := 1, cells := 0, slots := 0, locals := 21 })).room s m ([.ref h0, .long bytes, .int n] : List Value).toArray below meth c s.heap [] 0 0 (MQ below (sj_Qi (S := Unit) D (fun r _ => (r = 1 ∧ sj_P sj_by bytes n) ∨ (r = 0 ∧ ¬ sj_P sj_by bytes n)) (fun u => []) (fun u => []) A) ([.ref h0, .long bytes, .int n] : List Value).toArray s 0 0 A) (F0 m 31 ls []) := by
        intro t
        induction t with
        | zero =>
          intro j hj hall ls hl
          obtain rfl : j = N := by omega
          refine lv_iload hx hb dX11_put_31 (lv_at hl 3 rfl) ?_
          refine lv_iload_n hx hb dX11_put_33 rfl (lv_at hl 2 rfl) ?_
          refine lv_icmp_ge (tgt := 80) hx hb dX11_put_34 (by decide) (fun _ => ?_) (fun h => absurd (nI_le (Nat.le_refl j) (by omega)) h)
          exact after1 hall ls (lv_sub hl [0, 1, 2] rfl)
        | succ t ih =>
          intro j hj hall ls hl
          have hjN : j < N := by omega
          refine lv_iload hx hb dX11_put_31 (lv_at hl 3 rfl) ?_
          refine lv_iload_n hx hb dX11_put_33 rfl (lv_at hl 2 rfl) ?_
          refine lv_icmp_ge (tgt := 80) hx hb dX11_put_34 (by decide) (fun h => absurd h (nI_ge hjN (by omega))) (fun _ => ?_)
          refine lv_lload_n hx hb dX11_put_37 rfl (lv_at hl 1 rfl) ?_
          refine lv_bipush (v := 8) hx hb dX11_put_38 (by decide) ?_
          refine lv_iload hx hb dX11_put_40 (lv_at hl 3 rfl) ?_
          refine lv_imul hx hb dX11_put_42 ?_
          refine sj_i (y := (nI (8 * j))) ((by rw [show (8 : Int32) = nI 8 from rfl, pk_mul])) ?_
          refine lv_lushr (v := (bytes.toUInt64 >>> ((nI (8 * j)).toInt64.toUInt64 &&& Int64.toUInt64 63)).toInt64) hx hb dX11_put_43 rfl ?_
          refine lv_l2i (v := ((bytes.toUInt64 >>> ((nI (8 * j)).toInt64.toUInt64 &&& Int64.toUInt64 63)).toInt64).toInt32) hx hb dX11_put_44 rfl ?_
          refine lv_sipush (v := 255) hx hb dX11_put_45 (by decide) ?_
          refine lv_iand hx hb dX11_put_48 ?_
          refine sj_i (y := sj_by bytes (nI (8 * j))) rfl ?_
          refine lv_istore (lv' := [(5, .int (sj_by bytes (nI (8 * j)))), (0, .ref h0), (1, .long bytes), (3, .int (nI N)), (4, .int (nI j))]) hx hb dX11_put_49 hl (by decide) rfl (fun ls hl => ?_)
          have nx : sj_ok (sj_by bytes (nI (8 * j))) → W p l e (headSpec wsX11_put ({ frames := 1, cells := 0, slots := 0, locals := 21 })).room s m ([.ref h0, .long bytes, .int n] : List Value).toArray below meth c s.heap [] 0 0 (MQ below (sj_Qi (S := Unit) D (fun r _ => (r = 1 ∧ sj_P sj_by bytes n) ∨ (r = 0 ∧ ¬ sj_P sj_by bytes n)) (fun u => []) (fun u => []) A) ([.ref h0, .long bytes, .int n] : List Value).toArray s 0 0 A) (F0 m 74 ls []) := by
            intro hok
            refine lv_iinc (v := (nI (j + 1))) (lv' := [(4, .int (nI (j + 1))), (5, .int (sj_by bytes (nI (8 * j)))), (0, .ref h0), (1, .long bytes), (3, .int (nI N))]) hx hb dX11_put_74 hl (k := 4) rfl (by rw [nI_succ]; rfl) (by decide) rfl (fun ls hl => ?_)
            refine lv_goto (tgt := 31) hx hb dX11_put_77 (by decide) ?_
            exact ih (j + 1) (by omega) (fun i hi => (Nat.lt_or_ge i j).elim (fun h => hall i h) (fun h => by rw [show i = j by omega]; exact hok)) ls (lv_sub hl [2, 3, 4, 0] rfl)
          refine lv_iload hx hb dX11_put_51 (lv_at hl 0 rfl) ?_
          refine lv_bipush (v := 10) hx hb dX11_put_53 (by decide) ?_
          refine lv_icmp_eq (tgt := 74) hx hb dX11_put_55 (by decide) (fun c_15 => ?_) (fun c_15 => ?_)
          · skip
            have d_16 := sj_eqF (n := 10) (by decide) c_15
            exact nx (by first | exact Or.inl (by assumption) | exact Or.inr ⟨by omega, by omega⟩)
          · skip
            have d_17 := sj_neF (n := 10) (by decide) c_15
            refine lv_iload hx hb dX11_put_58 (lv_at hl 0 rfl) ?_
            refine lv_bipush (v := 32) hx hb dX11_put_60 (by decide) ?_
            refine lv_icmp_lt (tgt := 72) hx hb dX11_put_62 (by decide) (fun c_18 => ?_) (fun c_18 => ?_)
            · skip
              have d_19 := sj_ltF (n := 32) (by decide) c_18
              refine lv_iconst (v := 0) hx hb dX11_put_72 (by decide) ?_
              exact sj_zret hx hb hr hlocks (by decide +kernel) hS () (Or.inr ⟨rfl, fun h => absurd (h.2.2 j (by omega)) (fun q => q.elim (fun e => by have e2 := sj_eqF (n := 10) (by decide) e; omega) (fun e => by omega))⟩) sj_nil (sj_Knil hK) (Nat.le_of_ble_eq_true rfl) (Nat.le_of_ble_eq_true rfl) dX11_put_73
            · skip
              have d_20 := sj_nlt (n := 32) (by decide) c_18
              refine lv_iload hx hb dX11_put_65 (lv_at hl 0 rfl) ?_
              refine lv_bipush (v := 126) hx hb dX11_put_67 (by decide) ?_
              refine lv_icmp_le (tgt := 74) hx hb dX11_put_69 (by decide) (fun c_21 => ?_) (fun c_21 => ?_)
              · skip
                have d_22 := sj_leF (n := 126) (by decide) c_21
                exact nx (by first | exact Or.inl (by assumption) | exact Or.inr ⟨by omega, by omega⟩)
              · skip
                have d_23 := sj_nle (n := 126) (by decide) c_21
                refine lv_iconst (v := 0) hx hb dX11_put_72 (by decide) ?_
                exact sj_zret hx hb hr hlocks (by decide +kernel) hS () (Or.inr ⟨rfl, fun h => absurd (h.2.2 j (by omega)) (fun q => q.elim (fun e => by have e2 := sj_eqF (n := 10) (by decide) e; omega) (fun e => by omega))⟩) sj_nil (sj_Knil hK) (Nat.le_of_ble_eq_true rfl) (Nat.le_of_ble_eq_true rfl) dX11_put_73
      exact lp1 N 0 (Nat.zero_add N) (fun i h => absurd h (Nat.not_lt_zero i)) ls (lv_sub hl [1, 2, 3, 0] rfl)
set_option maxHeartbeats 4000000 in
set_option maxRecDepth 100000 in
/-- put on a new StoryDeskModel -/
theorem c_X12_put (l : Launch) (D : va_G) (h0 : Nat) (g : Nat → Nat) (th : Int32) (bytes : Int64) (n : Int32) (kt : ClassId) (sz : Nat)  : Met l yX12_put wsX12_put ({ frames := 0, cells := 0, slots := 0, locals := 0 }) (va_Pc [.ref h0, .long bytes, .int n] (sj_B D [(h0, .inr (12, sj_M g th)), ((g 1), .inl (kt, 480, .inl (fun _ => 0)))] [(kt, .char)] sz sj_n)) (sj_Qi (S := Unit) D (fun r _ => (r = 1 ∧ sj_P sj_bm bytes n) ∨ (r = 0 ∧ ¬ sj_P sj_bm bytes n)) (fun u => []) (fun u => []) (va_A [(h0, .inr (12, sj_M g th)), ((g 1), .inl (kt, 480, .inl (fun _ => 0)))] sz)) 0 0 (va_A [(h0, .inr (12, sj_M g th)), ((g 1), .inl (kt, 480, .inl (fun _ => 0)))] sz) := by
  refine sj_met (cc := cX12_put) (maxL := 6) (ret := (some .boolean)) (by decide) rfl (Nat.le_of_ble_eq_true rfl) ?_
  intro p e s m below meth c A ls hx hb hr hml hts hown hlocks hnm hA hsz hS hH hK hE hl
  have hown : s.vm.findClass RX12 = some m.cls := hown
  have in12 : ∀ w ∈ wsX120, w ∈ wsX12_put := by decide +kernel
  have wd0 := hts (.fieldLink RX12 1 "StoryDeskModel" "thrown" "I") (by decide +kernel)
  have wd1 := hts (.fieldLink RX12 7 "StoryDeskModel" "size" "I") (by decide +kernel)
  have wd2 := hts (.fieldLink RX12 12 "StoryDeskModel" "text" "[C") (by decide +kernel)
  have wd3 := hts (.constantLong RX12 10 (255)) (by decide +kernel)
  have hl : lv_has ls 6 [(0, .ref h0), (1, .long bytes), (3, .int n)] := hl
  have hH : sj_H D A ([(h0, .inr (12, sj_M g th)), ((g 1), .inl (kt, 480, .inl (fun _ => 0)))] ++ []) s.heap := hH
  refine lv_aload_n hx hb dX12_put_0 rfl (lv_at hl 0 rfl) ?_
  refine lv_iconst (v := 0) hx hb dX12_put_1 (by decide) ?_
  refine sj_put (D := D) (ci := 12) (v := .int 0) (ty := .int) (C := RX12) (F := TX12) (N := 86) hx hb hts in12 tyX12 tyX12_ok nmX12 hown hK hH hS 0 rfl rfl 0 (by decide) wd0 (fun _ h9 => h9) rfl (by decide +kernel) rfl rfl (Nat.le_of_ble_eq_true rfl) dX12_put_2 (fun H locs (hH : sj_H D A ([(h0, .inr (12, sj_M g 0)), ((g 1), .inl (kt, 480, .inl (fun _ => 0)))] ++ []) H) hS => ?_)
  refine lv_iload_n hx hb dX12_put_5 rfl (lv_at hl 2 rfl) ?_
  refine lv_iconst (v := 1) hx hb dX12_put_6 (by decide) ?_
  refine lv_icmp_lt (tgt := 28) hx hb dX12_put_7 (by decide) (fun c_1 => ?_) (fun c_1 => ?_)
  · skip
    have d_2 := sj_ltF (n := 1) (by decide) c_1
    refine lv_iconst (v := 0) hx hb dX12_put_28 (by decide) ?_
    exact sj_zret hx hb hr hlocks (by decide +kernel) hS () (Or.inr ⟨rfl, fun h => by have h1 := h.1; have h2 := h.2.1; omega⟩) sj_nil (sj_Knil hK) (Nat.le_of_ble_eq_true rfl) (Nat.le_of_ble_eq_true rfl) dX12_put_29
  · skip
    have d_3 := sj_nlt (n := 1) (by decide) c_1
    refine lv_iload_n hx hb dX12_put_10 rfl (lv_at hl 2 rfl) ?_
    refine lv_bipush (v := 8) hx hb dX12_put_11 (by decide) ?_
    refine lv_icmp_gt (tgt := 28) hx hb dX12_put_13 (by decide) (fun c_4 => ?_) (fun c_4 => ?_)
    · skip
      have d_5 := sj_gtF (n := 8) (by decide) c_4
      refine lv_iconst (v := 0) hx hb dX12_put_28 (by decide) ?_
      exact sj_zret hx hb hr hlocks (by decide +kernel) hS () (Or.inr ⟨rfl, fun h => by have h1 := h.1; have h2 := h.2.1; omega⟩) sj_nil (sj_Knil hK) (Nat.le_of_ble_eq_true rfl) (Nat.le_of_ble_eq_true rfl) dX12_put_29
    · skip
      have d_6 := sj_ngt (n := 8) (by decide) c_4
      obtain ⟨N, hN1, hN8, hnN⟩ : ∃ N : Nat, 1 ≤ N ∧ N ≤ 8 ∧ n = nI N := ⟨n.toInt.toNat, by omega, by omega, sj_nI (by omega) (by omega)⟩
      have hnT : n.toInt = (N : Int) := by rw [hnN, nI_toInt (by omega)]
      rw [hnN] at hl
      refine lv_aload_n hx hb dX12_put_16 rfl (lv_at hl 0 rfl) ?_
      refine va_get (D := D) (ci := 12) (v := .int 0) (C := RX12) (T := TX12) (N := 86) hx hb hts in12 hown hK hH.1 0 rfl rfl 2 (by decide) wd1 (fun _ h9 => h9) rfl dX12_put_17 ?_
      refine lv_iload_n hx hb dX12_put_20 rfl (lv_at hl 2 rfl) ?_
      refine lv_iadd hx hb dX12_put_21 ?_
      refine sj_i (y := (nI N)) ((by rw [← nI_0, nI_add, Nat.zero_add])) ?_
      refine lv_sipush (v := 480) hx hb dX12_put_22 (by decide) ?_
      refine lv_icmp_le (tgt := 30) hx hb dX12_put_25 (by decide) (fun _ => ?_) (fun h => absurd (nI_le (a := N) (b := 480) (by omega) (by decide)) h)
      refine lv_iconst (v := 0) hx hb dX12_put_30 (by decide) ?_
      refine lv_istore (lv' := [(4, .int 0), (0, .ref h0), (1, .long bytes), (3, .int (nI N))]) hx hb dX12_put_31 hl (by decide) rfl (fun ls hl => ?_)
      have after1 : (∀ i : Nat, i < N → sj_ok (sj_bm bytes (nI (8 * i)))) → ∀ ls : Array Slot, lv_has ls 6 [(0, .ref h0), (1, .long bytes), (3, .int (nI N))] → W p l e (headSpec wsX12_put ({ frames := 0, cells := 0, slots := 0, locals := 0 })).room s m ([.ref h0, .long bytes, .int n] : List Value).toArray below meth c H locs 0 0 (MQ below (sj_Qi (S := Unit) D (fun r _ => (r = 1 ∧ sj_P sj_bm bytes n) ∨ (r = 0 ∧ ¬ sj_P sj_bm bytes n)) (fun u => []) (fun u => []) A) ([.ref h0, .long bytes, .int n] : List Value).toArray s 0 0 A) (F0 m 82 ls []) := by
        intro hall ls hl
        refine lv_iload_n hx hb dX12_put_82 rfl (lv_at hl 2 rfl) ?_
        refine lv_iconst (v := 1) hx hb dX12_put_83 (by decide) ?_
        refine lv_isub hx hb dX12_put_84 ?_
        refine sj_i (y := (nI N - 1)) (rfl) ?_
        refine lv_istore (lv' := [(4, .int (nI N - 1)), (0, .ref h0), (1, .long bytes), (3, .int (nI N))]) hx hb dX12_put_85 hl (by decide) rfl (fun ls hl => ?_)
        have lp2 : ∀ (k a : Nat) (ft : Nat → Int32) (H : Heap) (locs : List Loc) (ls : Array Slot), a + k = N → lv_has ls 6 [(0, .ref h0), (1, .long bytes), (4, .int (nI k - 1))] → sj_H D A ([(h0, .inr (12, [.int 0, .ref (g 1), .int (nI a), .ref (g 3), .int 0, .ref (g 5), .int 0, .int 0, .int 0, .int 0, .int 0, .int 0, .ref (g 12), .int 0, .ref (g 14), .ref (g 15), .ref (g 16), .int 0, .int 0, .ref (g 19), .ref (g 20), .ref (g 21), .ref (g 22), .int 0, .ref (g 24), .ref (g 25), .int 0, .int 0, .ref (g 28), .ref (g 29), .ref (g 30), .ref (g 31), .ref (g 32), .int 0, .ref (g 34), .ref (g 35), .ref (g 36), .ref (g 37), .ref (g 38), .ref (g 39), .int 0, .int 0, .ref (g 42), .ref (g 43), .ref (g 44), .int 0, .ref (g 46), .ref (g 47), .ref (g 48), .int 0, .ref (g 50), .ref (g 51), .int 0, .ref (g 53), .int 0, .int 0, .ref (g 56), .int 0, .ref (g 58), .ref (g 59), .ref (g 60), .ref (g 61), .ref (g 62), .ref (g 63), .ref (g 64), .int 0, .int 0, .int 0, .ref (g 68), .ref (g 69), .ref (g 70), .ref (g 71), .ref (g 72), .ref (g 73), .int 0, .int 0, .int 0, .int 0, .int 0, .int 0, .int 0, .int 0, .ref (g 82), .ref (g 83), .ref (g 84), .ref (g 85)])), ((g 1), .inl (kt, 480, .inl ft))] ++ []) H → va_S A s.heap H locs → W p l e (headSpec wsX12_put ({ frames := 0, cells := 0, slots := 0, locals := 0 })).room s m ([.ref h0, .long bytes, .int n] : List Value).toArray below meth c H locs 0 0 (MQ below (sj_Qi (S := Unit) D (fun r _ => (r = 1 ∧ sj_P sj_bm bytes n) ∨ (r = 0 ∧ ¬ sj_P sj_bm bytes n)) (fun u => []) (fun u => []) A) ([.ref h0, .long bytes, .int n] : List Value).toArray s 0 0 A) (F0 m 87 ls []) := by
          intro k
          induction k with
          | zero =>
            intro a ft H locs ls ha hl hH hS
            refine lv_iload hx hb dX12_put_87 (lv_at hl 2 rfl) ?_
            refine lv_if_lt (tgt := 130) hx hb dX12_put_89 (by decide) (fun _ => ?_) (fun h => absurd (by decide) h)
            refine lv_iconst (v := 1) hx hb dX12_put_130 (by decide) ?_
            exact sj_zret hx hb hr hlocks (by decide +kernel) hS () (Or.inl ⟨rfl, by omega, by omega, fun i hi => hall i (by omega)⟩) sj_nil (sj_Knil hK) (Nat.le_of_ble_eq_true rfl) (Nat.le_of_ble_eq_true rfl) dX12_put_131
          | succ k ih =>
            intro a ft H locs ls ha hl hH hS
            rw [nI_pred k] at hl
            refine lv_iload hx hb dX12_put_87 (lv_at hl 2 rfl) ?_
            refine lv_if_lt (tgt := 130) hx hb dX12_put_89 (by decide) (fun h => absurd h (nI_pos (by omega))) (fun _ => ?_)
            refine lv_aload_n hx hb dX12_put_92 rfl (lv_at hl 0 rfl) ?_
            refine va_get (D := D) (ci := 12) (v := .ref (g 1)) (C := RX12) (T := TX12) (N := 86) hx hb hts in12 hown hK hH.1 0 rfl rfl 1 (by decide) wd2 (fun _ h9 => h9) rfl dX12_put_93 ?_
            refine lv_aload_n hx hb dX12_put_96 rfl (lv_at hl 0 rfl) ?_
            refine va_get (D := D) (ci := 12) (v := .int (nI a)) (C := RX12) (T := TX12) (N := 86) hx hb hts in12 hown hK hH.1 0 rfl rfl 2 (by decide) wd1 (fun _ h9 => h9) rfl dX12_put_97 ?_
            refine lv_lload_n hx hb dX12_put_100 rfl (lv_at hl 1 rfl) ?_
            refine lv_bipush (v := 8) hx hb dX12_put_101 (by decide) ?_
            refine lv_iload hx hb dX12_put_103 (lv_at hl 2 rfl) ?_
            refine lv_imul hx hb dX12_put_105 ?_
            refine sj_i (y := (nI (8 * k))) ((by rw [show (8 : Int32) = nI 8 from rfl, pk_mul])) ?_
            refine lv_lshr (v := (bytes >>> ((nI (8 * k)).toInt64 &&& 63))) hx hb dX12_put_106 rfl ?_
            refine lv_ldc2 hx hb hown wd3 dX12_put_107 ?_
            refine lv_land hx hb dX12_put_110 ?_
            refine lv_l2i (v := (((bytes >>> ((nI (8 * k)).toInt64 &&& 63)) &&& 255)).toInt32) hx hb dX12_put_111 rfl ?_
            refine lv_i2c (v := ((((((bytes >>> ((nI (8 * k)).toInt64 &&& 63)) &&& 255)).toInt32)).toUInt32 % 65536).toInt32) hx hb dX12_put_112 rfl ?_
            refine lv_topi (fun ch ech => ?_)
            refine sj_cast hx hb hK hH hS 1 0 rfl rfl (vp_in_nI (n := a) (by omega) (by decide)) dX12_put_113 (fun H locs hH hS => ?_)
            have hH : sj_H D A ([(h0, .inr (12, [.int 0, .ref (g 1), .int (nI a), .ref (g 3), .int 0, .ref (g 5), .int 0, .int 0, .int 0, .int 0, .int 0, .int 0, .ref (g 12), .int 0, .ref (g 14), .ref (g 15), .ref (g 16), .int 0, .int 0, .ref (g 19), .ref (g 20), .ref (g 21), .ref (g 22), .int 0, .ref (g 24), .ref (g 25), .int 0, .int 0, .ref (g 28), .ref (g 29), .ref (g 30), .ref (g 31), .ref (g 32), .int 0, .ref (g 34), .ref (g 35), .ref (g 36), .ref (g 37), .ref (g 38), .ref (g 39), .int 0, .int 0, .ref (g 42), .ref (g 43), .ref (g 44), .int 0, .ref (g 46), .ref (g 47), .ref (g 48), .int 0, .ref (g 50), .ref (g 51), .int 0, .ref (g 53), .int 0, .int 0, .ref (g 56), .int 0, .ref (g 58), .ref (g 59), .ref (g 60), .ref (g 61), .ref (g 62), .ref (g 63), .ref (g 64), .int 0, .int 0, .int 0, .ref (g 68), .ref (g 69), .ref (g 70), .ref (g 71), .ref (g 72), .ref (g 73), .int 0, .int 0, .int 0, .int 0, .int 0, .int 0, .int 0, .int 0, .ref (g 82), .ref (g 83), .ref (g 84), .ref (g 85)])), ((g 1), .inl (kt, 480, .inl (upd ft (nI a).toNatClampNeg (vp_nar .char ch))))] ++ []) H := hH
            refine lv_aload_n hx hb dX12_put_114 rfl (lv_at hl 0 rfl) ?_
            refine lv_dup hx hb dX12_put_115 rfl ?_
            refine va_get (D := D) (ci := 12) (v := .int (nI a)) (C := RX12) (T := TX12) (N := 86) hx hb hts in12 hown hK hH.1 0 rfl rfl 2 (by decide) wd1 (fun _ h9 => h9) rfl dX12_put_116 ?_
            refine lv_iconst (v := 1) hx hb dX12_put_119 (by decide) ?_
            refine lv_iadd hx hb dX12_put_120 ?_
            refine sj_i (y := (nI (a + 1))) (nI_1 a) ?_
            refine sj_put (D := D) (ci := 12) (v := .int (nI (a + 1))) (ty := .int) (C := RX12) (F := TX12) (N := 86) hx hb hts in12 tyX12 tyX12_ok nmX12 hown hK hH hS 0 rfl rfl 2 (by decide) wd1 (fun _ h9 => h9) rfl (by decide +kernel) rfl rfl (Nat.le_of_ble_eq_true rfl) dX12_put_121 (fun H locs (hH : sj_H D A ([(h0, .inr (12, [.int 0, .ref (g 1), .int (nI (a + 1)), .ref (g 3), .int 0, .ref (g 5), .int 0, .int 0, .int 0, .int 0, .int 0, .int 0, .ref (g 12), .int 0, .ref (g 14), .ref (g 15), .ref (g 16), .int 0, .int 0, .ref (g 19), .ref (g 20), .ref (g 21), .ref (g 22), .int 0, .ref (g 24), .ref (g 25), .int 0, .int 0, .ref (g 28), .ref (g 29), .ref (g 30), .ref (g 31), .ref (g 32), .int 0, .ref (g 34), .ref (g 35), .ref (g 36), .ref (g 37), .ref (g 38), .ref (g 39), .int 0, .int 0, .ref (g 42), .ref (g 43), .ref (g 44), .int 0, .ref (g 46), .ref (g 47), .ref (g 48), .int 0, .ref (g 50), .ref (g 51), .int 0, .ref (g 53), .int 0, .int 0, .ref (g 56), .int 0, .ref (g 58), .ref (g 59), .ref (g 60), .ref (g 61), .ref (g 62), .ref (g 63), .ref (g 64), .int 0, .int 0, .int 0, .ref (g 68), .ref (g 69), .ref (g 70), .ref (g 71), .ref (g 72), .ref (g 73), .int 0, .int 0, .int 0, .int 0, .int 0, .int 0, .int 0, .int 0, .ref (g 82), .ref (g 83), .ref (g 84), .ref (g 85)])), ((g 1), .inl (kt, 480, .inl (upd ft (nI a).toNatClampNeg (vp_nar .char ch))))] ++ []) H) hS => ?_)
            refine lv_iinc (v := (nI k - 1)) (lv' := [(4, .int (nI k - 1)), (0, .ref h0), (1, .long bytes)]) hx hb dX12_put_124 hl (k := 2) rfl (by rw [Int32.sub_eq_add_neg]; rfl) (by decide) rfl (fun ls hl => ?_)
            refine lv_goto (tgt := 87) hx hb dX12_put_127 (by decide) ?_
            exact ih (a + 1) _ H locs ls (by omega) (lv_sub hl [1, 2, 0] rfl) (sj_sub2 hH [0, 1] rfl rfl) hS
        exact lp2 N 0 _ _ _ ls (Nat.zero_add N) (lv_sub hl [1, 2, 0] rfl) hH hS
      have lp1 : ∀ (t j : Nat), j + t = N → (∀ i : Nat, i < j → sj_ok (sj_bm bytes (nI (8 * i)))) → ∀ ls : Array Slot, lv_has ls 6 [(0, .ref h0), (1, .long bytes), (3, .int (nI N)), (4, .int (nI j))] → W p l e (headSpec wsX12_put ({ frames := 0, cells := 0, slots := 0, locals := 0 })).room s m ([.ref h0, .long bytes, .int n] : List Value).toArray below meth c H locs 0 0 (MQ below (sj_Qi (S := Unit) D (fun r _ => (r = 1 ∧ sj_P sj_bm bytes n) ∨ (r = 0 ∧ ¬ sj_P sj_bm bytes n)) (fun u => []) (fun u => []) A) ([.ref h0, .long bytes, .int n] : List Value).toArray s 0 0 A) (F0 m 33 ls []) := by
        intro t
        induction t with
        | zero =>
          intro j hj hall ls hl
          obtain rfl : j = N := by omega
          refine lv_iload hx hb dX12_put_33 (lv_at hl 3 rfl) ?_
          refine lv_iload_n hx hb dX12_put_35 rfl (lv_at hl 2 rfl) ?_
          refine lv_icmp_ge (tgt := 82) hx hb dX12_put_36 (by decide) (fun _ => ?_) (fun h => absurd (nI_le (Nat.le_refl j) (by omega)) h)
          exact after1 hall ls (lv_sub hl [0, 1, 2] rfl)
        | succ t ih =>
          intro j hj hall ls hl
          have hjN : j < N := by omega
          refine lv_iload hx hb dX12_put_33 (lv_at hl 3 rfl) ?_
          refine lv_iload_n hx hb dX12_put_35 rfl (lv_at hl 2 rfl) ?_
          refine lv_icmp_ge (tgt := 82) hx hb dX12_put_36 (by decide) (fun h => absurd h (nI_ge hjN (by omega))) (fun _ => ?_)
          refine lv_lload_n hx hb dX12_put_39 rfl (lv_at hl 1 rfl) ?_
          refine lv_bipush (v := 8) hx hb dX12_put_40 (by decide) ?_
          refine lv_iload hx hb dX12_put_42 (lv_at hl 3 rfl) ?_
          refine lv_imul hx hb dX12_put_44 ?_
          refine sj_i (y := (nI (8 * j))) ((by rw [show (8 : Int32) = nI 8 from rfl, pk_mul])) ?_
          refine lv_lshr (v := (bytes >>> ((nI (8 * j)).toInt64 &&& 63))) hx hb dX12_put_45 rfl ?_
          refine lv_ldc2 hx hb hown wd3 dX12_put_46 ?_
          refine lv_land hx hb dX12_put_49 ?_
          refine lv_l2i (v := (((bytes >>> ((nI (8 * j)).toInt64 &&& 63)) &&& 255)).toInt32) hx hb dX12_put_50 rfl ?_
          refine sj_i (y := sj_bm bytes (nI (8 * j))) rfl ?_
          refine lv_istore (lv' := [(5, .int (sj_bm bytes (nI (8 * j)))), (0, .ref h0), (1, .long bytes), (3, .int (nI N)), (4, .int (nI j))]) hx hb dX12_put_51 hl (by decide) rfl (fun ls hl => ?_)
          have nx : sj_ok (sj_bm bytes (nI (8 * j))) → W p l e (headSpec wsX12_put ({ frames := 0, cells := 0, slots := 0, locals := 0 })).room s m ([.ref h0, .long bytes, .int n] : List Value).toArray below meth c H locs 0 0 (MQ below (sj_Qi (S := Unit) D (fun r _ => (r = 1 ∧ sj_P sj_bm bytes n) ∨ (r = 0 ∧ ¬ sj_P sj_bm bytes n)) (fun u => []) (fun u => []) A) ([.ref h0, .long bytes, .int n] : List Value).toArray s 0 0 A) (F0 m 76 ls []) := by
            intro hok
            refine lv_iinc (v := (nI (j + 1))) (lv' := [(4, .int (nI (j + 1))), (5, .int (sj_bm bytes (nI (8 * j)))), (0, .ref h0), (1, .long bytes), (3, .int (nI N))]) hx hb dX12_put_76 hl (k := 4) rfl (by rw [nI_succ]; rfl) (by decide) rfl (fun ls hl => ?_)
            refine lv_goto (tgt := 33) hx hb dX12_put_79 (by decide) ?_
            exact ih (j + 1) (by omega) (fun i hi => (Nat.lt_or_ge i j).elim (fun h => hall i h) (fun h => by rw [show i = j by omega]; exact hok)) ls (lv_sub hl [2, 3, 4, 0] rfl)
          refine lv_iload hx hb dX12_put_53 (lv_at hl 0 rfl) ?_
          refine lv_bipush (v := 10) hx hb dX12_put_55 (by decide) ?_
          refine lv_icmp_eq (tgt := 76) hx hb dX12_put_57 (by decide) (fun c_12 => ?_) (fun c_12 => ?_)
          · skip
            have d_13 := sj_eqF (n := 10) (by decide) c_12
            exact nx (by first | exact Or.inl (by assumption) | exact Or.inr ⟨by omega, by omega⟩)
          · skip
            have d_14 := sj_neF (n := 10) (by decide) c_12
            refine lv_iload hx hb dX12_put_60 (lv_at hl 0 rfl) ?_
            refine lv_bipush (v := 32) hx hb dX12_put_62 (by decide) ?_
            refine lv_icmp_lt (tgt := 74) hx hb dX12_put_64 (by decide) (fun c_15 => ?_) (fun c_15 => ?_)
            · skip
              have d_16 := sj_ltF (n := 32) (by decide) c_15
              refine lv_iconst (v := 0) hx hb dX12_put_74 (by decide) ?_
              exact sj_zret hx hb hr hlocks (by decide +kernel) hS () (Or.inr ⟨rfl, fun h => absurd (h.2.2 j (by omega)) (fun q => q.elim (fun e => by have e2 := sj_eqF (n := 10) (by decide) e; omega) (fun e => by omega))⟩) sj_nil (sj_Knil hK) (Nat.le_of_ble_eq_true rfl) (Nat.le_of_ble_eq_true rfl) dX12_put_75
            · skip
              have d_17 := sj_nlt (n := 32) (by decide) c_15
              refine lv_iload hx hb dX12_put_67 (lv_at hl 0 rfl) ?_
              refine lv_bipush (v := 126) hx hb dX12_put_69 (by decide) ?_
              refine lv_icmp_le (tgt := 76) hx hb dX12_put_71 (by decide) (fun c_18 => ?_) (fun c_18 => ?_)
              · skip
                have d_19 := sj_leF (n := 126) (by decide) c_18
                exact nx (by first | exact Or.inl (by assumption) | exact Or.inr ⟨by omega, by omega⟩)
              · skip
                have d_20 := sj_nle (n := 126) (by decide) c_18
                refine lv_iconst (v := 0) hx hb dX12_put_74 (by decide) ?_
                exact sj_zret hx hb hr hlocks (by decide +kernel) hS () (Or.inr ⟨rfl, fun h => absurd (h.2.2 j (by omega)) (fun q => q.elim (fun e => by have e2 := sj_eqF (n := 10) (by decide) e; omega) (fun e => by omega))⟩) sj_nil (sj_Knil hK) (Nat.le_of_ble_eq_true rfl) (Nat.le_of_ble_eq_true rfl) dX12_put_75
      exact lp1 N 0 (Nat.zero_add N) (fun i h => absurd h (Nat.not_lt_zero i)) ls (lv_sub hl [1, 2, 3, 0] rfl)
