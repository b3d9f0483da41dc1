theorem dX12_put_0 : decode cX12_put 0 = .ok (.aload_n 0, 1) := by decide +kernel
theorem dX12_put_1 : decode cX12_put 1 = .ok (.iconst 0, 1) := by decide +kernel
theorem dX12_put_2 : decode cX12_put 2 = .ok (.putfield 1, 3) := by decide +kernel
theorem dX12_put_5 : decode cX12_put 5 = .ok (.iload_n 3, 1) := by decide +kernel
theorem dX12_put_6 : decode cX12_put 6 = .ok (.iconst 1, 1) := by decide +kernel
theorem dX12_put_7 : decode cX12_put 7 = .ok (.if_icmp .lt 21, 3) := by decide +kernel
theorem dX12_put_28 : decode cX12_put 28 = .ok (.iconst 0, 1) := by decide +kernel
theorem dX12_put_29 : decode cX12_put 29 = .ok (.ireturn, 1) := by decide +kernel
theorem dX12_put_10 : decode cX12_put 10 = .ok (.iload_n 3, 1) := by decide +kernel
theorem dX12_put_11 : decode cX12_put 11 = .ok (.bipush 8, 2) := by decide +kernel
theorem dX12_put_13 : decode cX12_put 13 = .ok (.if_icmp .gt 15, 3) := by decide +kernel
theorem dX12_put_16 : decode cX12_put 16 = .ok (.aload_n 0, 1) := by decide +kernel
theorem dX12_put_17 : decode cX12_put 17 = .ok (.getfield 7, 3) := by decide +kernel
theorem dX12_put_20 : decode cX12_put 20 = .ok (.iload_n 3, 1) := by decide +kernel
theorem dX12_put_21 : decode cX12_put 21 = .ok (.iadd, 1) := by decide +kernel
theorem dX12_put_22 : decode cX12_put 22 = .ok (.sipush 480, 3) := by decide +kernel
theorem dX12_put_25 : decode cX12_put 25 = .ok (.if_icmp .le 5, 3) := by decide +kernel
theorem dX12_put_30 : decode cX12_put 30 = .ok (.iconst 0, 1) := by decide +kernel
theorem dX12_put_31 : decode cX12_put 31 = .ok (.istore 4, 2) := by decide +kernel
theorem dX12_put_33 : decode cX12_put 33 = .ok (.iload 4, 2) := by decide +kernel
theorem dX12_put_35 : decode cX12_put 35 = .ok (.iload_n 3, 1) := by decide +kernel
theorem dX12_put_36 : decode cX12_put 36 = .ok (.if_icmp .ge 46, 3) := by decide +kernel
theorem dX12_put_82 : decode cX12_put 82 = .ok (.iload_n 3, 1) := by decide +kernel
theorem dX12_put_83 : decode cX12_put 83 = .ok (.iconst 1, 1) := by decide +kernel
theorem dX12_put_84 : decode cX12_put 84 = .ok (.isub, 1) := by decide +kernel
theorem dX12_put_85 : decode cX12_put 85 = .ok (.istore 4, 2) := by decide +kernel
theorem dX12_put_87 : decode cX12_put 87 = .ok (.iload 4, 2) := by decide +kernel
theorem dX12_put_89 : decode cX12_put 89 = .ok (.ifCond .lt 41, 3) := by decide +kernel
theorem dX12_put_130 : decode cX12_put 130 = .ok (.iconst 1, 1) := by decide +kernel
theorem dX12_put_131 : decode cX12_put 131 = .ok (.ireturn, 1) := by decide +kernel
theorem dX12_put_92 : decode cX12_put 92 = .ok (.aload_n 0, 1) := by decide +kernel
theorem dX12_put_93 : decode cX12_put 93 = .ok (.getfield 12, 3) := by decide +kernel
theorem dX12_put_96 : decode cX12_put 96 = .ok (.aload_n 0, 1) := by decide +kernel
theorem dX12_put_97 : decode cX12_put 97 = .ok (.getfield 7, 3) := by decide +kernel
theorem dX12_put_100 : decode cX12_put 100 = .ok (.lload_n 1, 1) := by decide +kernel
theorem dX12_put_101 : decode cX12_put 101 = .ok (.bipush 8, 2) := by decide +kernel
theorem dX12_put_103 : decode cX12_put 103 = .ok (.iload 4, 2) := by decide +kernel
theorem dX12_put_105 : decode cX12_put 105 = .ok (.imul, 1) := by decide +kernel
theorem dX12_put_106 : decode cX12_put 106 = .ok (.lshr, 1) := by decide +kernel
theorem dX12_put_107 : decode cX12_put 107 = .ok (.ldc2_w 10, 3) := by decide +kernel
theorem dX12_put_110 : decode cX12_put 110 = .ok (.land, 1) := by decide +kernel
theorem dX12_put_111 : decode cX12_put 111 = .ok (.l2i, 1) := by decide +kernel
theorem dX12_put_112 : decode cX12_put 112 = .ok (.i2c, 1) := by decide +kernel
theorem dX12_put_113 : decode cX12_put 113 = .ok (.castore, 1) := by decide +kernel
theorem dX12_put_114 : decode cX12_put 114 = .ok (.aload_n 0, 1) := by decide +kernel
theorem dX12_put_115 : decode cX12_put 115 = .ok (.dup, 1) := by decide +kernel
theorem dX12_put_116 : decode cX12_put 116 = .ok (.getfield 7, 3) := by decide +kernel
theorem dX12_put_119 : decode cX12_put 119 = .ok (.iconst 1, 1) := by decide +kernel
theorem dX12_put_120 : decode cX12_put 120 = .ok (.iadd, 1) := by decide +kernel
theorem dX12_put_121 : decode cX12_put 121 = .ok (.putfield 7, 3) := by decide +kernel
theorem dX12_put_124 : decode cX12_put 124 = .ok (.iinc 4 (-1), 3) := by decide +kernel
theorem dX12_put_127 : decode cX12_put 127 = .ok (.goto (-40), 3) := by decide +kernel
theorem dX12_put_39 : decode cX12_put 39 = .ok (.lload_n 1, 1) := by decide +kernel
theorem dX12_put_40 : decode cX12_put 40 = .ok (.bipush 8, 2) := by decide +kernel
theorem dX12_put_42 : decode cX12_put 42 = .ok (.iload 4, 2) := by decide +kernel
theorem dX12_put_44 : decode cX12_put 44 = .ok (.imul, 1) := by decide +kernel
theorem dX12_put_45 : decode cX12_put 45 = .ok (.lshr, 1) := by decide +kernel
theorem dX12_put_46 : decode cX12_put 46 = .ok (.ldc2_w 10, 3) := by decide +kernel
theorem dX12_put_49 : decode cX12_put 49 = .ok (.land, 1) := by decide +kernel
theorem dX12_put_50 : decode cX12_put 50 = .ok (.l2i, 1) := by decide +kernel
theorem dX12_put_51 : decode cX12_put 51 = .ok (.istore 5, 2) := by decide +kernel
theorem dX12_put_53 : decode cX12_put 53 = .ok (.iload 5, 2) := by decide +kernel
theorem dX12_put_55 : decode cX12_put 55 = .ok (.bipush 10, 2) := by decide +kernel
theorem dX12_put_57 : decode cX12_put 57 = .ok (.if_icmp .eq 19, 3) := by decide +kernel
theorem dX12_put_76 : decode cX12_put 76 = .ok (.iinc 4 1, 3) := by decide +kernel
theorem dX12_put_79 : decode cX12_put 79 = .ok (.goto (-46), 3) := by decide +kernel
theorem dX12_put_60 : decode cX12_put 60 = .ok (.iload 5, 2) := by decide +kernel
theorem dX12_put_62 : decode cX12_put 62 = .ok (.bipush 32, 2) := by decide +kernel
theorem dX12_put_64 : decode cX12_put 64 = .ok (.if_icmp .lt 10, 3) := by decide +kernel
theorem dX12_put_74 : decode cX12_put 74 = .ok (.iconst 0, 1) := by decide +kernel
theorem dX12_put_75 : decode cX12_put 75 = .ok (.ireturn, 1) := by decide +kernel
theorem dX12_put_67 : decode cX12_put 67 = .ok (.iload 5, 2) := by decide +kernel
theorem dX12_put_69 : decode cX12_put 69 = .ok (.bipush 126, 2) := by decide +kernel
theorem dX12_put_71 : decode cX12_put 71 = .ok (.if_icmp .le 5, 3) := by decide +kernel
set_option maxHeartbeats 2000000 in
set_option maxRecDepth 100000 in
theorem m_put (l : Launch) (D : va_G) (g : Nat → Nat) (ka : Nat → ClassId) (ad : Nat → Nat) (i : Nat → Nat → Int32) (r : Nat → Nat → Nat) (L : Nat → Nat → Int64) (d : Nat → Nat → UInt64) (b : Int64) (x : Int32) (hO : OkI i) (hR : RS r) (sz : Nat)  : Met l yX12_put wsX12_put ({ frames := 0, cells := 0, slots := 0, locals := 0 }) (va_Pc [.ref (g 36), .long b, .int x] (sj_B D (hwc g ka i r L d) (hT ka) sz (gx ad (va_A (hwc g ka i r L d) sz)))) (sj_Qi (S := (Nat → Nat → Int32)) D (fun v u => OkI u ∧ (∀ a b, ¬ ((a = 36 ∧ (b = 0 ∨ b = 2)) ∨ a = 379) → u a b = i a b) ∧ ((0 : Int) ≤ v.toInt ∧ v.toInt ≤ 1) ∧ ((v.toInt = 1 ∧ putOK (btC b) x.toInt (i 36 2).toInt ∧ (u 36 2).toInt = (i 36 2).toInt + x.toInt ∧ (∀ k : Nat, (k : Int) < (i 36 2).toInt → u 379 k = i 379 k) ∧ (∀ k : Nat, (k : Int) < x.toInt → (u 379 ((i 36 2).toInt.toNat + k)).toInt = (btC b (x.toInt.toNat - 1 - k)).toInt)) ∨ (v.toInt = 0 ∧ ¬ putOK (btC b) x.toInt (i 36 2).toInt ∧ (u 36 2).toInt = (i 36 2).toInt ∧ u 379 = i 379))) (fun u => hwc g ka u r L d) (fun _ => []) (va_A (hwc g ka i r L d) sz)) 0 0 (va_A (hwc g ka i r L d) sz) := by
  refine x_met (Ex := gx ad) (cc := cX12_put) (maxL := 6) (ret := (some .boolean)) (by decide) rfl (Nat.le_of_ble_eq_true rfl) ?_
  intro p e s m below meth c A ls hx hb hr hml hts hown hlocks hA hS hH hK hE hl
  have hown : s.vm.findClass RX12 = some m.cls := hown
  have in12 : ∀ w ∈ wsX120, w ∈ wsX12_put := (fun _ h => (List.mem_cons_of_mem _ (List.mem_append_right _ h)))
  have wd0 := hts (.fieldLink RX12 1 "StoryDeskModel" "thrown" "I") (List.mem_cons_of_mem _ (List.mem_append_left _ lm0))
  have wd1 := hts (.fieldLink RX12 7 "StoryDeskModel" "size" "I") (List.mem_cons_of_mem _ (List.mem_append_left _ lm1))
  have wd2 := hts (.fieldLink RX12 12 "StoryDeskModel" "text" "[C") (List.mem_cons_of_mem _ (List.mem_append_left _ lm3))
  have wd3 := hts (.constantLong RX12 10 (255)) (List.mem_cons_of_mem _ (List.mem_append_left _ lm2))
  have hl : lv_has ls 6 [(0, .ref (g 36)), (1, .long b), (3, .int x)] := hl
  have hK : va_K D vwCl (hT ka) s := hK
  have hg_1 := s_rng x
  refine lv_aload_n hx hb dX12_put_0 rfl (lv_at hl 0 rfl) ?_
  refine lv_iconst (v := 0) hx hb dX12_put_1 (by decide) ?_
  have hO_2 := okp hO (n := 36) (k := 0) (v := 0) (show (0 : Int) ≤ (0 : Int32).toInt ∧ (0 : Int32).toInt ≤ 3 from ⟨by decide, by decide⟩)
  refine h_puti (ty := .int) (ci := 12) (C := RX12) (F := TX12) (N := 86) hx hb hts in12 tyX12 tyX12_ok nmX12 hown hK hH hS (by decide) (rfl : kd 36 = 12) (by decide) rfl 0 (by decide) wd0 (fun _ h9 => h9) rfl (by decide +kernel) rfl rfl (by decide) rfl dX12_put_2 (fun H locs hH hS => ?_)
  refine lv_iload_n hx hb dX12_put_5 rfl (lv_at hl 2 rfl) ?_
  refine lv_iconst (v := 1) hx hb dX12_put_6 (by decide) ?_
  refine lv_icmp_lt (tgt := 28) hx hb dX12_put_7 (by decide) (fun c_3 => ?_) (fun c_3 => ?_)
  · skip
    have h_4 := s_lt (rfl : x.toInt = _) (show (1 : Int32).toInt = 1 from rfl) c_3
    refine lv_iconst (v := 0) hx hb dX12_put_28 (by decide) ?_
    have hw_5 : ((up2 i 36 0 0) 36 2).toInt = ((i 36 2) : Int32).toInt := congrArg Int32.toInt ((up2_k _ _ (by decide)))
    exact sj_zret hx hb hr hlocks (by decide +kernel) hS (up2 i 36 0 0) ⟨hO_2, (fun a b ha => (up2_o _ _ (by omega))), ⟨by decide, by decide⟩, (Or.inr ⟨rfl, fun q => by unfold putOK at q; omega, by omega, (up2_n _ _ (by decide))⟩)⟩ hH (sj_Knil hK) (Nat.le_of_ble_eq_true rfl) (Nat.le_of_ble_eq_true rfl) dX12_put_29
  · skip
    have h_6 := s_nlt (rfl : x.toInt = _) (show (1 : Int32).toInt = 1 from rfl) c_3
    refine lv_iload_n hx hb dX12_put_10 rfl (lv_at hl 2 rfl) ?_
    refine lv_bipush (v := 8) hx hb dX12_put_11 (by decide) ?_
    refine lv_icmp_gt (tgt := 28) hx hb dX12_put_13 (by decide) (fun c_7 => ?_) (fun c_7 => ?_)
    · skip
      have h_8 := s_lt (show (8 : Int32).toInt = 8 from rfl) (rfl : x.toInt = _) c_7
      refine lv_iconst (v := 0) hx hb dX12_put_28 (by decide) ?_
      have hw_9 : ((up2 i 36 0 0) 36 2).toInt = ((i 36 2) : Int32).toInt := congrArg Int32.toInt ((up2_k _ _ (by decide)))
      exact sj_zret hx hb hr hlocks (by decide +kernel) hS (up2 i 36 0 0) ⟨hO_2, (fun a b ha => (up2_o _ _ (by omega))), ⟨by decide, by decide⟩, (Or.inr ⟨rfl, fun q => by unfold putOK at q; omega, by omega, (up2_n _ _ (by decide))⟩)⟩ hH (sj_Knil hK) (Nat.le_of_ble_eq_true rfl) (Nat.le_of_ble_eq_true rfl) dX12_put_29
    · skip
      have h_10 := s_nlt (show (8 : Int32).toInt = 8 from rfl) (rfl : x.toInt = _) c_7
      refine lv_aload_n hx hb dX12_put_16 rfl (lv_at hl 0 rfl) ?_
      have bx_11 : (0 : Int) ≤ (i 36 2).toInt ∧ (i 36 2).toInt ≤ 480 := hO 36 2
      refine h_geti (ci := 12) (C := RX12) (F := TX12) (N := 86) hx hb hts in12 hown hK hH (by decide) (rfl : kd 36 = 12) (by decide) rfl 2 (by decide) wd1 (fun _ h9 => h9) (by decide) rfl dX12_put_17 ?_
      refine sj_i (y := (i 36 2)) (up2_k _ _ (by decide)) ?_
      refine lv_iload_n hx hb dX12_put_20 rfl (lv_at hl 2 rfl) ?_
      refine lv_iadd hx hb dX12_put_21 ?_
      obtain ⟨z_12, ez_12, hz_12⟩ := s_add (rfl : (i 36 2).toInt = _) (rfl : x.toInt = _) (by omega) (by omega)
      refine sj_i ez_12 ?_
      refine lv_sipush (v := 480) hx hb dX12_put_22 (by decide) ?_
      refine lv_icmp_le (tgt := 30) hx hb dX12_put_25 (by decide) (fun c_13 => ?_) (fun c_13 => ?_)
      · skip
        have h_14 := s_le (rfl : z_12.toInt = _) (show (480 : Int32).toInt = 480 from rfl) c_13
        refine lv_iconst (v := 0) hx hb dX12_put_30 (by decide) ?_
        refine lv_istore (lv' := [(4, .int 0), (0, .ref (g 36)), (1, .long b), (3, .int x)]) hx hb dX12_put_31 hl (by decide) rfl (fun ls hl => ?_)
        -- loop at 33
        have lp_15 : ∀ (fuel_lp_15 : Nat) (f : Int32) (H : Heap) (locs : List Loc) (ls : Array Slot), (8 - f.toInt).toNat < fuel_lp_15 → (0 : Int) ≤ f.toInt ∧ f.toInt ≤ 8 → f.toInt ≤ x.toInt → (∀ k : Nat, (k : Int) < f.toInt → okB (btC b k).toInt) → lv_has ls 6 [(4, .int f), (0, .ref (g 36)), (1, .long b), (3, .int x)] → sj_H D A (hwc g ka (up2 i 36 0 0) r L d) H → va_S A s.heap H locs → W p l e (headSpec wsX12_put ({ frames := 0, cells := 0, slots := 0, locals := 0 })).room s m ([.ref (g 36), .long b, .int x] : List Value).toArray below meth c H locs 0 0 (MQ below (sj_Qi (S := (Nat → Nat → Int32)) D (fun v u => OkI u ∧ (∀ a b, ¬ ((a = 36 ∧ (b = 0 ∨ b = 2)) ∨ a = 379) → u a b = i a b) ∧ ((0 : Int) ≤ v.toInt ∧ v.toInt ≤ 1) ∧ ((v.toInt = 1 ∧ putOK (btC b) x.toInt (i 36 2).toInt ∧ (u 36 2).toInt = (i 36 2).toInt + x.toInt ∧ (∀ k : Nat, (k : Int) < (i 36 2).toInt → u 379 k = i 379 k) ∧ (∀ k : Nat, (k : Int) < x.toInt → (u 379 ((i 36 2).toInt.toNat + k)).toInt = (btC b (x.toInt.toNat - 1 - k)).toInt)) ∨ (v.toInt = 0 ∧ ¬ putOK (btC b) x.toInt (i 36 2).toInt ∧ (u 36 2).toInt = (i 36 2).toInt ∧ u 379 = i 379))) (fun u => hwc g ka u r L d) (fun _ => []) A) ([.ref (g 36), .long b, .int x] : List Value).toArray s 0 0 A) (F0 m 33 ls []) := by
          intro fuel_lp_15
          induction fuel_lp_15 with
          | zero => intros; omega
          | succ fuel_lp_15 ih_lp_15 =>
            intro f H locs ls hm hr_f hi_lp_15_0 hi_lp_15_1 hl hH hS
            refine lv_iload hx hb dX12_put_33 (lv_at hl 0 rfl) ?_
            refine lv_iload_n hx hb dX12_put_35 rfl (lv_at hl 3 rfl) ?_
            refine lv_icmp_ge (tgt := 82) hx hb dX12_put_36 (by decide) (fun c_16 => ?_) (fun c_16 => ?_)
            · skip
              have h_17 := s_le (rfl : x.toInt = _) (rfl : f.toInt = _) c_16
              refine lv_iload_n hx hb dX12_put_82 rfl (lv_at hl 3 rfl) ?_
              refine lv_iconst (v := 1) hx hb dX12_put_83 (by decide) ?_
              refine lv_isub hx hb dX12_put_84 ?_
              obtain ⟨z_18, ez_18, hz_18⟩ := s_sub (rfl : x.toInt = _) (show (1 : Int32).toInt = 1 from rfl) (by omega) (by omega)
              refine sj_i ez_18 ?_
              refine lv_istore (lv' := [(4, .int z_18), (0, .ref (g 36)), (1, .long b), (3, .int x)]) hx hb dX12_put_85 hl (by decide) rfl (fun ls hl => ?_)
              -- loop at 87
              have lp_19 : ∀ (fuel_lp_19 : Nat) (f : Int32) (j1 : Nat → Nat → Int32) (H : Heap) (locs : List Loc) (ls : Array Slot), (f.toInt + 1).toNat < fuel_lp_19 → (-1 : Int) ≤ f.toInt ∧ f.toInt ≤ 7 → (j1 36 2).toInt = (i 36 2).toInt + (x.toInt - 1 - f.toInt) ∧ f.toInt < x.toInt → (∀ k : Nat, (k : Int) < (i 36 2).toInt → j1 379 k = i 379 k) → (∀ k : Nat, (k : Int) < x.toInt - 1 - f.toInt → (j1 379 ((i 36 2).toInt.toNat + k)).toInt = (btC b (x.toInt.toNat - 1 - k)).toInt) → OkI j1 → (∀ a b, ¬ ((a = 36 ∧ (b = 0 ∨ b = 2)) ∨ a = 379) → j1 a b = (up2 i 36 0 0) a b) → lv_has ls 6 [(4, .int f), (0, .ref (g 36)), (1, .long b), (3, .int x)] → sj_H D A (hwc g ka j1 r L d) H → va_S A s.heap H locs → W p l e (headSpec wsX12_put ({ frames := 0, cells := 0, slots := 0, locals := 0 })).room s m ([.ref (g 36), .long b, .int x] : List Value).toArray below meth c H locs 0 0 (MQ below (sj_Qi (S := (Nat → Nat → Int32)) D (fun v u => OkI u ∧ (∀ a b, ¬ ((a = 36 ∧ (b = 0 ∨ b = 2)) ∨ a = 379) → u a b = i a b) ∧ ((0 : Int) ≤ v.toInt ∧ v.toInt ≤ 1) ∧ ((v.toInt = 1 ∧ putOK (btC b) x.toInt (i 36 2).toInt ∧ (u 36 2).toInt = (i 36 2).toInt + x.toInt ∧ (∀ k : Nat, (k : Int) < (i 36 2).toInt → u 379 k = i 379 k) ∧ (∀ k : Nat, (k : Int) < x.toInt → (u 379 ((i 36 2).toInt.toNat + k)).toInt = (btC b (x.toInt.toNat - 1 - k)).toInt)) ∨ (v.toInt = 0 ∧ ¬ putOK (btC b) x.toInt (i 36 2).toInt ∧ (u 36 2).toInt = (i 36 2).toInt ∧ u 379 = i 379))) (fun u => hwc g ka u r L d) (fun _ => []) A) ([.ref (g 36), .long b, .int x] : List Value).toArray s 0 0 A) (F0 m 87 ls []) := by
                intro fuel_lp_19
                induction fuel_lp_19 with
                | zero => intros; omega
                | succ fuel_lp_19 ih_lp_19 =>
                  intro f j1 H locs ls hm hr_f hi_lp_19_0 hi_lp_19_1 hi_lp_19_2 hO_j1 hfr_j1 hl hH hS
                  refine lv_iload hx hb dX12_put_87 (lv_at hl 0 rfl) ?_
                  refine lv_if_lt (tgt := 130) hx hb dX12_put_89 (by decide) (fun c_20 => ?_) (fun c_20 => ?_)
                  · skip
                    have h_21 := s_lt (rfl : f.toInt = _) (show (0 : Int32).toInt = 0 from rfl) c_20
                    refine lv_iconst (v := 1) hx hb dX12_put_130 (by decide) ?_
                    have hw_22 : (j1 36 2).toInt = ((j1 36 2) : Int32).toInt := congrArg Int32.toInt (rfl)
                    exact sj_zret hx hb hr hlocks (by decide +kernel) hS j1 ⟨hO_j1, (fun a b ha => ((hfr_j1 a b (by omega)).trans (up2_o _ _ (by omega)))), ⟨by decide, by decide⟩, (Or.inl ⟨rfl, ⟨by omega, by omega, by omega, fun k hk => hi_lp_15_1 k (by omega)⟩, by omega, hi_lp_19_1, fun k hk => hi_lp_19_2 k (by omega)⟩)⟩ hH (sj_Knil hK) (Nat.le_of_ble_eq_true rfl) (Nat.le_of_ble_eq_true rfl) dX12_put_131
                  · skip
                    have h_23 := s_nlt (rfl : f.toInt = _) (show (0 : Int32).toInt = 0 from rfl) c_20
                    refine lv_aload_n hx hb dX12_put_92 rfl (lv_at hl 1 rfl) ?_
                    refine h_getr (ci := 12) (C := RX12) (F := TX12) (N := 86) hx hb hts in12 hown hK hH (by decide) (rfl : kd 36 = 12) (by decide) rfl 1 (by decide) wd2 (fun _ h9 => h9) (by decide) rfl (t := 379) (hR 36 1 rfl) (by decide) dX12_put_93 ?_
                    refine lv_aload_n hx hb dX12_put_96 rfl (lv_at hl 1 rfl) ?_
                    have bx_24 : (0 : Int) ≤ (j1 36 2).toInt ∧ (j1 36 2).toInt ≤ 480 := hO_j1 36 2
                    refine h_geti (ci := 12) (C := RX12) (F := TX12) (N := 86) hx hb hts in12 hown hK hH (by decide) (rfl : kd 36 = 12) (by decide) rfl 2 (by decide) wd1 (fun _ h9 => h9) (by decide) rfl dX12_put_97 ?_
                    refine lv_lload_n hx hb dX12_put_100 rfl (lv_at hl 2 rfl) ?_
                    refine lv_bipush (v := 8) hx hb dX12_put_101 (by decide) ?_
                    refine lv_iload hx hb dX12_put_103 (lv_at hl 0 rfl) ?_
                    refine lv_imul hx hb dX12_put_105 ?_
                    obtain ⟨z_25, ez_25, hz_25⟩ := s_mul (show (8 : Int32).toInt = 8 from rfl) (rfl : f.toInt = _) (by omega) (by omega)
                    refine sj_i ez_25 ?_
                    refine lv_lshr hx hb dX12_put_106 rfl ?_
                    refine lv_topl (fun z_26 ez_26 => ?_)
                    refine lv_ldc2 hx hb hown wd3 dX12_put_107 ?_
                    refine lv_land hx hb dX12_put_110 ?_
                    refine lv_topl (fun z_27 ez_27 => ?_)
                    refine lv_l2i hx hb dX12_put_111 rfl ?_
                    refine lv_topi (fun z_28 ez_28 => ?_)
                    have hbt : z_28 = btC b f.toInt.toNat := btm_eq (by omega) (by omega) ez_26 ez_27 ez_28
                    have hbi := congrArg Int32.toInt hbt
                    have hbr := btC_rng b f.toInt.toNat
                    refine lv_i2c hx hb dX12_put_112 rfl ?_
                    refine lv_topi (fun z_29 ez_29 => ?_)
                    have hz_29 := congrArg Int32.toInt (s_i2cE ez_29 (by omega) (by omega))
                    obtain ⟨z_30, ez_30⟩ : ∃ z, vp_nar .char z_29 = z := ⟨_, rfl⟩
                    have hz_30 : z_30.toInt = z_29.toInt := by rw [← ez_30, s_narc (rfl : z_29.toInt = _) (by omega) (by omega)] <;> exact (rfl : z_29.toInt = _)
                    have hO_31 := okp hO_j1 (n := 379) (k := ((j1 36 2).toInt).toNat) (v := z_30) (show (0 : Int) ≤ (z_30 : Int32).toInt ∧ (z_30 : Int32).toInt ≤ 65535 from ⟨by omega, by omega⟩)
                    refine h_cast hx hb hK hH hS (by decide) (rfl : kd 379 = 14) (s_vin (N := 480) (rfl : (j1 36 2).toInt = _) (rfl : ln 379 = 480) (by omega) (by omega)) dX12_put_113 (fun H locs hH hS => ?_)
                    rw [ez_30] at hH
                    rw [s_cl (show (j1 36 2).toInt = (j1 36 2).toInt by omega)] at hH
                    refine lv_aload_n hx hb dX12_put_114 rfl (lv_at hl 1 rfl) ?_
                    refine lv_dup hx hb dX12_put_115 rfl ?_
                    refine h_geti (ci := 12) (C := RX12) (F := TX12) (N := 86) hx hb hts in12 hown hK hH (by decide) (rfl : kd 36 = 12) (by decide) rfl 2 (by decide) wd1 (fun _ h9 => h9) (by decide) rfl dX12_put_116 ?_
                    refine sj_i (y := (j1 36 2)) (congrFun (up2_n _ _ (by decide)) _) ?_
                    refine lv_iconst (v := 1) hx hb dX12_put_119 (by decide) ?_
                    refine lv_iadd hx hb dX12_put_120 ?_
                    obtain ⟨z_32, ez_32, hz_32⟩ := s_add (rfl : (j1 36 2).toInt = _) (show (1 : Int32).toInt = 1 from rfl) (by omega) (by omega)
                    refine sj_i ez_32 ?_
                    have hO_33 := okp hO_31 (n := 36) (k := 2) (v := z_32) (show (0 : Int) ≤ (z_32 : Int32).toInt ∧ (z_32 : Int32).toInt ≤ 480 from ⟨by omega, by omega⟩)
                    refine h_puti (ty := .int) (ci := 12) (C := RX12) (F := TX12) (N := 86) hx hb hts in12 tyX12 tyX12_ok nmX12 hown hK hH hS (by decide) (rfl : kd 36 = 12) (by decide) rfl 2 (by decide) wd1 (fun _ h9 => h9) rfl (by decide +kernel) rfl rfl (by decide) rfl dX12_put_121 (fun H locs hH hS => ?_)
                    obtain ⟨z_34, ez_34, hz_34⟩ := s_add (rfl : f.toInt = _) (show ((-1) : Int32).toInt = (-1) from rfl) (by omega) (by omega)
                    refine lv_iinc (v := z_34) (lv' := [(4, .int z_34), (0, .ref (g 36)), (1, .long b), (3, .int x)]) hx hb dX12_put_124 hl (k := 0) rfl ez_34 (by decide) rfl (fun ls hl => ?_)
                    refine lv_goto (tgt := 87) hx hb dX12_put_127 (by decide) ?_
                    have hw_35 : ((up2 (up2 j1 379 ((j1 36 2).toInt).toNat z_30) 36 2 z_32) 36 2).toInt = (z_32 : Int32).toInt := congrArg Int32.toInt ((up2_at _ _ _ _))
                    have hw_36 : ((up2 (up2 j1 379 ((j1 36 2).toInt).toNat z_30) 36 2 z_32) 36 2).toInt = (z_32 : Int32).toInt := congrArg Int32.toInt ((up2_at _ _ _ _))
                    exact ih_lp_19 z_34 _ _ _ ls (by omega) (by omega) (by omega) (fun k hk => ((congrFun (up2_n _ _ (by decide)) _).trans (up2_k _ _ (by omega))).trans (hi_lp_19_1 k hk)) (fun k hk => by
          by_cases q : (k : Int) < x.toInt - 1 - f.toInt
          · rw [show (up2 (up2 j1 379 ((j1 36 2).toInt).toNat z_30) 36 2 z_32) 379 ((i 36 2).toInt.toNat + k) = j1 379 ((i 36 2).toInt.toNat + k) from (congrFun (up2_n _ _ (by decide)) _).trans (up2_k _ _ (by omega))]; exact hi_lp_19_2 k q
          · rw [show (i 36 2).toInt.toNat + k = ((j1 36 2).toInt).toNat by omega, show (up2 (up2 j1 379 ((j1 36 2).toInt).toNat z_30) 36 2 z_32) 379 ((j1 36 2).toInt).toNat = z_30 from (congrFun (up2_n _ _ (by decide)) _).trans (up2_at _ _ _ _), show x.toInt.toNat - 1 - k = f.toInt.toNat by omega, ← hbi]; omega) hO_33 (fun a b ha => ((up2_o _ _ (by omega)).trans ((up2_o _ _ (by omega)).trans (hfr_j1 a b (by omega))))) (lv_sub hl [0, 1, 2, 3] rfl) hH hS
              have hw_37 : ((up2 i 36 0 0) 36 2).toInt = ((i 36 2) : Int32).toInt := congrArg Int32.toInt ((up2_k _ _ (by decide)))
              have hw_38 : ((up2 i 36 0 0) 36 2).toInt = ((i 36 2) : Int32).toInt := congrArg Int32.toInt ((up2_k _ _ (by decide)))
              exact lp_19 _ z_18 _ _ _ ls (Nat.lt_succ_self _) (by omega) (by omega) (fun k hk => congrFun (up2_n _ _ (by decide)) _) (fun k hk => by exfalso; omega) hO_2 (fun a b ha => rfl) (lv_sub hl [0, 1, 2, 3] rfl) hH hS
            · skip
              have h_39 := s_nle (rfl : x.toInt = _) (rfl : f.toInt = _) c_16
              refine lv_lload_n hx hb dX12_put_39 rfl (lv_at hl 2 rfl) ?_
              refine lv_bipush (v := 8) hx hb dX12_put_40 (by decide) ?_
              refine lv_iload hx hb dX12_put_42 (lv_at hl 0 rfl) ?_
              refine lv_imul hx hb dX12_put_44 ?_
              obtain ⟨z_40, ez_40, hz_40⟩ := s_mul (show (8 : Int32).toInt = 8 from rfl) (rfl : f.toInt = _) (by omega) (by omega)
              refine sj_i ez_40 ?_
              refine lv_lshr hx hb dX12_put_45 rfl ?_
              refine lv_topl (fun z_41 ez_41 => ?_)
              refine lv_ldc2 hx hb hown wd3 dX12_put_46 ?_
              refine lv_land hx hb dX12_put_49 ?_
              refine lv_topl (fun z_42 ez_42 => ?_)
              refine lv_l2i hx hb dX12_put_50 rfl ?_
              refine lv_topi (fun z_43 ez_43 => ?_)
              refine lv_istore (lv' := [(5, .int z_43), (4, .int f), (0, .ref (g 36)), (1, .long b), (3, .int x)]) hx hb dX12_put_51 hl (by decide) rfl (fun ls hl => ?_)
              refine lv_iload hx hb dX12_put_53 (lv_at hl 0 rfl) ?_
              refine lv_bipush (v := 10) hx hb dX12_put_55 (by decide) ?_
              refine lv_icmp_eq (tgt := 76) hx hb dX12_put_57 (by decide) (fun c_44 => ?_) (fun c_44 => ?_)
              · skip
                have h_45 := s_eq (rfl : z_43.toInt = _) (show (10 : Int32).toInt = 10 from rfl) c_44
                obtain ⟨z_46, ez_46, hz_46⟩ := s_add (rfl : f.toInt = _) (show (1 : Int32).toInt = 1 from rfl) (by omega) (by omega)
                refine lv_iinc (v := z_46) (lv' := [(4, .int z_46), (5, .int z_43), (0, .ref (g 36)), (1, .long b), (3, .int x)]) hx hb dX12_put_76 hl (k := 1) rfl ez_46 (by decide) rfl (fun ls hl => ?_)
                refine lv_goto (tgt := 33) hx hb dX12_put_79 (by decide) ?_
                have hw_47 : ((up2 i 36 0 0) 36 2).toInt = ((i 36 2) : Int32).toInt := congrArg Int32.toInt ((up2_k _ _ (by decide)))
                have hw_48 : ((up2 i 36 0 0) 36 2).toInt = ((i 36 2) : Int32).toInt := congrArg Int32.toInt ((up2_k _ _ (by decide)))
                have hbt : z_43 = btC b f.toInt.toNat := btm_eq (by omega) (by omega) ez_41 ez_42 ez_43
                have hbi := congrArg Int32.toInt hbt
                have hbr := btC_rng b f.toInt.toNat
                exact ih_lp_15 z_46 _ _ ls (by omega) (by omega) (by omega) (fun k hk => by
          by_cases q : (k : Int) < f.toInt
          · exact hi_lp_15_1 k q
          · rw [show k = f.toInt.toNat by omega, ← hbi]; unfold okB; omega) (lv_sub hl [0, 2, 3, 4] rfl) hH hS
              · skip
                have h_49 := s_ne (rfl : z_43.toInt = _) (show (10 : Int32).toInt = 10 from rfl) c_44
                refine lv_iload hx hb dX12_put_60 (lv_at hl 0 rfl) ?_
                refine lv_bipush (v := 32) hx hb dX12_put_62 (by decide) ?_
                refine lv_icmp_lt (tgt := 74) hx hb dX12_put_64 (by decide) (fun c_50 => ?_) (fun c_50 => ?_)
                · skip
                  have h_51 := s_lt (rfl : z_43.toInt = _) (show (32 : Int32).toInt = 32 from rfl) c_50
                  refine lv_iconst (v := 0) hx hb dX12_put_74 (by decide) ?_
                  have hw_52 : ((up2 i 36 0 0) 36 2).toInt = ((i 36 2) : Int32).toInt := congrArg Int32.toInt ((up2_k _ _ (by decide)))
                  have hbt : z_43 = btC b f.toInt.toNat := btm_eq (by omega) (by omega) ez_41 ez_42 ez_43
                  have hbi := congrArg Int32.toInt hbt
                  have hbr := btC_rng b f.toInt.toNat
                  exact sj_zret hx hb hr hlocks (by decide +kernel) hS (up2 i 36 0 0) ⟨hO_2, (fun a b ha => (up2_o _ _ (by omega))), ⟨by decide, by decide⟩, (Or.inr ⟨rfl, fun q => by have h9 := q.2.2.2 f.toInt.toNat (by omega); rw [← hbi] at h9; unfold okB at h9; omega, by omega, (up2_n _ _ (by decide))⟩)⟩ hH (sj_Knil hK) (Nat.le_of_ble_eq_true rfl) (Nat.le_of_ble_eq_true rfl) dX12_put_75
                · skip
                  have h_53 := s_nlt (rfl : z_43.toInt = _) (show (32 : Int32).toInt = 32 from rfl) c_50
                  refine lv_iload hx hb dX12_put_67 (lv_at hl 0 rfl) ?_
                  refine lv_bipush (v := 126) hx hb dX12_put_69 (by decide) ?_
                  refine lv_icmp_le (tgt := 76) hx hb dX12_put_71 (by decide) (fun c_54 => ?_) (fun c_54 => ?_)
                  · skip
                    have h_55 := s_le (rfl : z_43.toInt = _) (show (126 : Int32).toInt = 126 from rfl) c_54
                    obtain ⟨z_56, ez_56, hz_56⟩ := s_add (rfl : f.toInt = _) (show (1 : Int32).toInt = 1 from rfl) (by omega) (by omega)
                    refine lv_iinc (v := z_56) (lv' := [(4, .int z_56), (5, .int z_43), (0, .ref (g 36)), (1, .long b), (3, .int x)]) hx hb dX12_put_76 hl (k := 1) rfl ez_56 (by decide) rfl (fun ls hl => ?_)
                    refine lv_goto (tgt := 33) hx hb dX12_put_79 (by decide) ?_
                    have hw_57 : ((up2 i 36 0 0) 36 2).toInt = ((i 36 2) : Int32).toInt := congrArg Int32.toInt ((up2_k _ _ (by decide)))
                    have hw_58 : ((up2 i 36 0 0) 36 2).toInt = ((i 36 2) : Int32).toInt := congrArg Int32.toInt ((up2_k _ _ (by decide)))
                    have hbt : z_43 = btC b f.toInt.toNat := btm_eq (by omega) (by omega) ez_41 ez_42 ez_43
                    have hbi := congrArg Int32.toInt hbt
                    have hbr := btC_rng b f.toInt.toNat
                    exact ih_lp_15 z_56 _ _ ls (by omega) (by omega) (by omega) (fun k hk => by
          by_cases q : (k : Int) < f.toInt
          · exact hi_lp_15_1 k q
          · rw [show k = f.toInt.toNat by omega, ← hbi]; unfold okB; omega) (lv_sub hl [0, 2, 3, 4] rfl) hH hS
                  · skip
                    have h_59 := s_nle (rfl : z_43.toInt = _) (show (126 : Int32).toInt = 126 from rfl) c_54
                    refine lv_iconst (v := 0) hx hb dX12_put_74 (by decide) ?_
                    have hw_60 : ((up2 i 36 0 0) 36 2).toInt = ((i 36 2) : Int32).toInt := congrArg Int32.toInt ((up2_k _ _ (by decide)))
                    have hbt : z_43 = btC b f.toInt.toNat := btm_eq (by omega) (by omega) ez_41 ez_42 ez_43
                    have hbi := congrArg Int32.toInt hbt
                    have hbr := btC_rng b f.toInt.toNat
                    exact sj_zret hx hb hr hlocks (by decide +kernel) hS (up2 i 36 0 0) ⟨hO_2, (fun a b ha => (up2_o _ _ (by omega))), ⟨by decide, by decide⟩, (Or.inr ⟨rfl, fun q => by have h9 := q.2.2.2 f.toInt.toNat (by omega); rw [← hbi] at h9; unfold okB at h9; omega, by omega, (up2_n _ _ (by decide))⟩)⟩ hH (sj_Knil hK) (Nat.le_of_ble_eq_true rfl) (Nat.le_of_ble_eq_true rfl) dX12_put_75
        have hl_61 : (0 : Int32).toInt = 0 := rfl
        have hw_62 : ((up2 i 36 0 0) 36 2).toInt = ((i 36 2) : Int32).toInt := congrArg Int32.toInt ((up2_k _ _ (by decide)))
        have hw_63 : ((up2 i 36 0 0) 36 2).toInt = ((i 36 2) : Int32).toInt := congrArg Int32.toInt ((up2_k _ _ (by decide)))
        exact lp_15 _ 0 _ _ ls (Nat.lt_succ_self _) (by omega) (by omega) (fun k hk => by exfalso; have : (0 : Int32).toInt = 0 := rfl; omega) (lv_sub hl [0, 1, 2, 3] rfl) hH hS
      · skip
        have h_64 := s_nle (rfl : z_12.toInt = _) (show (480 : Int32).toInt = 480 from rfl) c_13
        refine lv_iconst (v := 0) hx hb dX12_put_28 (by decide) ?_
        have hw_65 : ((up2 i 36 0 0) 36 2).toInt = ((i 36 2) : Int32).toInt := congrArg Int32.toInt ((up2_k _ _ (by decide)))
        exact sj_zret hx hb hr hlocks (by decide +kernel) hS (up2 i 36 0 0) ⟨hO_2, (fun a b ha => (up2_o _ _ (by omega))), ⟨by decide, by decide⟩, (Or.inr ⟨rfl, fun q => by unfold putOK at q; omega, by omega, (up2_n _ _ (by decide))⟩)⟩ hH (sj_Knil hK) (Nat.le_of_ble_eq_true rfl) (Nat.le_of_ble_eq_true rfl) dX12_put_29
