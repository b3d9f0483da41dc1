theorem dX12_way_0 : decode cX12_way 0 = .ok (.iconst 0, 1) := by decide +kernel
theorem dX12_way_1 : decode cX12_way 1 = .ok (.istore_n 3, 1) := by decide +kernel
theorem dX12_way_2 : decode cX12_way 2 = .ok (.iload_n 3, 1) := by decide +kernel
theorem dX12_way_3 : decode cX12_way 3 = .ok (.bipush 62, 2) := by decide +kernel
theorem dX12_way_5 : decode cX12_way 5 = .ok (.if_icmp .ge 52, 3) := by decide +kernel
theorem dX12_way_57 : decode cX12_way 57 = .ok (.iconst (-1), 1) := by decide +kernel
theorem dX12_way_58 : decode cX12_way 58 = .ok (.ireturn, 1) := by decide +kernel
theorem dX12_way_8 : decode cX12_way 8 = .ok (.aload_n 0, 1) := by decide +kernel
theorem dX12_way_9 : decode cX12_way 9 = .ok (.iload_n 1, 1) := by decide +kernel
theorem dX12_way_10 : decode cX12_way 10 = .ok (.iload_n 2, 1) := by decide +kernel
theorem dX12_way_11 : decode cX12_way 11 = .ok (.iload_n 3, 1) := by decide +kernel
theorem dX12_way_12 : decode cX12_way 12 = .ok (.invokevirtual 337, 3) := by decide +kernel
theorem dX12_way_15 : decode cX12_way 15 = .ok (.istore 4, 2) := by decide +kernel
theorem dX12_way_17 : decode cX12_way 17 = .ok (.iload 4, 2) := by decide +kernel
theorem dX12_way_19 : decode cX12_way 19 = .ok (.bipush (-2), 2) := by decide +kernel
theorem dX12_way_21 : decode cX12_way 21 = .ok (.if_icmp .ne 5, 3) := by decide +kernel
theorem dX12_way_26 : decode cX12_way 26 = .ok (.iload 4, 2) := by decide +kernel
theorem dX12_way_28 : decode cX12_way 28 = .ok (.ifCond .lt 23, 3) := by decide +kernel
theorem dX12_way_51 : decode cX12_way 51 = .ok (.iinc 3 1, 3) := by decide +kernel
theorem dX12_way_54 : decode cX12_way 54 = .ok (.goto (-52), 3) := by decide +kernel
theorem dX12_way_31 : decode cX12_way 31 = .ok (.aload_n 0, 1) := by decide +kernel
theorem dX12_way_32 : decode cX12_way 32 = .ok (.getfield 341, 3) := by decide +kernel
theorem dX12_way_35 : decode cX12_way 35 = .ok (.iload_n 1, 1) := by decide +kernel
theorem dX12_way_36 : decode cX12_way 36 = .ok (.iconst 1, 1) := by decide +kernel
theorem dX12_way_37 : decode cX12_way 37 = .ok (.iadd, 1) := by decide +kernel
theorem dX12_way_38 : decode cX12_way 38 = .ok (.laload, 1) := by decide +kernel
theorem dX12_way_39 : decode cX12_way 39 = .ok (.iload 4, 2) := by decide +kernel
theorem dX12_way_41 : decode cX12_way 41 = .ok (.lshr, 1) := by decide +kernel
theorem dX12_way_42 : decode cX12_way 42 = .ok (.lconst 1, 1) := by decide +kernel
theorem dX12_way_43 : decode cX12_way 43 = .ok (.land, 1) := by decide +kernel
theorem dX12_way_44 : decode cX12_way 44 = .ok (.lconst 1, 1) := by decide +kernel
theorem dX12_way_45 : decode cX12_way 45 = .ok (.lcmp, 1) := by decide +kernel
theorem dX12_way_46 : decode cX12_way 46 = .ok (.ifCond .ne 5, 3) := by decide +kernel
theorem dX12_way_49 : decode cX12_way 49 = .ok (.iload_n 3, 1) := by decide +kernel
theorem dX12_way_50 : decode cX12_way 50 = .ok (.ireturn, 1) := by decide +kernel
theorem dX12_way_24 : decode cX12_way 24 = .ok (.iconst (-1), 1) := by decide +kernel
theorem dX12_way_25 : decode cX12_way 25 = .ok (.ireturn, 1) := by decide +kernel
theorem gw_X12_endOf : wsX12_endOf.all goodWord = true := by decide +kernel
theorem gX12_way_X12_endOf : GoodIn wsX12_way (wsV RX12 337 RX12 yX12_endOf wsX12_endOf) := goodIn_app (goodIn_sub (List.forall_mem_cons.mpr ⟨(List.mem_cons_of_mem _ (List.mem_append_left _ (List.mem_append_left _ lm1))), List.forall_mem_cons.mpr ⟨(List.mem_cons_of_mem _ (List.mem_append_left _ (List.mem_append_left _ lm2))), List.forall_mem_cons.mpr ⟨(List.mem_cons_of_mem _ (List.mem_append_left _ (List.mem_append_left _ lm3))), List.forall_mem_cons.mpr ⟨(List.mem_cons_of_mem _ (List.mem_append_left _ (List.mem_append_left _ lm4))), (fun _ h => absurd h List.not_mem_nil)⟩⟩⟩⟩) (by decide +kernel)) (goodIn_sub (by unfold wsX12_endOf; exact List.forall_mem_cons.mpr ⟨(List.mem_cons_of_mem _ (List.mem_append_left _ (List.mem_append_left _ lm5))), List.forall_mem_append.mpr ⟨List.forall_mem_append.mpr ⟨List.forall_mem_cons.mpr ⟨(List.mem_cons_of_mem _ (List.mem_append_left _ (List.mem_append_left _ lm6))), List.forall_mem_cons.mpr ⟨(List.mem_cons_of_mem _ (List.mem_append_left _ (List.mem_append_left _ lm7))), List.forall_mem_cons.mpr ⟨(List.mem_cons_of_mem _ (List.mem_append_left _ (List.mem_append_left _ lm8))), List.forall_mem_cons.mpr ⟨(List.mem_cons_of_mem _ (List.mem_append_left _ (List.mem_append_left _ lm9))), List.forall_mem_cons.mpr ⟨(List.mem_cons_of_mem _ (List.mem_append_left _ (List.mem_append_left _ lm10))), List.forall_mem_cons.mpr ⟨(List.mem_cons_of_mem _ (List.mem_append_left _ (List.mem_append_left _ lm11))), List.forall_mem_cons.mpr ⟨(List.mem_cons_of_mem _ (List.mem_append_left _ (List.mem_append_left _ lm12))), List.forall_mem_cons.mpr ⟨(List.mem_cons_of_mem _ (List.mem_append_left _ (List.mem_append_left _ lm4))), List.forall_mem_cons.mpr ⟨(List.mem_cons_of_mem _ (List.mem_append_left _ (List.mem_append_left _ lm13))), List.forall_mem_cons.mpr ⟨(List.mem_cons_of_mem _ (List.mem_append_left _ (List.mem_append_left _ lm14))), List.forall_mem_cons.mpr ⟨(List.mem_cons_of_mem _ (List.mem_append_left _ (List.mem_append_left _ lm15))), List.forall_mem_cons.mpr ⟨(List.mem_cons_of_mem _ (List.mem_append_left _ (List.mem_append_left _ lm16))), List.forall_mem_cons.mpr ⟨(List.mem_cons_of_mem _ (List.mem_append_left _ (List.mem_append_left _ lm17))), List.forall_mem_cons.mpr ⟨(List.mem_cons_of_mem _ (List.mem_append_left _ (List.mem_append_left _ lm18))), List.forall_mem_cons.mpr ⟨(List.mem_cons_of_mem _ (List.mem_append_left _ (List.mem_append_left _ lm19))), List.forall_mem_cons.mpr ⟨(List.mem_cons_of_mem _ (List.mem_append_left _ (List.mem_append_left _ lm20))), List.forall_mem_cons.mpr ⟨(List.mem_cons_of_mem _ (List.mem_append_left _ (List.mem_append_left _ lm21))), List.forall_mem_cons.mpr ⟨(List.mem_cons_of_mem _ (List.mem_append_left _ (List.mem_append_left _ lm22))), List.forall_mem_cons.mpr ⟨(List.mem_cons_of_mem _ (List.mem_append_left _ (List.mem_append_left _ lm23))), List.forall_mem_cons.mpr ⟨(List.mem_cons_of_mem _ (List.mem_append_left _ (List.mem_append_right _ lm0))), List.forall_mem_cons.mpr ⟨(List.mem_cons_of_mem _ (List.mem_append_left _ (List.mem_append_right _ lm1))), List.forall_mem_cons.mpr ⟨(List.mem_cons_of_mem _ (List.mem_append_left _ (List.mem_append_right _ lm2))), List.forall_mem_cons.mpr ⟨(List.mem_cons_of_mem _ (List.mem_append_left _ (List.mem_append_right _ lm3))), List.forall_mem_cons.mpr ⟨(List.mem_cons_of_mem _ (List.mem_append_left _ (List.mem_append_right _ lm4))), (fun _ h => absurd h List.not_mem_nil)⟩⟩⟩⟩⟩⟩⟩⟩⟩⟩⟩⟩⟩⟩⟩⟩⟩⟩⟩⟩⟩⟩⟩⟩, List.forall_mem_cons.mpr ⟨(List.mem_cons_of_mem _ (List.mem_append_left _ (List.mem_append_right _ lm5))), List.forall_mem_cons.mpr ⟨(List.mem_cons_of_mem _ (List.mem_append_left _ (List.mem_append_right _ lm6))), List.forall_mem_cons.mpr ⟨(List.mem_cons_of_mem _ (List.mem_append_left _ (List.mem_append_right _ lm7))), List.forall_mem_cons.mpr ⟨(List.mem_cons_of_mem _ (List.mem_append_left _ (List.mem_append_right _ lm8))), List.forall_mem_cons.mpr ⟨(List.mem_cons_of_mem _ (List.mem_append_left _ (List.mem_append_right _ lm9))), (fun _ h => absurd h List.not_mem_nil)⟩⟩⟩⟩⟩⟩, (fun _ h => (List.mem_cons_of_mem _ (List.mem_append_right _ h)))⟩⟩) gw_X12_endOf)
set_option maxHeartbeats 2000000 in
set_option maxRecDepth 100000 in
theorem m_way (l : Launch) (D : va_G) (g : Nat → Nat) (ka : Nat → ClassId) (ad : Nat → Nat) (i : Nat → Nat → Int32) (r : Nat → Nat → Nat) (L : Nat → Nat → Int64) (d : Nat → Nat → UInt64) (x : Int32) (y : Int32) (hO : OkI i) (hR : RS r) (sz : Nat) (hx0 : 0 ≤ x.toInt) (hxp : x.toInt < (i 36 45).toInt) (hp60 : (i 36 45).toInt ≤ 60) (hex : exI i) (hy0 : 0 ≤ y.toInt) (hy1 : y.toInt ≤ 60) : Met l yX12_way wsX12_way ({ frames := 4, cells := 0, slots := 0, locals := 94 }) (va_Pc [.ref (g 36), .int x, .int y] (sj_B D (hwc g ka i r L d) (hT ka) sz (gx ad (va_A (hwc g ka i r L d) sz)))) (sj_Qi (S := Unit) D (fun v u => ((-1 : Int) ≤ v.toInt ∧ v.toInt ≤ 61) ∧ ((0 ≤ v.toInt ∧ wyR i (ldB L (x.toInt + 1)) x.toInt y.toInt v.toInt) ∨ (v.toInt = -1 ∧ wnR i (ldB L (x.toInt + 1)) x.toInt y.toInt))) (fun _ => hwc g ka i r L d) (fun _ => []) (va_A (hwc g ka i r L d) sz)) 0 0 (va_A (hwc g ka i r L d) sz) := by
  refine x_met (Ex := gx ad) (cc := cX12_way) (maxL := 5) (ret := (some .int)) (by decide) rfl (Nat.le_of_ble_eq_true rfl) ?_
  intro p e s m below meth c A ls hx hb hr hml hts hown hlocks hA hS hH hK hE hl
  have hown : s.vm.findClass RX12 = some m.cls := hown
  have in12 : ∀ w ∈ wsX120, w ∈ wsX12_way := (fun _ h => (List.mem_cons_of_mem _ (List.mem_append_right _ h)))
  have wd0 := hts (.fieldLink RX12 341 "StoryDeskModel" "leads" "[J") (List.mem_cons_of_mem _ (List.mem_append_left _ (List.mem_append_left _ lm0)))
  have hl : lv_has ls 5 [(0, .ref (g 36)), (1, .int x), (2, .int y)] := hl
  have hK : va_K D vwCl (hT ka) s := hK
  have hb40 : (0 : Int) ≤ (i 36 40).toInt ∧ (i 36 40).toInt ≤ 60 := hO 36 40
  refine lv_iconst (v := 0) hx hb dX12_way_0 (by decide) ?_
  refine lv_istore_n (lv' := [(3, .int 0), (0, .ref (g 36)), (1, .int x), (2, .int y)]) hx hb dX12_way_1 rfl hl (by decide) rfl (fun ls hl => ?_)
  -- loop at 2
  have lp_1 : ∀ (fuel_lp_1 : Nat) (f : Int32) (H : Heap) (locs : List Loc) (ls : Array Slot), (62 - f.toInt).toNat < fuel_lp_1 → (0 : Int) ≤ f.toInt ∧ f.toInt ≤ 62 → 0 ≤ f.toInt → wlR i (ldB L (x.toInt + 1)) x.toInt y.toInt f.toInt → lv_has ls 5 [(3, .int f), (0, .ref (g 36)), (1, .int x), (2, .int y)] → sj_H D A (hwc g ka i r L d) H → va_S A s.heap H locs → W p l e (headSpec wsX12_way ({ frames := 4, cells := 0, slots := 0, locals := 94 })).room s m ([.ref (g 36), .int x, .int y] : List Value).toArray below meth c H locs 0 0 (MQ below (sj_Qi (S := Unit) D (fun v u => ((-1 : Int) ≤ v.toInt ∧ v.toInt ≤ 61) ∧ ((0 ≤ v.toInt ∧ wyR i (ldB L (x.toInt + 1)) x.toInt y.toInt v.toInt) ∨ (v.toInt = -1 ∧ wnR i (ldB L (x.toInt + 1)) x.toInt y.toInt))) (fun _ => hwc g ka i r L d) (fun _ => []) A) ([.ref (g 36), .int x, .int y] : List Value).toArray s 0 0 A) (F0 m 2 ls []) := by
    intro fuel_lp_1
    induction fuel_lp_1 with
    | zero => intros; omega
    | succ fuel_lp_1 ih_lp_1 =>
      intro f H locs ls hm hr_f hi_lp_1_0 hi_lp_1_1 hl hH hS
      refine lv_iload_n hx hb dX12_way_2 rfl (lv_at hl 0 rfl) ?_
      refine lv_bipush (v := 62) hx hb dX12_way_3 (by decide) ?_
      refine lv_icmp_ge (tgt := 57) hx hb dX12_way_5 (by decide) (fun c_2 => ?_) (fun c_2 => ?_)
      · skip
        have h_3 := s_le (show (62 : Int32).toInt = 62 from rfl) (rfl : f.toInt = _) c_2
        refine lv_iconst (v := (-1)) hx hb dX12_way_57 (by decide) ?_
        have hV_4 : (0 ≤ ((-1) : Int32).toInt ∧ wyR i (ldB L (x.toInt + 1)) x.toInt y.toInt ((-1) : Int32).toInt) ∨ (((-1) : Int32).toInt = -1 ∧ wnR i (ldB L (x.toInt + 1)) x.toInt y.toInt) := (Or.inr ⟨by rfl, f.toInt, by omega, hi_lp_1_1, Or.inl (by omega)⟩)
        exact sj_zret hx hb hr hlocks rfl hS () ⟨⟨by decide, by decide⟩, hV_4⟩ hH (sj_Knil hK) (Nat.le_of_ble_eq_true rfl) (Nat.le_of_ble_eq_true rfl) dX12_way_58
      · skip
        have h_5 := s_nle (show (62 : Int32).toInt = 62 from rfl) (rfl : f.toInt = _) c_2
        refine lv_aload_n hx hb dX12_way_8 rfl (lv_at hl 1 rfl) ?_
        refine lv_iload_n hx hb dX12_way_9 rfl (lv_at hl 2 rfl) ?_
        refine lv_iload_n hx hb dX12_way_10 rfl (lv_at hl 3 rfl) ?_
        refine lv_iload_n hx hb dX12_way_11 rfl (lv_at hl 0 rfl) ?_
        refine x_calli (va_runV (As := [.int x, .int y, .int f]) (rest := []) ⟨hx, hb, hml, hown, hts⟩ (m_endOf l D g ka ad i r L d x y f hO hR H.size (by first | omega | decide) (by first | omega | decide) (by first | omega | decide) (by first | omega | decide) (by first | omega | decide) (by first | omega | decide) (by first | omega | decide)) (cwV 3 hts gX12_way_X12_endOf rfl rfl rfl (by decide +kernel) ⟨(Nat.le_of_ble_eq_true rfl), (Nat.le_of_ble_eq_true rfl)⟩) (x_preV (q := (RX12, TX12, 86)) hH hK (q_obj (by decide) (rfl : kd 36 = 12) (by decide)) rfl gxb (gxw hE hS (x_F hH hS hA))) rfl rfl hl.1 rfl (lv_room (Nat.le_of_ble_eq_true rfl)) dX12_way_12 ⟨(Nat.le_of_ble_eq_true rfl), (Nat.le_of_ble_eq_true rfl)⟩) hH hS hA rfl rfl (fun r_6 _ H locs hw_7 hH hS => ?_)
        obtain ⟨hr_9, hx2_10⟩ := hw_7
        have hr_9 : (-2 : Int) ≤ r_6.toInt ∧ r_6.toInt ≤ 61 := hr_9
        refine lv_istore (lv' := [(4, .int r_6), (3, .int f), (0, .ref (g 36)), (1, .int x), (2, .int y)]) hx hb dX12_way_15 hl (by decide) rfl (fun ls hl => ?_)
        refine lv_iload hx hb dX12_way_17 (lv_at hl 0 rfl) ?_
        refine lv_bipush (v := (-2)) hx hb dX12_way_19 (by decide) ?_
        refine lv_icmp_ne (tgt := 26) hx hb dX12_way_21 (by decide) (fun c_11 => ?_) (fun c_11 => ?_)
        · skip
          have h_12 := s_ne (rfl : r_6.toInt = _) (show ((-2) : Int32).toInt = (-2) from rfl) c_11
          refine lv_iload hx hb dX12_way_26 (lv_at hl 0 rfl) ?_
          refine lv_if_lt (tgt := 51) hx hb dX12_way_28 (by decide) (fun c_13 => ?_) (fun c_13 => ?_)
          · skip
            have h_14 := s_lt (rfl : r_6.toInt = _) (show (0 : Int32).toInt = 0 from rfl) c_13
            obtain ⟨z_15, ez_15, hz_15⟩ := s_add (rfl : f.toInt = _) (show (1 : Int32).toInt = 1 from rfl) (by omega) (by omega)
            refine lv_iinc (v := z_15) (lv' := [(3, .int z_15), (4, .int r_6), (0, .ref (g 36)), (1, .int x), (2, .int y)]) hx hb dX12_way_51 hl (k := 1) rfl ez_15 (by decide) rfl (fun ls hl => ?_)
            refine lv_goto (tgt := 2) hx hb dX12_way_54 (by decide) ?_
            exact ih_lp_1 z_15 _ _ ls (by omega) (by omega) (by omega) (wlR_s hi_lp_1_1 (by omega) hx2_10 (by omega) (fun q9 => by have := q9.1; omega)) (lv_sub hl [0, 2, 3, 4] rfl) hH hS
          · skip
            have h_16 := s_nlt (rfl : r_6.toInt = _) (show (0 : Int32).toInt = 0 from rfl) c_13
            refine lv_aload_n hx hb dX12_way_31 rfl (lv_at hl 2 rfl) ?_
            refine h_getr (ci := 12) (C := RX12) (F := TX12) (N := 86) hx hb hts in12 hown hK hH (by decide) (rfl : kd 36 = 12) (by decide) rfl 56 (by decide) wd0 (fun _ h9 => h9) (by decide) rfl (t := 412) (hR 36 56 rfl) (by decide) dX12_way_32 ?_
            refine lv_iload_n hx hb dX12_way_35 rfl (lv_at hl 3 rfl) ?_
            refine lv_iconst (v := 1) hx hb dX12_way_36 (by decide) ?_
            refine lv_iadd hx hb dX12_way_37 ?_
            obtain ⟨z_17, ez_17, hz_17⟩ := s_add (rfl : x.toInt = _) (show (1 : Int32).toInt = 1 from rfl) (by omega) (by omega)
            refine sj_i ez_17 ?_
            refine h_lald hx hb hK hH (by decide) (rfl : kd 412 = 16) (s_vin (N := 64) (rfl : z_17.toInt = _) (rfl : ln 412 = 64) (by omega) (by omega)) dX12_way_38 ?_
            refine lv_topl (fun z_18 ez_18 => ?_)
            refine lv_iload hx hb dX12_way_39 (lv_at hl 0 rfl) ?_
            refine lv_lshr hx hb dX12_way_41 rfl ?_
            refine lv_topl (fun z_19 ez_19 => ?_)
            refine lv_lconst (v := 1) hx hb dX12_way_42 (by decide) ?_
            refine lv_land hx hb dX12_way_43 ?_
            refine lv_topl (fun z_20 ez_20 => ?_)
            refine lv_lconst (v := 1) hx hb dX12_way_44 (by decide) ?_
            refine sj_lcmp hx hb dX12_way_45 ?_
            refine lv_topi (fun z_21 ez_21 => ?_)
            have hlc := lc_1 ez_21
            have hbt := bit_test (e := r_6.toInt.toNat) (by omega) (by omega) ez_19 ez_20
            rw [ez_18, show z_17.toNatClampNeg = (x.toInt + 1).toNat from s_cl (show z_17.toInt = x.toInt + 1 by omega)] at hbt
            have hB : (z_21.toInt = 0 ∧ (ldB L (x.toInt + 1)) r_6.toInt) ∨ (z_21.toInt = -1 ∧ ¬ (ldB L (x.toInt + 1)) r_6.toInt) := hbt.elim (fun q9 => Or.inl ⟨hlc.1 q9.1, q9.2⟩) (fun q9 => Or.inr ⟨hlc.2 q9.1, q9.2⟩)
            refine lv_if_ne (tgt := 51) hx hb dX12_way_46 (by decide) (fun c_22 => ?_) (fun c_22 => ?_)
            · skip
              have h_23 := s_ne (rfl : z_21.toInt = _) (show (0 : Int32).toInt = 0 from rfl) c_22
              obtain ⟨z_24, ez_24, hz_24⟩ := s_add (rfl : f.toInt = _) (show (1 : Int32).toInt = 1 from rfl) (by omega) (by omega)
              refine lv_iinc (v := z_24) (lv' := [(3, .int z_24), (4, .int r_6), (0, .ref (g 36)), (1, .int x), (2, .int y)]) hx hb dX12_way_51 hl (k := 1) rfl ez_24 (by decide) rfl (fun ls hl => ?_)
              refine lv_goto (tgt := 2) hx hb dX12_way_54 (by decide) ?_
              exact ih_lp_1 z_24 _ _ ls (by omega) (by omega) (by omega) (wlR_s hi_lp_1_1 (by omega) hx2_10 (by omega) (fun q9 => hB.elim (fun q8 => by have := q8.1; omega) (fun q8 => q8.2 q9.2))) (lv_sub hl [0, 2, 3, 4] rfl) hH hS
            · skip
              have h_25 := s_eq (rfl : z_21.toInt = _) (show (0 : Int32).toInt = 0 from rfl) c_22
              refine lv_iload_n hx hb dX12_way_49 rfl (lv_at hl 1 rfl) ?_
              have hV_26 : (0 ≤ (f : Int32).toInt ∧ wyR i (ldB L (x.toInt + 1)) x.toInt y.toInt (f : Int32).toInt) ∨ ((f : Int32).toInt = -1 ∧ wnR i (ldB L (x.toInt + 1)) x.toInt y.toInt) := (Or.inl ⟨by omega, by omega, ⟨r_6.toInt, hx2_10, by omega, (hB.resolve_right (fun q9 => by have := q9.1; omega)).2⟩, hi_lp_1_1⟩)
              exact sj_zret hx hb hr hlocks rfl hS () ⟨⟨by omega, by omega⟩, hV_26⟩ hH (sj_Knil hK) (Nat.le_of_ble_eq_true rfl) (Nat.le_of_ble_eq_true rfl) dX12_way_50
        · skip
          have h_27 := s_eq (rfl : r_6.toInt = _) (show ((-2) : Int32).toInt = (-2) from rfl) c_11
          refine lv_iconst (v := (-1)) hx hb dX12_way_24 (by decide) ?_
          have hV_28 : (0 ≤ ((-1) : Int32).toInt ∧ wyR i (ldB L (x.toInt + 1)) x.toInt y.toInt ((-1) : Int32).toInt) ∨ (((-1) : Int32).toInt = -1 ∧ wnR i (ldB L (x.toInt + 1)) x.toInt y.toInt) := (Or.inr ⟨by rfl, f.toInt, by omega, hi_lp_1_1, Or.inr (by rw [show (-2 : Int) = r_6.toInt by omega]; exact hx2_10)⟩)
          exact sj_zret hx hb hr hlocks rfl hS () ⟨⟨by decide, by decide⟩, hV_28⟩ hH (sj_Knil hK) (Nat.le_of_ble_eq_true rfl) (Nat.le_of_ble_eq_true rfl) dX12_way_25
  have hl_29 : (0 : Int32).toInt = 0 := rfl
  exact lp_1 _ 0 _ _ ls (Nat.lt_succ_self _) (by omega) (by omega) (fun a h0 h1 => by exfalso; have : (0 : Int32).toInt = 0 := rfl; omega) (lv_sub hl [0, 1, 2, 3] rfl) hH hS
