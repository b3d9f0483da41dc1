/-- only one worker's place changes -/
def rwO (n : Nat) (i u : Nat → Nat → Int32) (x : Nat) : Prop := ∀ k : Nat, k ≠ x → u n k = i n k
theorem dX12_went_0 : decode cX12_went 0 = .ok (.aload_n 0, 1) := by decide +kernel
theorem dX12_went_1 : decode cX12_went 1 = .ok (.iload_n 2, 1) := by decide +kernel
theorem dX12_went_2 : decode cX12_went 2 = .ok (.aload_n 0, 1) := by decide +kernel
theorem dX12_went_3 : decode cX12_went 3 = .ok (.getfield 492, 3) := by decide +kernel
theorem dX12_went_6 : decode cX12_went 6 = .ok (.iload_n 1, 1) := by decide +kernel
theorem dX12_went_7 : decode cX12_went 7 = .ok (.iaload, 1) := by decide +kernel
theorem dX12_went_8 : decode cX12_went 8 = .ok (.iload_n 3, 1) := by decide +kernel
theorem dX12_went_9 : decode cX12_went 9 = .ok (.iload 4, 2) := by decide +kernel
theorem dX12_went_11 : decode cX12_went 11 = .ok (.invokevirtual 513, 3) := by decide +kernel
theorem dX12_went_14 : decode cX12_went 14 = .ok (.aload_n 0, 1) := by decide +kernel
theorem dX12_went_15 : decode cX12_went 15 = .ok (.getfield 498, 3) := by decide +kernel
theorem dX12_went_18 : decode cX12_went 18 = .ok (.iload_n 1, 1) := by decide +kernel
theorem dX12_went_19 : decode cX12_went 19 = .ok (.iload 4, 2) := by decide +kernel
theorem dX12_went_21 : decode cX12_went 21 = .ok (.aload_n 0, 1) := by decide +kernel
theorem dX12_went_22 : decode cX12_went 22 = .ok (.getfield 498, 3) := by decide +kernel
theorem dX12_went_25 : decode cX12_went 25 = .ok (.iload_n 1, 1) := by decide +kernel
theorem dX12_went_26 : decode cX12_went 26 = .ok (.iaload, 1) := by decide +kernel
theorem dX12_went_27 : decode cX12_went 27 = .ok (.if_icmp .le 8, 3) := by decide +kernel
theorem dX12_went_35 : decode cX12_went 35 = .ok (.aload_n 0, 1) := by decide +kernel
theorem dX12_went_36 : decode cX12_went 36 = .ok (.getfield 498, 3) := by decide +kernel
theorem dX12_went_39 : decode cX12_went 39 = .ok (.iload_n 1, 1) := by decide +kernel
theorem dX12_went_40 : decode cX12_went 40 = .ok (.iaload, 1) := by decide +kernel
theorem dX12_went_41 : decode cX12_went 41 = .ok (.iastore, 1) := by decide +kernel
theorem dX12_went_42 : decode cX12_went 42 = .ok (.aload_n 0, 1) := by decide +kernel
theorem dX12_went_43 : decode cX12_went 43 = .ok (.getfield 495, 3) := by decide +kernel
theorem dX12_went_46 : decode cX12_went 46 = .ok (.iload_n 1, 1) := by decide +kernel
theorem dX12_went_47 : decode cX12_went 47 = .ok (.dup2, 1) := by decide +kernel
theorem dX12_went_48 : decode cX12_went 48 = .ok (.iaload, 1) := by decide +kernel
theorem dX12_went_49 : decode cX12_went 49 = .ok (.iconst 1, 1) := by decide +kernel
theorem dX12_went_50 : decode cX12_went 50 = .ok (.iadd, 1) := by decide +kernel
theorem dX12_went_51 : decode cX12_went 51 = .ok (.iastore, 1) := by decide +kernel
theorem dX12_went_52 : decode cX12_went 52 = .ok (.return_, 1) := by decide +kernel
theorem dX12_went_30 : decode cX12_went 30 = .ok (.iload 4, 2) := by decide +kernel
theorem dX12_went_32 : decode cX12_went 32 = .ok (.goto 9, 3) := by decide +kernel
theorem gX12_went_X12_tell : GoodIn wsX12_went (wsV RX12 513 RX12 yX12_tell wsX12_tell) := goodIn_app (goodIn_sub (List.forall_mem_cons.mpr ⟨(List.mem_cons_of_mem _ (List.mem_append_left _ lm3)), List.forall_mem_cons.mpr ⟨(List.mem_cons_of_mem _ (List.mem_append_left _ lm4)), List.forall_mem_cons.mpr ⟨(List.mem_cons_of_mem _ (List.mem_append_left _ lm5)), List.forall_mem_cons.mpr ⟨(List.mem_cons_of_mem _ (List.mem_append_left _ lm6)), (fun _ h => absurd h List.not_mem_nil)⟩⟩⟩⟩) (by decide +kernel)) (goodIn_sub (by unfold wsX12_tell; exact List.forall_mem_cons.mpr ⟨(List.mem_cons_of_mem _ (List.mem_append_left _ lm7)), List.forall_mem_append.mpr ⟨List.forall_mem_cons.mpr ⟨(List.mem_cons_of_mem _ (List.mem_append_left _ lm8)), List.forall_mem_cons.mpr ⟨(List.mem_cons_of_mem _ (List.mem_append_left _ lm9)), (fun _ h => absurd h List.not_mem_nil)⟩⟩, (fun _ h => (List.mem_cons_of_mem _ (List.mem_append_right _ h)))⟩⟩) gw_X12_tell)
set_option maxHeartbeats 2000000 in
set_option maxRecDepth 100000 in
theorem m_went (l : Launch) (D : va_G) (g : Nat → Nat) (ka : Nat → ClassId) (ad : Nat → Nat) (i : Nat → Nat → Int32) (r : Nat → Nat → Nat) (L : Nat → Nat → Int64) (d : Nat → Nat → UInt64) (x : Int32) (y : Int32) (z : Int32) (v4 : Int32) (hO : OkI i) (hR : RS r) (sz : Nat) (hx0 : 0 ≤ x.toInt) (hx1 : x.toInt ≤ 2) (hv0 : 0 ≤ v4.toInt) (hv1 : v4.toInt ≤ 5) (hn7 : (i 428 x.toInt.toNat).toInt ≤ 107) (hev : (i 36 81).toInt ≤ 2000000000) : Met l yX12_went wsX12_went ({ frames := 1, cells := 0, slots := 0, locals := 25 }) (va_Pc [.ref (g 36), .int x, .int y, .int z, .int v4] (sj_B D (hwc g ka i r L d) (hT ka) sz (gx ad (va_A (hwc g ka i r L d) sz)))) (sj_Qv (S := (Nat → Nat → Int32)) D (fun u => OkI u ∧ (∀ a b, ¬ ((a = 36 ∧ (b = 81)) ∨ a = 426 ∨ a = 428 ∨ a = 429) → u a b = i a b) ∧ (rwO 428 i u x.toInt.toNat) ∧ (rwO 429 i u x.toInt.toNat) ∧ ((u 428 x.toInt.toNat).toInt = (i 428 x.toInt.toNat).toInt + 1) ∧ (((u 429 x.toInt.toNat).toInt = 0 ∧ v4.toInt = 0 ∧ (i 429 x.toInt.toNat).toInt = 0) ∨ 0 < (u 429 x.toInt.toNat).toInt) ∧ ((u 36 81).toInt = (i 36 81).toInt + 1)) (fun u => hwc g ka u r L d) (fun _ => []) (va_A (hwc g ka i r L d) sz)) 0 0 (va_A (hwc g ka i r L d) sz) := by
  refine x_met (Ex := gx ad) (cc := cX12_went) (maxL := 5) (ret := none) (by decide) rfl (Nat.le_of_ble_eq_true rfl) ?_
  intro p e s m below meth c A ls hx hb hr hml hts hown hlocks hA hS hH hK hE hl
  have hown : s.vm.findClass RX12 = some m.cls := hown
  have in12 : ∀ w ∈ wsX120, w ∈ wsX12_went := (fun _ h => (List.mem_cons_of_mem _ (List.mem_append_right _ h)))
  have wd0 := hts (.fieldLink RX12 492 "StoryDeskModel" "job" "[I") (List.mem_cons_of_mem _ (List.mem_append_left _ lm0))
  have wd1 := hts (.fieldLink RX12 498 "StoryDeskModel" "bad" "[I") (List.mem_cons_of_mem _ (List.mem_append_left _ lm1))
  have wd2 := hts (.fieldLink RX12 495 "StoryDeskModel" "next" "[I") (List.mem_cons_of_mem _ (List.mem_append_left _ lm2))
  have hl : lv_has ls 5 [(0, .ref (g 36)), (1, .int x), (2, .int y), (3, .int z), (4, .int v4)] := hl
  have hK : va_K D vwCl (hT ka) s := hK
  have hg_1 := s_rng y
  have hg_2 := s_rng z
  have hb427 : (-1 : Int) ≤ (i 427 x.toInt.toNat).toInt ∧ (i 427 x.toInt.toNat).toInt ≤ 23 := hO 427 _
  have hb428 : (0 : Int) ≤ (i 428 x.toInt.toNat).toInt ∧ (i 428 x.toInt.toNat).toInt ≤ 108 := hO 428 _
  have hb429 : (0 : Int) ≤ (i 429 x.toInt.toNat).toInt ∧ (i 429 x.toInt.toNat).toInt ≤ 5 := hO 429 _
  refine lv_aload_n hx hb dX12_went_0 rfl (lv_at hl 0 rfl) ?_
  refine lv_iload_n hx hb dX12_went_1 rfl (lv_at hl 2 rfl) ?_
  refine lv_aload_n hx hb dX12_went_2 rfl (lv_at hl 0 rfl) ?_
  refine h_getr (ci := 12) (C := RX12) (F := TX12) (N := 86) hx hb hts in12 hown hK hH (by decide) (rfl : kd 36 = 12) (by decide) rfl 83 (by decide) wd0 (fun _ h9 => h9) (by decide) rfl (t := 427) (hR 36 83 rfl) (by decide) dX12_went_3 ?_
  refine lv_iload_n hx hb dX12_went_6 rfl (lv_at hl 1 rfl) ?_
  have bx_3 : (-1 : Int) ≤ (i 427 (x.toInt).toNat).toInt ∧ (i 427 (x.toInt).toNat).toInt ≤ 23 := hO 427 (x.toInt).toNat
  refine h_iald hx hb hK hH (by decide) (rfl : kd 427 = 13) (s_vin (N := 3) (rfl : x.toInt = _) (rfl : ln 427 = 3) (by omega) (by omega)) dX12_went_7 ?_
  have ek_4 : x.toNatClampNeg = (x.toInt).toNat := (s_cl (show x.toInt = x.toInt by omega))
  refine sj_i (y := (i 427 (x.toInt).toNat)) (by rw [ek_4]) ?_
  refine lv_iload_n hx hb dX12_went_8 rfl (lv_at hl 3 rfl) ?_
  refine lv_iload hx hb dX12_went_9 (lv_at hl 4 rfl) ?_
  have hp_5 : (i 36 81).toInt = ((i 36 81) : Int32).toInt := rfl
  refine x_callv (va_runV (As := [.int y, .int (i 427 (x.toInt).toNat), .int z, .int v4]) (rest := []) ⟨hx, hb, hml, hown, hts⟩ (m_tell l D g ka ad i r L d y (i 427 (x.toInt).toNat) z v4 hO hR s.heap.size (by omega)) (cwV 4 hts gX12_went_X12_tell rfl rfl rfl (by decide +kernel) ⟨(Nat.le_of_ble_eq_true rfl), (Nat.le_of_ble_eq_true rfl)⟩) (x_preV (q := (RX12, TX12, 86)) hH hK (q_obj (by decide) (rfl : kd 36 = 12) (by decide)) rfl gxb (gxw hE hS (x_F hH hS hA))) rfl rfl hl.1 rfl (lv_room (Nat.le_of_ble_eq_true rfl)) dX12_went_11 ⟨(Nat.le_of_ble_eq_true rfl), (Nat.le_of_ble_eq_true rfl)⟩) hH hS hA rfl rfl (fun im_8 H locs hw_7 hH hS => ?_)
  have hH : sj_H D A (hwc g ka im_8 r L d) H := hH
  obtain ⟨hO_10, hfr_9, he_11⟩ := hw_7
  refine lv_aload_n hx hb dX12_went_14 rfl (lv_at hl 0 rfl) ?_
  refine h_getr (ci := 12) (C := RX12) (F := TX12) (N := 86) hx hb hts in12 hown hK hH (by decide) (rfl : kd 36 = 12) (by decide) rfl 85 (by decide) wd1 (fun _ h9 => h9) (by decide) rfl (t := 429) (hR 36 85 rfl) (by decide) dX12_went_15 ?_
  refine lv_iload_n hx hb dX12_went_18 rfl (lv_at hl 1 rfl) ?_
  refine lv_iload hx hb dX12_went_19 (lv_at hl 4 rfl) ?_
  refine lv_aload_n hx hb dX12_went_21 rfl (lv_at hl 0 rfl) ?_
  refine h_getr (ci := 12) (C := RX12) (F := TX12) (N := 86) hx hb hts in12 hown hK hH (by decide) (rfl : kd 36 = 12) (by decide) rfl 85 (by decide) wd1 (fun _ h9 => h9) (by decide) rfl (t := 429) (hR 36 85 rfl) (by decide) dX12_went_22 ?_
  refine lv_iload_n hx hb dX12_went_25 rfl (lv_at hl 1 rfl) ?_
  have bx_12 : (0 : Int) ≤ (i 429 (x.toInt).toNat).toInt ∧ (i 429 (x.toInt).toNat).toInt ≤ 5 := hO 429 (x.toInt).toNat
  refine h_iald hx hb hK hH (by decide) (rfl : kd 429 = 13) (s_vin (N := 3) (rfl : x.toInt = _) (rfl : ln 429 = 3) (by omega) (by omega)) dX12_went_26 ?_
  have ek_13 : x.toNatClampNeg = (x.toInt).toNat := (s_cl (show x.toInt = x.toInt by omega))
  refine sj_i (y := (i 429 (x.toInt).toNat)) (by rw [ek_13]; exact (hfr_9 429 (x.toInt).toNat (by omega))) ?_
  refine lv_icmp_le (tgt := 35) hx hb dX12_went_27 (by decide) (fun c_14 => ?_) (fun c_14 => ?_)
  · skip
    have h_15 := s_le (rfl : v4.toInt = _) (rfl : (i 429 (x.toInt).toNat).toInt = _) c_14
    refine lv_aload_n hx hb dX12_went_35 rfl (lv_at hl 0 rfl) ?_
    refine h_getr (ci := 12) (C := RX12) (F := TX12) (N := 86) hx hb hts in12 hown hK hH (by decide) (rfl : kd 36 = 12) (by decide) rfl 85 (by decide) wd1 (fun _ h9 => h9) (by decide) rfl (t := 429) (hR 36 85 rfl) (by decide) dX12_went_36 ?_
    refine lv_iload_n hx hb dX12_went_39 rfl (lv_at hl 1 rfl) ?_
    refine h_iald hx hb hK hH (by decide) (rfl : kd 429 = 13) (s_vin (N := 3) (rfl : x.toInt = _) (rfl : ln 429 = 3) (by omega) (by omega)) dX12_went_40 ?_
    have ek_16 : x.toNatClampNeg = (x.toInt).toNat := (s_cl (show x.toInt = x.toInt by omega))
    refine sj_i (y := (i 429 (x.toInt).toNat)) (by rw [ek_16]; exact (hfr_9 429 (x.toInt).toNat (by omega))) ?_
    have hO_17 := okp hO_10 (n := 429) (k := (x.toInt).toNat) (v := (i 429 (x.toInt).toNat)) (show (0 : Int) ≤ ((i 429 (x.toInt).toNat) : Int32).toInt ∧ ((i 429 (x.toInt).toNat) : Int32).toInt ≤ 5 from ⟨by omega, by omega⟩)
    refine h_iast hx hb hK hH hS (by decide) (rfl : kd 429 = 13) (s_vin (N := 3) (rfl : x.toInt = _) (rfl : ln 429 = 3) (by omega) (by omega)) dX12_went_41 (fun H locs hH hS => ?_)
    rw [s_cl (show x.toInt = x.toInt by omega)] at hH
    refine lv_aload_n hx hb dX12_went_42 rfl (lv_at hl 0 rfl) ?_
    refine h_getr (ci := 12) (C := RX12) (F := TX12) (N := 86) hx hb hts in12 hown hK hH (by decide) (rfl : kd 36 = 12) (by decide) rfl 84 (by decide) wd2 (fun _ h9 => h9) (by decide) rfl (t := 428) (hR 36 84 rfl) (by decide) dX12_went_43 ?_
    refine lv_iload_n hx hb dX12_went_46 rfl (lv_at hl 1 rfl) ?_
    refine lv_dup2_11 hx hb dX12_went_47 rfl rfl ?_
    have bx_18 : (0 : Int) ≤ (i 428 (x.toInt).toNat).toInt ∧ (i 428 (x.toInt).toNat).toInt ≤ 108 := hO 428 (x.toInt).toNat
    refine h_iald hx hb hK hH (by decide) (rfl : kd 428 = 13) (s_vin (N := 3) (rfl : x.toInt = _) (rfl : ln 428 = 3) (by omega) (by omega)) dX12_went_48 ?_
    have ek_19 : x.toNatClampNeg = (x.toInt).toNat := (s_cl (show x.toInt = x.toInt by omega))
    refine sj_i (y := (i 428 (x.toInt).toNat)) (by rw [ek_19]; exact ((congrFun (up2_n _ _ (by decide)) _).trans (hfr_9 428 (x.toInt).toNat (by omega)))) ?_
    refine lv_iconst (v := 1) hx hb dX12_went_49 (by decide) ?_
    refine lv_iadd hx hb dX12_went_50 ?_
    obtain ⟨z_20, ez_20, hz_20⟩ := s_add (rfl : (i 428 (x.toInt).toNat).toInt = _) (show (1 : Int32).toInt = 1 from rfl) (by omega) (by omega)
    refine sj_i ez_20 ?_
    have hO_21 := okp hO_17 (n := 428) (k := (x.toInt).toNat) (v := z_20) (show (0 : Int) ≤ (z_20 : Int32).toInt ∧ (z_20 : Int32).toInt ≤ 108 from ⟨by omega, by omega⟩)
    refine h_iast hx hb hK hH hS (by decide) (rfl : kd 428 = 13) (s_vin (N := 3) (rfl : x.toInt = _) (rfl : ln 428 = 3) (by omega) (by omega)) dX12_went_51 (fun H locs hH hS => ?_)
    rw [s_cl (show x.toInt = x.toInt by omega)] at hH
    have hV_22 : rwO 428 i (up2 (up2 im_8 429 (x.toInt).toNat (i 429 (x.toInt).toNat)) 428 (x.toInt).toNat z_20) x.toInt.toNat := (fun k hk => ((up2_k _ _ (by omega)).trans ((up2_o _ _ (by omega)).trans (hfr_9 428 k (by omega)))))
    have hV_23 : rwO 429 i (up2 (up2 im_8 429 (x.toInt).toNat (i 429 (x.toInt).toNat)) 428 (x.toInt).toNat z_20) x.toInt.toNat := (fun k hk => ((up2_o _ _ (by omega)).trans ((up2_k _ _ (by omega)).trans (hfr_9 429 k (by omega)))))
    have hat_24 : ((up2 (up2 im_8 429 (x.toInt).toNat (i 429 (x.toInt).toNat)) 428 (x.toInt).toNat z_20) 428 x.toInt.toNat).toInt = (z_20 : Int32).toInt := congrArg Int32.toInt ((up2_at _ _ _ _))
    have hV_25 : ((up2 (up2 im_8 429 (x.toInt).toNat (i 429 (x.toInt).toNat)) 428 (x.toInt).toNat z_20) 428 x.toInt.toNat).toInt = (i 428 x.toInt.toNat).toInt + 1 := (by omega)
    have hat_26 : ((up2 (up2 im_8 429 (x.toInt).toNat (i 429 (x.toInt).toNat)) 428 (x.toInt).toNat z_20) 429 x.toInt.toNat).toInt = ((i 429 (x.toInt).toNat) : Int32).toInt := congrArg Int32.toInt (((congrFun (up2_n _ _ (by decide)) _).trans (up2_at _ _ _ _)))
    have hV_27 : (((up2 (up2 im_8 429 (x.toInt).toNat (i 429 (x.toInt).toNat)) 428 (x.toInt).toNat z_20) 429 x.toInt.toNat).toInt = 0 ∧ v4.toInt = 0 ∧ (i 429 x.toInt.toNat).toInt = 0) ∨ 0 < ((up2 (up2 im_8 429 (x.toInt).toNat (i 429 (x.toInt).toNat)) 428 (x.toInt).toNat z_20) 429 x.toInt.toNat).toInt := (by omega)
    have hp_28 : ((up2 (up2 im_8 429 (x.toInt).toNat (i 429 (x.toInt).toNat)) 428 (x.toInt).toNat z_20) 36 81).toInt = ((im_8 36 81) : Int32).toInt := congrArg Int32.toInt (((congrFun (up2_n _ _ (by decide)) _).trans (congrFun (up2_n _ _ (by decide)) _)))
    have hV_29 : ((up2 (up2 im_8 429 (x.toInt).toNat (i 429 (x.toInt).toNat)) 428 (x.toInt).toNat z_20) 36 81).toInt = (i 36 81).toInt + 1 := (by omega)
    exact sj_vret hx hb hr hlocks hS (up2 (up2 im_8 429 (x.toInt).toNat (i 429 (x.toInt).toNat)) 428 (x.toInt).toNat z_20) ⟨hO_21, (fun a b ha => ((up2_o _ _ (by omega)).trans ((up2_o _ _ (by omega)).trans (hfr_9 a b (by omega))))), hV_22, hV_23, hV_25, hV_27, hV_29⟩ hH (sj_Knil hK) (Nat.le_of_ble_eq_true rfl) (Nat.le_of_ble_eq_true rfl) dX12_went_52
  · skip
    have h_30 := s_nle (rfl : v4.toInt = _) (rfl : (i 429 (x.toInt).toNat).toInt = _) c_14
    refine lv_iload hx hb dX12_went_30 (lv_at hl 4 rfl) ?_
    refine lv_goto (tgt := 41) hx hb dX12_went_32 (by decide) ?_
    have hO_31 := okp hO_10 (n := 429) (k := (x.toInt).toNat) (v := v4) (show (0 : Int) ≤ (v4 : Int32).toInt ∧ (v4 : Int32).toInt ≤ 5 from ⟨by omega, by omega⟩)
    refine h_iast hx hb hK hH hS (by decide) (rfl : kd 429 = 13) (s_vin (N := 3) (rfl : x.toInt = _) (rfl : ln 429 = 3) (by omega) (by omega)) dX12_went_41 (fun H locs hH hS => ?_)
    rw [s_cl (show x.toInt = x.toInt by omega)] at hH
    refine lv_aload_n hx hb dX12_went_42 rfl (lv_at hl 0 rfl) ?_
    refine h_getr (ci := 12) (C := RX12) (F := TX12) (N := 86) hx hb hts in12 hown hK hH (by decide) (rfl : kd 36 = 12) (by decide) rfl 84 (by decide) wd2 (fun _ h9 => h9) (by decide) rfl (t := 428) (hR 36 84 rfl) (by decide) dX12_went_43 ?_
    refine lv_iload_n hx hb dX12_went_46 rfl (lv_at hl 1 rfl) ?_
    refine lv_dup2_11 hx hb dX12_went_47 rfl rfl ?_
    have bx_32 : (0 : Int) ≤ (i 428 (x.toInt).toNat).toInt ∧ (i 428 (x.toInt).toNat).toInt ≤ 108 := hO 428 (x.toInt).toNat
    refine h_iald hx hb hK hH (by decide) (rfl : kd 428 = 13) (s_vin (N := 3) (rfl : x.toInt = _) (rfl : ln 428 = 3) (by omega) (by omega)) dX12_went_48 ?_
    have ek_33 : x.toNatClampNeg = (x.toInt).toNat := (s_cl (show x.toInt = x.toInt by omega))
    refine sj_i (y := (i 428 (x.toInt).toNat)) (by rw [ek_33]; exact ((congrFun (up2_n _ _ (by decide)) _).trans (hfr_9 428 (x.toInt).toNat (by omega)))) ?_
    refine lv_iconst (v := 1) hx hb dX12_went_49 (by decide) ?_
    refine lv_iadd hx hb dX12_went_50 ?_
    obtain ⟨z_34, ez_34, hz_34⟩ := s_add (rfl : (i 428 (x.toInt).toNat).toInt = _) (show (1 : Int32).toInt = 1 from rfl) (by omega) (by omega)
    refine sj_i ez_34 ?_
    have hO_35 := okp hO_31 (n := 428) (k := (x.toInt).toNat) (v := z_34) (show (0 : Int) ≤ (z_34 : Int32).toInt ∧ (z_34 : Int32).toInt ≤ 108 from ⟨by omega, by omega⟩)
    refine h_iast hx hb hK hH hS (by decide) (rfl : kd 428 = 13) (s_vin (N := 3) (rfl : x.toInt = _) (rfl : ln 428 = 3) (by omega) (by omega)) dX12_went_51 (fun H locs hH hS => ?_)
    rw [s_cl (show x.toInt = x.toInt by omega)] at hH
    have hV_36 : rwO 428 i (up2 (up2 im_8 429 (x.toInt).toNat v4) 428 (x.toInt).toNat z_34) x.toInt.toNat := (fun k hk => ((up2_k _ _ (by omega)).trans ((up2_o _ _ (by omega)).trans (hfr_9 428 k (by omega)))))
    have hV_37 : rwO 429 i (up2 (up2 im_8 429 (x.toInt).toNat v4) 428 (x.toInt).toNat z_34) x.toInt.toNat := (fun k hk => ((up2_o _ _ (by omega)).trans ((up2_k _ _ (by omega)).trans (hfr_9 429 k (by omega)))))
    have hat_38 : ((up2 (up2 im_8 429 (x.toInt).toNat v4) 428 (x.toInt).toNat z_34) 428 x.toInt.toNat).toInt = (z_34 : Int32).toInt := congrArg Int32.toInt ((up2_at _ _ _ _))
    have hV_39 : ((up2 (up2 im_8 429 (x.toInt).toNat v4) 428 (x.toInt).toNat z_34) 428 x.toInt.toNat).toInt = (i 428 x.toInt.toNat).toInt + 1 := (by omega)
    have hat_40 : ((up2 (up2 im_8 429 (x.toInt).toNat v4) 428 (x.toInt).toNat z_34) 429 x.toInt.toNat).toInt = (v4 : Int32).toInt := congrArg Int32.toInt (((congrFun (up2_n _ _ (by decide)) _).trans (up2_at _ _ _ _)))
    have hV_41 : (((up2 (up2 im_8 429 (x.toInt).toNat v4) 428 (x.toInt).toNat z_34) 429 x.toInt.toNat).toInt = 0 ∧ v4.toInt = 0 ∧ (i 429 x.toInt.toNat).toInt = 0) ∨ 0 < ((up2 (up2 im_8 429 (x.toInt).toNat v4) 428 (x.toInt).toNat z_34) 429 x.toInt.toNat).toInt := (by omega)
    have hp_42 : ((up2 (up2 im_8 429 (x.toInt).toNat v4) 428 (x.toInt).toNat z_34) 36 81).toInt = ((im_8 36 81) : Int32).toInt := congrArg Int32.toInt (((congrFun (up2_n _ _ (by decide)) _).trans (congrFun (up2_n _ _ (by decide)) _)))
    have hV_43 : ((up2 (up2 im_8 429 (x.toInt).toNat v4) 428 (x.toInt).toNat z_34) 36 81).toInt = (i 36 81).toInt + 1 := (by omega)
    exact sj_vret hx hb hr hlocks hS (up2 (up2 im_8 429 (x.toInt).toNat v4) 428 (x.toInt).toNat z_34) ⟨hO_35, (fun a b ha => ((up2_o _ _ (by omega)).trans ((up2_o _ _ (by omega)).trans (hfr_9 a b (by omega))))), hV_36, hV_37, hV_39, hV_41, hV_43⟩ hH (sj_Knil hK) (Nat.le_of_ble_eq_true rfl) (Nat.le_of_ble_eq_true rfl) dX12_went_52
