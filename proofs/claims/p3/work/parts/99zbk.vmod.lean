/-- what ends a reading changes no dialect -/
theorem en_d {i i' : Nat → Nat → Int32} {ln : Int} (h : enQ i i' ln) : i' 3 1 = i 3 1 := by
  obtain ⟨i2, h1, h2⟩ := h
  have e1 : i2 3 1 = i 3 1 := by
    rcases h1 with ⟨_, g⟩ | ⟨_, g⟩
    · exact g.2 3 1 (by omega) (by omega) (by omega)
    · rw [g]
  rw [← e1]
  rcases h2 with ⟨_, g⟩ | ⟨_, g⟩
  · exact g.2 3 1 (by omega) (by omega) (by omega)
  · rw [g]
theorem dX12_thrown_0 : decode cX12_thrown 0 = .ok (.aload_n 0, 1) := by decide +kernel
theorem dX12_thrown_1 : decode cX12_thrown 1 = .ok (.getfield 1, 3) := by decide +kernel
theorem dX12_thrown_4 : decode cX12_thrown 4 = .ok (.ireturn, 1) := by decide +kernel
set_option maxHeartbeats 2000000 in
set_option maxRecDepth 100000 in
theorem mv_throwsNow (l : Launch) (D : va_G) (g : Nat → Nat) (ka : Nat → ClassId) (ad : Nat → Nat) (i : Nat → Nat → Int32) (r : Nat → Nat → Nat) (L : Nat → Nat → Int64) (d : Nat → Nat → UInt64) (x : Int32) (hO : OkI i) (hR : RS r) (sz : Nat) (hx0 : 0 ≤ x.toInt) (hx1 : x.toInt ≤ 3) : Met l yX12_throwsNow wsX12_throwsNow ({ frames := 0, cells := 0, slots := 0, locals := 0 }) (va_Pc [.ref (g 36), .int x] (sj_B D (hwc g ka i r L d) (hT ka) sz (gx ad (va_A (hwc g ka i r L d) sz)))) (sj_Qi (S := (Nat → Nat → Int32)) D (fun v u => OkI u ∧ (∀ a b, ¬ ((a = 36 ∧ (b = 0))) → u a b = i a b) ∧ ((0 : Int) ≤ v.toInt ∧ v.toInt ≤ 1) ∧ (((0 < x.toInt ∧ v.toInt = 1) ∨ (x.toInt ≤ 0 ∧ v.toInt = 0)) ∧ (u 36 0).toInt = x.toInt)) (fun u => hwc g ka u r L d) (fun _ => []) (va_A (hwc g ka i r L d) sz)) 0 0 (va_A (hwc g ka i r L d) sz) := by
  refine x_met (Ex := gx ad) (cc := cX12_throwsNow) (maxL := 2) (ret := (some .boolean)) (by decide) rfl (Nat.le_of_ble_eq_true rfl) ?_
  intro p e s m below meth c A ls hx hb hr hml hts hown hlocks hA hS hH hK hE hl
  have hown : s.vm.findClass RX12 = some m.cls := hown
  have in12 : ∀ w ∈ wsX120, w ∈ wsX12_throwsNow := (fun _ h => (List.mem_cons_of_mem _ (List.mem_append_right _ h)))
  have wd0 := hts (.fieldLink RX12 1 "StoryDeskModel" "thrown" "I") (List.mem_cons_of_mem _ (List.mem_append_left _ lm0))
  have hl : lv_has ls 2 [(0, .ref (g 36)), (1, .int x)] := hl
  have hK : va_K D vwCl (hT ka) s := hK
  refine lv_aload_n hx hb dX12_throwsNow_0 rfl (lv_at hl 0 rfl) ?_
  refine lv_iload_n hx hb dX12_throwsNow_1 rfl (lv_at hl 1 rfl) ?_
  have hO_1 := okp hO (n := 36) (k := 0) (v := x) (show (0 : Int) ≤ (x : Int32).toInt ∧ (x : Int32).toInt ≤ 3 from ⟨by omega, by omega⟩)
  refine h_puti (ty := .int) (ci := 12) (C := RX12) (F := TX12) (N := 86) hx hb hts in12 tyX12 tyX12_ok nmX12 hown hK hH hS (by decide) (rfl : kd 36 = 12) (by decide) rfl 0 (by decide) wd0 (fun _ h9 => h9) rfl (by decide +kernel) rfl rfl (by decide) rfl dX12_throwsNow_2 (fun H locs hH hS => ?_)
  refine lv_iload_n hx hb dX12_throwsNow_5 rfl (lv_at hl 1 rfl) ?_
  refine lv_if_le (tgt := 13) hx hb dX12_throwsNow_6 (by decide) (fun c_2 => ?_) (fun c_2 => ?_)
  · skip
    have h_3 := s_le (rfl : x.toInt = _) (show (0 : Int32).toInt = 0 from rfl) c_2
    refine lv_iconst (v := 0) hx hb dX12_throwsNow_13 (by decide) ?_
    have hlv_4 : (0 : Int32).toInt = 0 := rfl
    have hq_5 : (up2 i 36 0 x) 36 0 = x := (up2_at _ _ _ _)
    have hq_5i := congrArg Int32.toInt hq_5
    exact sj_zret hx hb hr hlocks (by decide +kernel) hS (up2 i 36 0 x) ⟨hO_1, (fun a b ha => (up2_o _ _ (by omega))), ⟨by decide, by decide⟩, (by omega)⟩ hH (sj_Knil hK) (Nat.le_of_ble_eq_true rfl) (Nat.le_of_ble_eq_true rfl) dX12_throwsNow_14
  · skip
    have h_6 := s_nle (rfl : x.toInt = _) (show (0 : Int32).toInt = 0 from rfl) c_2
    refine lv_iconst (v := 1) hx hb dX12_throwsNow_9 (by decide) ?_
    refine lv_goto (tgt := 14) hx hb dX12_throwsNow_10 (by decide) ?_
    have hlv_7 : (1 : Int32).toInt = 1 := rfl
    have hq_8 : (up2 i 36 0 x) 36 0 = x := (up2_at _ _ _ _)
    have hq_8i := congrArg Int32.toInt hq_8
    exact sj_zret hx hb hr hlocks (by decide +kernel) hS (up2 i 36 0 x) ⟨hO_1, (fun a b ha => (up2_o _ _ (by omega))), ⟨by decide, by decide⟩, (by omega)⟩ hH (sj_Knil hK) (Nat.le_of_ble_eq_true rfl) (Nat.le_of_ble_eq_true rfl) dX12_throwsNow_14
set_option maxHeartbeats 2000000 in
set_option maxRecDepth 100000 in
theorem mv_busy (l : Launch) (D : va_G) (g : Nat → Nat) (ka : Nat → ClassId) (ad : Nat → Nat) (i : Nat → Nat → Int32) (r : Nat → Nat → Nat) (L : Nat → Nat → Int64) (d : Nat → Nat → UInt64)  (hO : OkI i) (hR : RS r) (sz : Nat)  : Met l yX12_busy wsX12_busy ({ frames := 1, cells := 0, slots := 0, locals := 21 }) (va_Pc [.ref (g 36)] (sj_B D (hwc g ka i r L d) (hT ka) sz (gx ad (va_A (hwc g ka i r L d) sz)))) (sj_Qi (S := (Nat → Nat → Int32)) D (fun v u => OkI u ∧ (∀ a b, ¬ ((a = 36 ∧ (b = 0))) → u a b = i a b) ∧ ((0 : Int) ≤ v.toInt ∧ v.toInt ≤ 1) ∧ (v.toInt = (i 36 76).toInt ∧ (u 36 0).toInt = (i 36 76).toInt)) (fun u => hwc g ka u r L d) (fun _ => []) (va_A (hwc g ka i r L d) sz)) 0 0 (va_A (hwc g ka i r L d) sz) := by
  refine x_met (Ex := gx ad) (cc := cX12_busy) (maxL := 1) (ret := (some .boolean)) (by decide) rfl (Nat.le_of_ble_eq_true rfl) ?_
  intro p e s m below meth c A ls hx hb hr hml hts hown hlocks hA hS hH hK hE hl
  have hown : s.vm.findClass RX12 = some m.cls := hown
  have in12 : ∀ w ∈ wsX120, w ∈ wsX12_busy := (fun _ h => (List.mem_cons_of_mem _ (List.mem_append_right _ h)))
  have wd0 := hts (.fieldLink RX12 168 "StoryDeskModel" "running" "Z") (List.mem_cons_of_mem _ (List.mem_append_left _ lm0))
  have hl : lv_has ls 1 [(0, .ref (g 36))] := hl
  have hK : va_K D vwCl (hT ka) s := hK
  refine lv_aload_n hx hb dX12_busy_0 rfl (lv_at hl 0 rfl) ?_
  refine lv_aload_n hx hb dX12_busy_1 rfl (lv_at hl 0 rfl) ?_
  have bx_1 : (0 : Int) ≤ (i 36 76).toInt ∧ (i 36 76).toInt ≤ 1 := hO 36 76
  refine h_geti (ci := 12) (C := RX12) (F := TX12) (N := 86) hx hb hts in12 hown hK hH (by decide) (rfl : kd 36 = 12) (by decide) rfl 76 (by decide) wd0 (fun _ h9 => h9) (by decide) rfl dX12_busy_2 ?_
  refine lv_if_eq (tgt := 12) hx hb dX12_busy_5 (by decide) (fun c_2 => ?_) (fun c_2 => ?_)
  · skip
    have h_3 := s_eq (rfl : (i 36 76).toInt = _) (show (0 : Int32).toInt = 0 from rfl) c_2
    refine lv_iconst (v := 0) hx hb dX12_busy_12 (by decide) ?_
    have hl_4 : (0 : Int32).toInt = 0 := rfl
    refine x_calli (va_runV (As := [.int 0]) (rest := []) ⟨hx, hb, hml, hown, hts⟩ (mv_throwsNow l D g ka ad i r L d 0 hO hR s.heap.size (by first | omega | decide) (by first | omega | decide)) (cwV 1 hts gX12_busy_X12_throwsNow rfl rfl rfl (by decide +kernel) ⟨(Nat.le_of_ble_eq_true rfl), (Nat.le_of_ble_eq_true rfl)⟩) (x_preV (q := (RX12, TX12, 86)) hH hK (q_obj (by decide) (rfl : kd 36 = 12) (by decide)) rfl gxb (gxw hE hS (x_F hH hS hA))) rfl rfl hl.1 rfl (lv_room (Nat.le_of_ble_eq_true rfl)) dX12_busy_13 ⟨(Nat.le_of_ble_eq_true rfl), (Nat.le_of_ble_eq_true rfl)⟩) hH hS hA rfl rfl (fun r_5 im_7 H locs hw_6 hH hS => ?_)
    have hH : sj_H D A (hwc g ka im_7 r L d) H := hH
    obtain ⟨hO_9, hfr_8, hr_10, he_11⟩ := hw_6
    have hr_10 : (0 : Int) ≤ r_5.toInt ∧ r_5.toInt ≤ 1 := hr_10
    exact sj_zret hx hb hr hlocks (s_nz ⟨by omega, by omega⟩) hS im_7 ⟨hO_9, (fun a b ha => (hfr_8 a b (by omega))), ⟨by omega, by omega⟩, (by omega)⟩ hH (sj_Knil hK) (Nat.le_of_ble_eq_true rfl) (Nat.le_of_ble_eq_true rfl) dX12_busy_16
  · skip
    have h_12 := s_ne (rfl : (i 36 76).toInt = _) (show (0 : Int32).toInt = 0 from rfl) c_2
    refine lv_iconst (v := 1) hx hb dX12_busy_8 (by decide) ?_
    refine lv_goto (tgt := 13) hx hb dX12_busy_9 (by decide) ?_
    have hl_13 : (1 : Int32).toInt = 1 := rfl
    refine x_calli (va_runV (As := [.int 1]) (rest := []) ⟨hx, hb, hml, hown, hts⟩ (mv_throwsNow l D g ka ad i r L d 1 hO hR s.heap.size (by first | omega | decide) (by first | omega | decide)) (cwV 1 hts gX12_busy_X12_throwsNow rfl rfl rfl (by decide +kernel) ⟨(Nat.le_of_ble_eq_true rfl), (Nat.le_of_ble_eq_true rfl)⟩) (x_preV (q := (RX12, TX12, 86)) hH hK (q_obj (by decide) (rfl : kd 36 = 12) (by decide)) rfl gxb (gxw hE hS (x_F hH hS hA))) rfl rfl hl.1 rfl (lv_room (Nat.le_of_ble_eq_true rfl)) dX12_busy_13 ⟨(Nat.le_of_ble_eq_true rfl), (Nat.le_of_ble_eq_true rfl)⟩) hH hS hA rfl rfl (fun r_14 im_16 H locs hw_15 hH hS => ?_)
    have hH : sj_H D A (hwc g ka im_16 r L d) H := hH
    obtain ⟨hO_18, hfr_17, hr_19, he_20⟩ := hw_15
    have hr_19 : (0 : Int) ≤ r_14.toInt ∧ r_14.toInt ≤ 1 := hr_19
    exact sj_zret hx hb hr hlocks (s_nz ⟨by omega, by omega⟩) hS im_16 ⟨hO_18, (fun a b ha => (hfr_17 a b (by omega))), ⟨by omega, by omega⟩, (by omega)⟩ hH (sj_Knil hK) (Nat.le_of_ble_eq_true rfl) (Nat.le_of_ble_eq_true rfl) dX12_busy_16
set_option maxHeartbeats 2000000 in
set_option maxRecDepth 100000 in
theorem mv_wanted (l : Launch) (D : va_G) (g : Nat → Nat) (ka : Nat → ClassId) (ad : Nat → Nat) (i : Nat → Nat → Int32) (r : Nat → Nat → Nat) (L : Nat → Nat → Int64) (d : Nat → Nat → UInt64)  (hO : OkI i) (hR : RS r) (sz : Nat)  : Met l yX12_wanted wsX12_wanted ({ frames := 5, cells := 0, slots := 0, locals := 113 }) (va_Pc [.ref (g 36)] (sj_B D (hwc g ka i r L d) (hT ka) sz (gx ad (va_A (hwc g ka i r L d) sz)))) (sj_Qi (S := (Nat → Nat → Int32)) D (fun v u => OkI u ∧ (∀ a b, ¬ ((a = 36 ∧ (b = 65 ∨ b = 66)) ∨ a = 418 ∨ a = 419) → u a b = i a b) ∧ ((0 : Int) ≤ v.toInt ∧ v.toInt ≤ 24) ∧ (v.toInt = (cnl (mcw i) (i 36 33).toInt.toNat : Int))) (fun u => hwc g ka u r L d) (fun _ => []) (va_A (hwc g ka i r L d) sz)) 0 0 (va_A (hwc g ka i r L d) sz) := by
  refine x_met (Ex := gx ad) (cc := cX12_wanted) (maxL := 3) (ret := (some .int)) (by decide) rfl (Nat.le_of_ble_eq_true rfl) ?_
  intro p e s m below meth c A ls hx hb hr hml hts hown hlocks hA hS hH hK hE hl
  have hown : s.vm.findClass RX12 = some m.cls := hown
  have in12 : ∀ w ∈ wsX120, w ∈ wsX12_wanted := (fun _ h => (List.mem_cons_of_mem _ (List.mem_append_right _ h)))
  have wd0 := hts (.fieldLink RX12 165 "StoryDeskModel" "cases" "I") (List.mem_cons_of_mem _ (List.mem_append_left _ (List.mem_append_left _ lm0)))
  have wd1 := hts (.fieldLink RX12 204 "StoryDeskModel" "caseTags" "[I") (List.mem_cons_of_mem _ (List.mem_append_left _ (List.mem_append_left _ lm1)))
  have hl : lv_has ls 3 [(0, .ref (g 36))] := hl
  have hK : va_K D vwCl (hT ka) s := hK
  have hb33 : (0 : Int) ≤ (i 36 33).toInt ∧ (i 36 33).toInt ≤ 24 := hO 36 33
  refine lv_iconst (v := 0) hx hb dX12_wanted_0 (by decide) ?_
  refine lv_istore_n (lv' := [(1, .int 0), (0, .ref (g 36))]) hx hb dX12_wanted_1 rfl hl (by decide) rfl (fun ls hl => ?_)
  refine lv_iconst (v := 0) hx hb dX12_wanted_2 (by decide) ?_
  refine lv_istore_n (lv' := [(2, .int 0), (1, .int 0), (0, .ref (g 36))]) hx hb dX12_wanted_3 rfl hl (by decide) rfl (fun ls hl => ?_)
  -- loop at 4
  have lp_1 : ∀ (fuel_lp_1 : Nat) (t : Int32) (f : Int32) (j1 : Nat → Nat → Int32) (H : Heap) (locs : List Loc) (ls : Array Slot), (24 - f.toInt).toNat < fuel_lp_1 → (0 : Int) ≤ t.toInt ∧ t.toInt ≤ 24 → (0 : Int) ≤ f.toInt ∧ f.toInt ≤ 24 → t.toInt ≤ f.toInt ∧ f.toInt ≤ (i 36 33).toInt → t.toInt = (cnl (mcw i) f.toInt.toNat : Int) → OkI j1 → (∀ a b, ¬ ((a = 36 ∧ (b = 65 ∨ b = 66)) ∨ a = 418 ∨ a = 419) → j1 a b = i a b) → lv_has ls 3 [(2, .int f), (1, .int t), (0, .ref (g 36))] → sj_H D A (hwc g ka j1 r L d) H → va_S A s.heap H locs → W p l e (headSpec wsX12_wanted ({ frames := 5, cells := 0, slots := 0, locals := 113 })).room s m ([.ref (g 36)] : List Value).toArray below meth c H locs 0 0 (MQ below (sj_Qi (S := (Nat → Nat → Int32)) D (fun v u => OkI u ∧ (∀ a b, ¬ ((a = 36 ∧ (b = 65 ∨ b = 66)) ∨ a = 418 ∨ a = 419) → u a b = i a b) ∧ ((0 : Int) ≤ v.toInt ∧ v.toInt ≤ 24) ∧ (v.toInt = (cnl (mcw i) (i 36 33).toInt.toNat : Int))) (fun u => hwc g ka u r L d) (fun _ => []) A) ([.ref (g 36)] : List Value).toArray s 0 0 A) (F0 m 4 ls []) := by
    intro fuel_lp_1
    induction fuel_lp_1 with
    | zero => intros; omega
    | succ fuel_lp_1 ih_lp_1 =>
      intro t f j1 H locs ls hm hr_t hr_f hi_lp_1_0 hi_lp_1_1 hO_j1 hfr_j1 hl hH hS
      refine lv_iload_n hx hb dX12_wanted_4 rfl (lv_at hl 0 rfl) ?_
      refine lv_aload_n hx hb dX12_wanted_5 rfl (lv_at hl 2 rfl) ?_
      have bx_2 : (0 : Int) ≤ (i 36 33).toInt ∧ (i 36 33).toInt ≤ 24 := hO 36 33
      refine h_geti (ci := 12) (C := RX12) (F := TX12) (N := 86) hx hb hts in12 hown hK hH (by decide) (rfl : kd 36 = 12) (by decide) rfl 33 (by decide) wd0 (fun _ h9 => h9) (by decide) rfl dX12_wanted_6 ?_
      refine sj_i (y := (i 36 33)) (hfr_j1 36 33 (by omega)) ?_
      refine lv_icmp_ge (tgt := 41) hx hb dX12_wanted_9 (by decide) (fun c_3 => ?_) (fun c_3 => ?_)
      · skip
        have h_4 := s_le (rfl : (i 36 33).toInt = _) (rfl : f.toInt = _) c_3
        refine lv_iload_n hx hb dX12_wanted_41 rfl (lv_at hl 1 rfl) ?_
        have hcn9 := hi_lp_1_1
        rw [show f.toInt.toNat = (i 36 33).toInt.toNat by omega] at hcn9
        have hV_5 : (t : Int32).toInt = (cnl (mcw i) (i 36 33).toInt.toNat : Int) := (by omega)
        exact sj_zret hx hb hr hlocks rfl hS j1 ⟨hO_j1, (fun a b ha => (hfr_j1 a b (by omega))), ⟨by omega, by omega⟩, hV_5⟩ hH (sj_Knil hK) (Nat.le_of_ble_eq_true rfl) (Nat.le_of_ble_eq_true rfl) dX12_wanted_42
      · skip
        have h_6 := s_nle (rfl : (i 36 33).toInt = _) (rfl : f.toInt = _) c_3
        refine lv_iload_n hx hb dX12_wanted_12 rfl (lv_at hl 1 rfl) ?_
        refine lv_aload_n hx hb dX12_wanted_13 rfl (lv_at hl 2 rfl) ?_
        refine lv_bipush (v := 8) hx hb dX12_wanted_14 (by decide) ?_
        refine lv_aload_n hx hb dX12_wanted_16 rfl (lv_at hl 2 rfl) ?_
        refine h_getr (ci := 12) (C := RX12) (F := TX12) (N := 86) hx hb hts in12 hown hK hH (by decide) (rfl : kd 36 = 12) (by decide) rfl 37 (by decide) wd1 (fun _ h9 => h9) (by decide) rfl (t := 400) (hR 36 37 rfl) (by decide) dX12_wanted_17 ?_
        refine lv_iload_n hx hb dX12_wanted_20 rfl (lv_at hl 0 rfl) ?_
        have bx_7 : (0 : Int) ≤ (i 400 (f.toInt).toNat).toInt ∧ (i 400 (f.toInt).toNat).toInt ≤ 65535 := hO 400 (f.toInt).toNat
        refine h_iald hx hb hK hH (by decide) (rfl : kd 400 = 13) (s_vin (N := 24) (rfl : f.toInt = _) (rfl : ln 400 = 24) (by omega) (by omega)) dX12_wanted_21 ?_
        have ek_8 : f.toNatClampNeg = (f.toInt).toNat := (s_cl (show f.toInt = f.toInt by omega))
        refine sj_i (y := (i 400 (f.toInt).toNat)) (by rw [ek_8]; exact (hfr_j1 400 (f.toInt).toNat (by omega))) ?_
        have hl_9 : (8 : Int32).toInt = 8 := rfl
        refine x_calli (va_runV (As := [.int 8, .int (i 400 (f.toInt).toNat)]) (rest := [.int t]) ⟨hx, hb, hml, hown, hts⟩ (m_holds l D g ka ad j1 r L d 8 (i 400 (f.toInt).toNat) hO_j1 hR H.size (by first | omega | decide) (by first | omega | decide)) (cwV 2 hts gX12_wanted_X12_holds rfl rfl rfl (by decide +kernel) ⟨(Nat.le_of_ble_eq_true rfl), (Nat.le_of_ble_eq_true rfl)⟩) (x_preV (q := (RX12, TX12, 86)) hH hK (q_obj (by decide) (rfl : kd 36 = 12) (by decide)) rfl gxb (gxw hE hS (x_F hH hS hA))) rfl rfl hl.1 rfl (lv_room (Nat.le_of_ble_eq_true rfl)) dX12_wanted_22 ⟨(Nat.le_of_ble_eq_true rfl), (Nat.le_of_ble_eq_true rfl)⟩) hH hS hA rfl rfl (fun r_10 im_12 H locs hw_11 hH hS => ?_)
        have hH : sj_H D A (hwc g ka im_12 r L d) H := hH
        obtain ⟨hO_14, hfr_13, hr_15, hx2_16⟩ := hw_11
        have hr_15 : (0 : Int) ≤ r_10.toInt ∧ r_10.toInt ≤ 1 := hr_15
        have hv9 : r_10.toInt = (if tgHM j1 (8 : Int32).toInt.toNat (i 400 (f.toInt).toNat) = true then 1 else 0) := hx2_16
        rw [show tgHM j1 (8 : Int32).toInt.toNat (i 400 (f.toInt).toNat) = mcw i f.toInt.toNat from (tgHM_fr (i := i) (funext fun b9 => (hfr_j1 416 b9 (by omega))) (funext fun b9 => (hfr_j1 417 b9 (by omega))) _).trans (by unfold mcw; rfl)] at hv9
        refine lv_if_eq (tgt := 32) hx hb dX12_wanted_25 (by decide) (fun c_17 => ?_) (fun c_17 => ?_)
        · skip
          have h_18 := s_eq (rfl : r_10.toInt = _) (show (0 : Int32).toInt = 0 from rfl) c_17
          refine lv_iconst (v := 0) hx hb dX12_wanted_32 (by decide) ?_
          refine lv_iadd hx hb dX12_wanted_33 ?_
          obtain ⟨z_19, ez_19, hz_19⟩ := s_add (rfl : t.toInt = _) (show (0 : Int32).toInt = 0 from rfl) (by omega) (by omega)
          refine sj_i ez_19 ?_
          refine lv_istore_n (lv' := [(1, .int z_19), (2, .int f), (0, .ref (g 36))]) hx hb dX12_wanted_34 rfl hl (by decide) rfl (fun ls hl => ?_)
          obtain ⟨z_20, ez_20, hz_20⟩ := s_add (rfl : f.toInt = _) (show (1 : Int32).toInt = 1 from rfl) (by omega) (by omega)
          refine lv_iinc (v := z_20) (lv' := [(2, .int z_20), (1, .int z_19), (0, .ref (g 36))]) hx hb dX12_wanted_35 hl (k := 1) rfl ez_20 (by decide) rfl (fun ls hl => ?_)
          refine lv_goto (tgt := 4) hx hb dX12_wanted_38 (by decide) ?_
          exact ih_lp_1 z_19 z_20 _ _ _ ls (by omega) (by omega) (by omega) (by omega) (cnl_k hi_lp_1_1 hv9 (by omega) (by omega)) hO_14 (fun a b ha => ((hfr_13 a b (by omega)).trans (hfr_j1 a b (by omega)))) (lv_sub hl [0, 1, 2] rfl) hH hS
        · skip
          have h_21 := s_ne (rfl : r_10.toInt = _) (show (0 : Int32).toInt = 0 from rfl) c_17
          refine lv_iconst (v := 1) hx hb dX12_wanted_28 (by decide) ?_
          refine lv_goto (tgt := 33) hx hb dX12_wanted_29 (by decide) ?_
          refine lv_iadd hx hb dX12_wanted_33 ?_
          obtain ⟨z_22, ez_22, hz_22⟩ := s_add (rfl : t.toInt = _) (show (1 : Int32).toInt = 1 from rfl) (by omega) (by omega)
          refine sj_i ez_22 ?_
          refine lv_istore_n (lv' := [(1, .int z_22), (2, .int f), (0, .ref (g 36))]) hx hb dX12_wanted_34 rfl hl (by decide) rfl (fun ls hl => ?_)
          obtain ⟨z_23, ez_23, hz_23⟩ := s_add (rfl : f.toInt = _) (show (1 : Int32).toInt = 1 from rfl) (by omega) (by omega)
          refine lv_iinc (v := z_23) (lv' := [(2, .int z_23), (1, .int z_22), (0, .ref (g 36))]) hx hb dX12_wanted_35 hl (k := 1) rfl ez_23 (by decide) rfl (fun ls hl => ?_)
          refine lv_goto (tgt := 4) hx hb dX12_wanted_38 (by decide) ?_
          exact ih_lp_1 z_22 z_23 _ _ _ ls (by omega) (by omega) (by omega) (by omega) (cnl_k hi_lp_1_1 hv9 (by omega) (by omega)) hO_14 (fun a b ha => ((hfr_13 a b (by omega)).trans (hfr_j1 a b (by omega)))) (lv_sub hl [0, 1, 2] rfl) hH hS
  have hl_24 : (0 : Int32).toInt = 0 := rfl
  have hl_25 : (0 : Int32).toInt = 0 := rfl
  exact lp_1 _ 0 0 _ _ _ ls (Nat.lt_succ_self _) (by omega) (by omega) (by omega) (cnl_k0 (by omega) (by first | rfl | omega)) hO (fun a b ha => rfl) (lv_sub hl [0, 1, 2] rfl) hH hS
set_option maxHeartbeats 2000000 in
set_option maxRecDepth 100000 in
theorem mv_settle2 (l : Launch) (D : va_G) (g : Nat → Nat) (ka : Nat → ClassId) (ad : Nat → Nat) (i : Nat → Nat → Int32) (r : Nat → Nat → Nat) (L : Nat → Nat → Int64) (d : Nat → Nat → UInt64)  (hO : OkI i) (hR : RS r) (sz : Nat) (hev : (i 36 81).toInt ≤ 2000000000) (hr1 : (i 36 76).toInt = 1) : Met l yX12_settle wsX12_settle ({ frames := 1, cells := 0, slots := 0, locals := 25 }) (va_Pc [.ref (g 36)] (sj_B D (hwc g ka i r L d) (hT ka) sz (gx ad (va_A (hwc g ka i r L d) sz)))) (sj_Qv (S := (Nat → Nat → Int32)) D (fun u => OkI u ∧ (∀ a b, ¬ ((a = 36 ∧ (b = 76 ∨ b = 81)) ∨ a = 426) → u a b = i a b) ∧ ((u 36 76).toInt = (if lvB i (i 36 77).toInt.toNat = true then (i 36 76).toInt else 0)) ∧ (((u 36 81).toInt ≤ (i 36 81).toInt + 1)) ∧ ((u 36 81).toInt + (u 36 76).toInt = (i 36 81).toInt + 1)) (fun u => hwc g ka u r L d) (fun _ => []) (va_A (hwc g ka i r L d) sz)) 0 0 (va_A (hwc g ka i r L d) sz) := by
  refine x_met (Ex := gx ad) (cc := cX12_settle) (maxL := 3) (ret := none) (by decide) rfl (Nat.le_of_ble_eq_true rfl) ?_
  intro p e s m below meth c A ls hx hb hr hml hts hown hlocks hA hS hH hK hE hl
  have hown : s.vm.findClass RX12 = some m.cls := hown
  have in12 : ∀ w ∈ wsX120, w ∈ wsX12_settle := (fun _ h => (List.mem_cons_of_mem _ (List.mem_append_right _ h)))
  have wd0 := hts (.fieldLink RX12 504 "StoryDeskModel" "upcoming" "I") (List.mem_cons_of_mem _ (List.mem_append_left _ lm0))
  have wd1 := hts (.fieldLink RX12 165 "StoryDeskModel" "cases" "I") (List.mem_cons_of_mem _ (List.mem_append_left _ lm1))
  have wd2 := hts (.fieldLink RX12 507 "StoryDeskModel" "workers" "I") (List.mem_cons_of_mem _ (List.mem_append_left _ lm2))
  have wd3 := hts (.fieldLink RX12 168 "StoryDeskModel" "running" "Z") (List.mem_cons_of_mem _ (List.mem_append_left _ lm4))
  have wd4 := hts (.fieldLink RX12 510 "StoryDeskModel" "worst" "I") (List.mem_cons_of_mem _ (List.mem_append_left _ lm5))
  have wd5 := hts (.fieldLink RX12 460 "StoryDeskModel" "units" "I") (List.mem_cons_of_mem _ (List.mem_append_left _ lm6))
  have wd6 := hts (.fieldLink RX12 492 "StoryDeskModel" "job" "[I") (List.mem_cons_of_mem _ (List.mem_append_left _ lm3))
  have hl : lv_has ls 3 [(0, .ref (g 36))] := hl
  have hK : va_K D vwCl (hT ka) s := hK
  have hb77 : (0 : Int) ≤ (i 36 77).toInt ∧ (i 36 77).toInt ≤ 3 := hO 36 77
  refine lv_aload_n hx hb dX12_settle_0 rfl (lv_at hl 0 rfl) ?_
  have bx_1 : (0 : Int) ≤ (i 36 79).toInt ∧ (i 36 79).toInt ≤ 24 := hO 36 79
  refine h_geti (ci := 12) (C := RX12) (F := TX12) (N := 86) hx hb hts in12 hown hK hH (by decide) (rfl : kd 36 = 12) (by decide) rfl 79 (by decide) wd0 (fun _ h9 => h9) (by decide) rfl dX12_settle_1 ?_
  refine lv_aload_n hx hb dX12_settle_4 rfl (lv_at hl 0 rfl) ?_
  have bx_2 : (0 : Int) ≤ (i 36 33).toInt ∧ (i 36 33).toInt ≤ 24 := hO 36 33
  refine h_geti (ci := 12) (C := RX12) (F := TX12) (N := 86) hx hb hts in12 hown hK hH (by decide) (rfl : kd 36 = 12) (by decide) rfl 33 (by decide) wd1 (fun _ h9 => h9) (by decide) rfl dX12_settle_5 ?_
  refine lv_icmp_ge (tgt := 15) hx hb dX12_settle_8 (by decide) (fun c_3 => ?_) (fun c_3 => ?_)
  · skip
    have h_4 := s_le (rfl : (i 36 33).toInt = _) (rfl : (i 36 79).toInt = _) c_3
    refine lv_iconst (v := 0) hx hb dX12_settle_15 (by decide) ?_
    refine lv_istore_n (lv' := [(1, .int 0), (0, .ref (g 36))]) hx hb dX12_settle_16 rfl hl (by decide) rfl (fun ls hl => ?_)
    refine lv_iconst (v := 0) hx hb dX12_settle_17 (by decide) ?_
    refine lv_istore_n (lv' := [(2, .int 0), (1, .int 0), (0, .ref (g 36))]) hx hb dX12_settle_18 rfl hl (by decide) rfl (fun ls hl => ?_)
    -- loop at 19
    have lp_5 : ∀ (fuel_lp_5 : Nat) (t : Int32) (f : Int32) (H : Heap) (locs : List Loc) (ls : Array Slot), (3 - f.toInt).toNat < fuel_lp_5 → (0 : Int) ≤ t.toInt ∧ t.toInt ≤ 1 → (0 : Int) ≤ f.toInt ∧ f.toInt ≤ 3 → t.toInt = b01 (lvB i f.toInt.toNat) → f.toInt ≤ (i 36 77).toInt → lv_has ls 3 [(2, .int f), (1, .int t), (0, .ref (g 36))] → sj_H D A (hwc g ka i r L d) H → va_S A s.heap H locs → W p l e (headSpec wsX12_settle ({ frames := 1, cells := 0, slots := 0, locals := 25 })).room s m ([.ref (g 36)] : List Value).toArray below meth c H locs 0 0 (MQ below (sj_Qv (S := (Nat → Nat → Int32)) D (fun u => OkI u ∧ (∀ a b, ¬ ((a = 36 ∧ (b = 76 ∨ b = 81)) ∨ a = 426) → u a b = i a b) ∧ ((u 36 76).toInt = (if lvB i (i 36 77).toInt.toNat = true then (i 36 76).toInt else 0)) ∧ (((u 36 81).toInt ≤ (i 36 81).toInt + 1)) ∧ ((u 36 81).toInt + (u 36 76).toInt = (i 36 81).toInt + 1)) (fun u => hwc g ka u r L d) (fun _ => []) A) ([.ref (g 36)] : List Value).toArray s 0 0 A) (F0 m 19 ls []) := by
      intro fuel_lp_5
      induction fuel_lp_5 with
      | zero => intros; omega
      | succ fuel_lp_5 ih_lp_5 =>
        intro t f H locs ls hm hr_t hr_f hi_lp_5_0 hi_lp_5_1 hl hH hS
        refine lv_iload_n hx hb dX12_settle_19 rfl (lv_at hl 0 rfl) ?_
        refine lv_aload_n hx hb dX12_settle_20 rfl (lv_at hl 2 rfl) ?_
        have bx_6 : (0 : Int) ≤ (i 36 77).toInt ∧ (i 36 77).toInt ≤ 3 := hO 36 77
        refine h_geti (ci := 12) (C := RX12) (F := TX12) (N := 86) hx hb hts in12 hown hK hH (by decide) (rfl : kd 36 = 12) (by decide) rfl 77 (by decide) wd2 (fun _ h9 => h9) (by decide) rfl dX12_settle_21 ?_
        refine lv_icmp_ge (tgt := 52) hx hb dX12_settle_24 (by decide) (fun c_7 => ?_) (fun c_7 => ?_)
        · skip
          have h_8 := s_le (rfl : (i 36 77).toInt = _) (rfl : f.toInt = _) c_7
          refine lv_iload_n hx hb dX12_settle_52 rfl (lv_at hl 1 rfl) ?_
          refine lv_if_eq (tgt := 57) hx hb dX12_settle_53 (by decide) (fun c_9 => ?_) (fun c_9 => ?_)
          · skip
            have h_10 := s_eq (rfl : t.toInt = _) (show (0 : Int32).toInt = 0 from rfl) c_9
            refine lv_aload_n hx hb dX12_settle_57 rfl (lv_at hl 2 rfl) ?_
            refine lv_iconst (v := 0) hx hb dX12_settle_58 (by decide) ?_
            have hO_11 := okp hO (n := 36) (k := 76) (v := 0) (show (0 : Int) ≤ (0 : Int32).toInt ∧ (0 : Int32).toInt ≤ 1 from ⟨by decide, by decide⟩)
            refine h_puti (ty := .boolean) (ci := 12) (C := RX12) (F := TX12) (N := 86) hx hb hts in12 tyX12 tyX12_ok nmX12 hown hK hH hS (by decide) (rfl : kd 36 = 12) (by decide) rfl 76 (by decide) wd3 (fun _ h9 => h9) rfl (by decide +kernel) (by decide +kernel) (by decide +kernel) (by decide) rfl dX12_settle_59 (fun H locs hH hS => ?_)
            refine lv_aload_n hx hb dX12_settle_62 rfl (lv_at hl 2 rfl) ?_
            refine lv_iconst (v := 5) hx hb dX12_settle_63 (by decide) ?_
            refine lv_aload_n hx hb dX12_settle_64 rfl (lv_at hl 2 rfl) ?_
            have bx_12 : (0 : Int) ≤ (i 36 80).toInt ∧ (i 36 80).toInt ≤ 5 := hO 36 80
            refine h_geti (ci := 12) (C := RX12) (F := TX12) (N := 86) hx hb hts in12 hown hK hH (by decide) (rfl : kd 36 = 12) (by decide) rfl 80 (by decide) wd4 (fun _ h9 => h9) (by decide) rfl dX12_settle_65 ?_
            refine sj_i (y := (i 36 80)) (up2_k _ _ (by decide)) ?_
            refine lv_aload_n hx hb dX12_settle_68 rfl (lv_at hl 2 rfl) ?_
            refine h_geti (ci := 12) (C := RX12) (F := TX12) (N := 86) hx hb hts in12 hown hK hH (by decide) (rfl : kd 36 = 12) (by decide) rfl 75 (by decide) wd5 (fun _ h9 => h9) (by decide) rfl dX12_settle_69 ?_
            refine sj_i (y := (i 36 75)) (up2_k _ _ (by decide)) ?_
            refine lv_iconst (v := 0) hx hb dX12_settle_72 (by decide) ?_
            have hl_13 : (5 : Int32).toInt = 5 := rfl
            have hl_14 : (0 : Int32).toInt = 0 := rfl
            have hp_15 : ((up2 i 36 76 0) 36 81).toInt = ((i 36 81) : Int32).toInt := congrArg Int32.toInt ((up2_k _ _ (by decide)))
            refine x_callv (va_runV (As := [.int 5, .int (i 36 80), .int (i 36 75), .int 0]) (rest := []) ⟨hx, hb, hml, hown, hts⟩ (m_tell l D g ka ad (up2 i 36 76 0) r L d 5 (i 36 80) (i 36 75) 0 hO_11 hR H.size (by omega)) (cwV 4 hts gX12_settle_X12_tell rfl rfl rfl (by decide +kernel) ⟨(Nat.le_of_ble_eq_true rfl), (Nat.le_of_ble_eq_true rfl)⟩) (x_preV (q := (RX12, TX12, 86)) hH hK (q_obj (by decide) (rfl : kd 36 = 12) (by decide)) rfl gxb (gxw hE hS (x_F hH hS hA))) rfl rfl hl.1 rfl (lv_room (Nat.le_of_ble_eq_true rfl)) dX12_settle_73 ⟨(Nat.le_of_ble_eq_true rfl), (Nat.le_of_ble_eq_true rfl)⟩) hH hS hA rfl rfl (fun im_18 H locs hw_17 hH hS => ?_)
            have hH : sj_H D A (hwc g ka im_18 r L d) H := hH
            obtain ⟨hO_20, hfr_19, he_21⟩ := hw_17
            have hbo := b01_c hi_lp_5_0
            rw [show f.toInt.toNat = (i 36 77).toInt.toNat by omega] at hbo
            have hp_22 : (im_18 36 76).toInt = (0 : Int32).toInt := congrArg Int32.toInt (((hfr_19 36 76 (by omega)).trans (up2_at _ _ _ _)))
            have hl_23 : (0 : Int32).toInt = 0 := rfl
            have hV_24 : (im_18 36 76).toInt = (if lvB i (i 36 77).toInt.toNat = true then (i 36 76).toInt else 0) := (by rw [if_neg (fun q => by have h9 := (hbo.resolve_left (fun q => by have := q.1; omega)).2; rw [q] at h9; exact absurd h9 (by decide))]; omega)
            have hp_25 : (im_18 36 81).toInt = ((im_18 36 81) : Int32).toInt := rfl
            have hV_26 : ((im_18 36 81).toInt ≤ (i 36 81).toInt + 1) := (by omega)
            have hp_27 : (im_18 36 81).toInt = ((im_18 36 81) : Int32).toInt := rfl
            have hp_28 : (im_18 36 76).toInt = (0 : Int32).toInt := congrArg Int32.toInt (((hfr_19 36 76 (by omega)).trans (up2_at _ _ _ _)))
            have hl_29 : (0 : Int32).toInt = 0 := rfl
            have hV_30 : (im_18 36 81).toInt + (im_18 36 76).toInt = (i 36 81).toInt + 1 := (by omega)
            exact sj_vret hx hb hr hlocks hS im_18 ⟨hO_20, (fun a b ha => ((hfr_19 a b (by omega)).trans (up2_o _ _ (by omega)))), hV_24, hV_26, hV_30⟩ hH (sj_Knil hK) (Nat.le_of_ble_eq_true rfl) (Nat.le_of_ble_eq_true rfl) dX12_settle_76
          · skip
            have h_31 := s_ne (rfl : t.toInt = _) (show (0 : Int32).toInt = 0 from rfl) c_9
            have hbo := b01_c hi_lp_5_0
            rw [show f.toInt.toNat = (i 36 77).toInt.toNat by omega] at hbo
            have hV_32 : (i 36 76).toInt = (if lvB i (i 36 77).toInt.toNat = true then (i 36 76).toInt else 0) := (by rw [if_pos (hbo.resolve_right (fun q => by have := q.1; omega)).2])
            have hp_33 : (i 36 81).toInt = ((i 36 81) : Int32).toInt := rfl
            have hV_34 : ((i 36 81).toInt ≤ (i 36 81).toInt + 1) := (by omega)
            have hp_35 : (i 36 81).toInt = ((i 36 81) : Int32).toInt := rfl
            have hp_36 : (i 36 76).toInt = ((i 36 76) : Int32).toInt := rfl
            have hV_37 : (i 36 81).toInt + (i 36 76).toInt = (i 36 81).toInt + 1 := (by omega)
            exact sj_vret hx hb hr hlocks hS i ⟨hO, (fun a b ha => rfl), hV_32, hV_34, hV_37⟩ hH (sj_Knil hK) (Nat.le_of_ble_eq_true rfl) (Nat.le_of_ble_eq_true rfl) dX12_settle_56
        · skip
          have h_38 := s_nle (rfl : (i 36 77).toInt = _) (rfl : f.toInt = _) c_7
          refine lv_iload_n hx hb dX12_settle_27 rfl (lv_at hl 1 rfl) ?_
          refine lv_if_ne (tgt := 40) hx hb dX12_settle_28 (by decide) (fun c_39 => ?_) (fun c_39 => ?_)
          · skip
            have h_40 := s_ne (rfl : t.toInt = _) (show (0 : Int32).toInt = 0 from rfl) c_39
            refine lv_iconst (v := 1) hx hb dX12_settle_40 (by decide) ?_
            refine lv_goto (tgt := 45) hx hb dX12_settle_41 (by decide) ?_
            refine lv_istore_n (lv' := [(1, .int 1), (2, .int f), (0, .ref (g 36))]) hx hb dX12_settle_45 rfl hl (by decide) rfl (fun ls hl => ?_)
            obtain ⟨z_41, ez_41, hz_41⟩ := s_add (rfl : f.toInt = _) (show (1 : Int32).toInt = 1 from rfl) (by omega) (by omega)
            refine lv_iinc (v := z_41) (lv' := [(2, .int z_41), (1, .int 1), (0, .ref (g 36))]) hx hb dX12_settle_46 hl (k := 1) rfl ez_41 (by decide) rfl (fun ls hl => ?_)
            refine lv_goto (tgt := 19) hx hb dX12_settle_49 (by decide) ?_
            have hl_42 : (1 : Int32).toInt = 1 := rfl
            exact ih_lp_5 1 z_41 _ _ ls (by omega) (by omega) (by omega) (lvB_s hi_lp_5_0 (by omega) (by omega) (by omega)) (by omega) (lv_sub hl [0, 1, 2] rfl) hH hS
          · skip
            have h_43 := s_eq (rfl : t.toInt = _) (show (0 : Int32).toInt = 0 from rfl) c_39
            refine lv_aload_n hx hb dX12_settle_31 rfl (lv_at hl 2 rfl) ?_
            refine h_getr (ci := 12) (C := RX12) (F := TX12) (N := 86) hx hb hts in12 hown hK hH (by decide) (rfl : kd 36 = 12) (by decide) rfl 83 (by decide) wd6 (fun _ h9 => h9) (by decide) rfl (t := 427) (hR 36 83 rfl) (by decide) dX12_settle_32 ?_
            refine lv_iload_n hx hb dX12_settle_35 rfl (lv_at hl 0 rfl) ?_
            have bx_44 : (-1 : Int) ≤ (i 427 (f.toInt).toNat).toInt ∧ (i 427 (f.toInt).toNat).toInt ≤ 23 := hO 427 (f.toInt).toNat
            refine h_iald hx hb hK hH (by decide) (rfl : kd 427 = 13) (s_vin (N := 3) (rfl : f.toInt = _) (rfl : ln 427 = 3) (by omega) (by omega)) dX12_settle_36 ?_
            have ek_45 : f.toNatClampNeg = (f.toInt).toNat := (s_cl (show f.toInt = f.toInt by omega))
            refine sj_i (y := (i 427 (f.toInt).toNat)) (by rw [ek_45]) ?_
            refine lv_if_lt (tgt := 44) hx hb dX12_settle_37 (by decide) (fun c_46 => ?_) (fun c_46 => ?_)
            · skip
              have h_47 := s_lt (rfl : (i 427 (f.toInt).toNat).toInt = _) (show (0 : Int32).toInt = 0 from rfl) c_46
              refine lv_iconst (v := 0) hx hb dX12_settle_44 (by decide) ?_
              refine lv_istore_n (lv' := [(1, .int 0), (2, .int f), (0, .ref (g 36))]) hx hb dX12_settle_45 rfl hl (by decide) rfl (fun ls hl => ?_)
              obtain ⟨z_48, ez_48, hz_48⟩ := s_add (rfl : f.toInt = _) (show (1 : Int32).toInt = 1 from rfl) (by omega) (by omega)
              refine lv_iinc (v := z_48) (lv' := [(2, .int z_48), (1, .int 0), (0, .ref (g 36))]) hx hb dX12_settle_46 hl (k := 1) rfl ez_48 (by decide) rfl (fun ls hl => ?_)
              refine lv_goto (tgt := 19) hx hb dX12_settle_49 (by decide) ?_
              have hl_49 : (0 : Int32).toInt = 0 := rfl
              exact ih_lp_5 0 z_48 _ _ ls (by omega) (by omega) (by omega) (lvB_s hi_lp_5_0 (by omega) (by omega) (by omega)) (by omega) (lv_sub hl [0, 1, 2] rfl) hH hS
            · skip
              have h_50 := s_nlt (rfl : (i 427 (f.toInt).toNat).toInt = _) (show (0 : Int32).toInt = 0 from rfl) c_46
              refine lv_iconst (v := 1) hx hb dX12_settle_40 (by decide) ?_
              refine lv_goto (tgt := 45) hx hb dX12_settle_41 (by decide) ?_
              refine lv_istore_n (lv' := [(1, .int 1), (2, .int f), (0, .ref (g 36))]) hx hb dX12_settle_45 rfl hl (by decide) rfl (fun ls hl => ?_)
              obtain ⟨z_51, ez_51, hz_51⟩ := s_add (rfl : f.toInt = _) (show (1 : Int32).toInt = 1 from rfl) (by omega) (by omega)
              refine lv_iinc (v := z_51) (lv' := [(2, .int z_51), (1, .int 1), (0, .ref (g 36))]) hx hb dX12_settle_46 hl (k := 1) rfl ez_51 (by decide) rfl (fun ls hl => ?_)
              refine lv_goto (tgt := 19) hx hb dX12_settle_49 (by decide) ?_
              have hl_52 : (1 : Int32).toInt = 1 := rfl
              exact ih_lp_5 1 z_51 _ _ ls (by omega) (by omega) (by omega) (lvB_s hi_lp_5_0 (by omega) (by omega) (by omega)) (by omega) (lv_sub hl [0, 1, 2] rfl) hH hS
    have hl_53 : (0 : Int32).toInt = 0 := rfl
    have hl_54 : (0 : Int32).toInt = 0 := rfl
    exact lp_5 _ 0 0 _ _ ls (Nat.lt_succ_self _) (by omega) (by omega) (lvB_0 (by omega)) (by omega) (lv_sub hl [0, 1, 2] rfl) hH hS
  · skip
    have h_55 := s_nle (rfl : (i 36 33).toInt = _) (rfl : (i 36 79).toInt = _) c_3
    refine lv_iconst (v := 1) hx hb dX12_settle_11 (by decide) ?_
    refine lv_goto (tgt := 16) hx hb dX12_settle_12 (by decide) ?_
    refine lv_istore_n (lv' := [(1, .int 1), (0, .ref (g 36))]) hx hb dX12_settle_16 rfl hl (by decide) rfl (fun ls hl => ?_)
    refine lv_iconst (v := 0) hx hb dX12_settle_17 (by decide) ?_
    refine lv_istore_n (lv' := [(2, .int 0), (1, .int 1), (0, .ref (g 36))]) hx hb dX12_settle_18 rfl hl (by decide) rfl (fun ls hl => ?_)
    -- loop at 19
    have lp_56 : ∀ (fuel_lp_56 : Nat) (t : Int32) (f : Int32) (H : Heap) (locs : List Loc) (ls : Array Slot), (3 - f.toInt).toNat < fuel_lp_56 → (0 : Int) ≤ t.toInt ∧ t.toInt ≤ 1 → (0 : Int) ≤ f.toInt ∧ f.toInt ≤ 3 → t.toInt = b01 (lvB i f.toInt.toNat) → f.toInt ≤ (i 36 77).toInt → lv_has ls 3 [(2, .int f), (1, .int t), (0, .ref (g 36))] → sj_H D A (hwc g ka i r L d) H → va_S A s.heap H locs → W p l e (headSpec wsX12_settle ({ frames := 1, cells := 0, slots := 0, locals := 25 })).room s m ([.ref (g 36)] : List Value).toArray below meth c H locs 0 0 (MQ below (sj_Qv (S := (Nat → Nat → Int32)) D (fun u => OkI u ∧ (∀ a b, ¬ ((a = 36 ∧ (b = 76 ∨ b = 81)) ∨ a = 426) → u a b = i a b) ∧ ((u 36 76).toInt = (if lvB i (i 36 77).toInt.toNat = true then (i 36 76).toInt else 0)) ∧ (((u 36 81).toInt ≤ (i 36 81).toInt + 1)) ∧ ((u 36 81).toInt + (u 36 76).toInt = (i 36 81).toInt + 1)) (fun u => hwc g ka u r L d) (fun _ => []) A) ([.ref (g 36)] : List Value).toArray s 0 0 A) (F0 m 19 ls []) := by
      intro fuel_lp_56
      induction fuel_lp_56 with
      | zero => intros; omega
      | succ fuel_lp_56 ih_lp_56 =>
        intro t f H locs ls hm hr_t hr_f hi_lp_56_0 hi_lp_56_1 hl hH hS
        refine lv_iload_n hx hb dX12_settle_19 rfl (lv_at hl 0 rfl) ?_
        refine lv_aload_n hx hb dX12_settle_20 rfl (lv_at hl 2 rfl) ?_
        have bx_57 : (0 : Int) ≤ (i 36 77).toInt ∧ (i 36 77).toInt ≤ 3 := hO 36 77
        refine h_geti (ci := 12) (C := RX12) (F := TX12) (N := 86) hx hb hts in12 hown hK hH (by decide) (rfl : kd 36 = 12) (by decide) rfl 77 (by decide) wd2 (fun _ h9 => h9) (by decide) rfl dX12_settle_21 ?_
        refine lv_icmp_ge (tgt := 52) hx hb dX12_settle_24 (by decide) (fun c_58 => ?_) (fun c_58 => ?_)
        · skip
          have h_59 := s_le (rfl : (i 36 77).toInt = _) (rfl : f.toInt = _) c_58
          refine lv_iload_n hx hb dX12_settle_52 rfl (lv_at hl 1 rfl) ?_
          refine lv_if_eq (tgt := 57) hx hb dX12_settle_53 (by decide) (fun c_60 => ?_) (fun c_60 => ?_)
          · skip
            have h_61 := s_eq (rfl : t.toInt = _) (show (0 : Int32).toInt = 0 from rfl) c_60
            refine lv_aload_n hx hb dX12_settle_57 rfl (lv_at hl 2 rfl) ?_
            refine lv_iconst (v := 0) hx hb dX12_settle_58 (by decide) ?_
            have hO_62 := okp hO (n := 36) (k := 76) (v := 0) (show (0 : Int) ≤ (0 : Int32).toInt ∧ (0 : Int32).toInt ≤ 1 from ⟨by decide, by decide⟩)
            refine h_puti (ty := .boolean) (ci := 12) (C := RX12) (F := TX12) (N := 86) hx hb hts in12 tyX12 tyX12_ok nmX12 hown hK hH hS (by decide) (rfl : kd 36 = 12) (by decide) rfl 76 (by decide) wd3 (fun _ h9 => h9) rfl (by decide +kernel) (by decide +kernel) (by decide +kernel) (by decide) rfl dX12_settle_59 (fun H locs hH hS => ?_)
            refine lv_aload_n hx hb dX12_settle_62 rfl (lv_at hl 2 rfl) ?_
            refine lv_iconst (v := 5) hx hb dX12_settle_63 (by decide) ?_
            refine lv_aload_n hx hb dX12_settle_64 rfl (lv_at hl 2 rfl) ?_
            have bx_63 : (0 : Int) ≤ (i 36 80).toInt ∧ (i 36 80).toInt ≤ 5 := hO 36 80
            refine h_geti (ci := 12) (C := RX12) (F := TX12) (N := 86) hx hb hts in12 hown hK hH (by decide) (rfl : kd 36 = 12) (by decide) rfl 80 (by decide) wd4 (fun _ h9 => h9) (by decide) rfl dX12_settle_65 ?_
            refine sj_i (y := (i 36 80)) (up2_k _ _ (by decide)) ?_
            refine lv_aload_n hx hb dX12_settle_68 rfl (lv_at hl 2 rfl) ?_
            refine h_geti (ci := 12) (C := RX12) (F := TX12) (N := 86) hx hb hts in12 hown hK hH (by decide) (rfl : kd 36 = 12) (by decide) rfl 75 (by decide) wd5 (fun _ h9 => h9) (by decide) rfl dX12_settle_69 ?_
            refine sj_i (y := (i 36 75)) (up2_k _ _ (by decide)) ?_
            refine lv_iconst (v := 0) hx hb dX12_settle_72 (by decide) ?_
            have hl_64 : (5 : Int32).toInt = 5 := rfl
            have hl_65 : (0 : Int32).toInt = 0 := rfl
            have hp_66 : ((up2 i 36 76 0) 36 81).toInt = ((i 36 81) : Int32).toInt := congrArg Int32.toInt ((up2_k _ _ (by decide)))
            refine x_callv (va_runV (As := [.int 5, .int (i 36 80), .int (i 36 75), .int 0]) (rest := []) ⟨hx, hb, hml, hown, hts⟩ (m_tell l D g ka ad (up2 i 36 76 0) r L d 5 (i 36 80) (i 36 75) 0 hO_62 hR H.size (by omega)) (cwV 4 hts gX12_settle_X12_tell rfl rfl rfl (by decide +kernel) ⟨(Nat.le_of_ble_eq_true rfl), (Nat.le_of_ble_eq_true rfl)⟩) (x_preV (q := (RX12, TX12, 86)) hH hK (q_obj (by decide) (rfl : kd 36 = 12) (by decide)) rfl gxb (gxw hE hS (x_F hH hS hA))) rfl rfl hl.1 rfl (lv_room (Nat.le_of_ble_eq_true rfl)) dX12_settle_73 ⟨(Nat.le_of_ble_eq_true rfl), (Nat.le_of_ble_eq_true rfl)⟩) hH hS hA rfl rfl (fun im_69 H locs hw_68 hH hS => ?_)
            have hH : sj_H D A (hwc g ka im_69 r L d) H := hH
            obtain ⟨hO_71, hfr_70, he_72⟩ := hw_68
            have hbo := b01_c hi_lp_56_0
            rw [show f.toInt.toNat = (i 36 77).toInt.toNat by omega] at hbo
            have hp_73 : (im_69 36 76).toInt = (0 : Int32).toInt := congrArg Int32.toInt (((hfr_70 36 76 (by omega)).trans (up2_at _ _ _ _)))
            have hl_74 : (0 : Int32).toInt = 0 := rfl
            have hV_75 : (im_69 36 76).toInt = (if lvB i (i 36 77).toInt.toNat = true then (i 36 76).toInt else 0) := (by rw [if_neg (fun q => by have h9 := (hbo.resolve_left (fun q => by have := q.1; omega)).2; rw [q] at h9; exact absurd h9 (by decide))]; omega)
            have hp_76 : (im_69 36 81).toInt = ((im_69 36 81) : Int32).toInt := rfl
            have hV_77 : ((im_69 36 81).toInt ≤ (i 36 81).toInt + 1) := (by omega)
            have hp_78 : (im_69 36 81).toInt = ((im_69 36 81) : Int32).toInt := rfl
            have hp_79 : (im_69 36 76).toInt = (0 : Int32).toInt := congrArg Int32.toInt (((hfr_70 36 76 (by omega)).trans (up2_at _ _ _ _)))
            have hl_80 : (0 : Int32).toInt = 0 := rfl
            have hV_81 : (im_69 36 81).toInt + (im_69 36 76).toInt = (i 36 81).toInt + 1 := (by omega)
            exact sj_vret hx hb hr hlocks hS im_69 ⟨hO_71, (fun a b ha => ((hfr_70 a b (by omega)).trans (up2_o _ _ (by omega)))), hV_75, hV_77, hV_81⟩ hH (sj_Knil hK) (Nat.le_of_ble_eq_true rfl) (Nat.le_of_ble_eq_true rfl) dX12_settle_76
          · skip
            have h_82 := s_ne (rfl : t.toInt = _) (show (0 : Int32).toInt = 0 from rfl) c_60
            have hbo := b01_c hi_lp_56_0
            rw [show f.toInt.toNat = (i 36 77).toInt.toNat by omega] at hbo
            have hV_83 : (i 36 76).toInt = (if lvB i (i 36 77).toInt.toNat = true then (i 36 76).toInt else 0) := (by rw [if_pos (hbo.resolve_right (fun q => by have := q.1; omega)).2])
            have hp_84 : (i 36 81).toInt = ((i 36 81) : Int32).toInt := rfl
            have hV_85 : ((i 36 81).toInt ≤ (i 36 81).toInt + 1) := (by omega)
            have hp_86 : (i 36 81).toInt = ((i 36 81) : Int32).toInt := rfl
            have hp_87 : (i 36 76).toInt = ((i 36 76) : Int32).toInt := rfl
            have hV_88 : (i 36 81).toInt + (i 36 76).toInt = (i 36 81).toInt + 1 := (by omega)
            exact sj_vret hx hb hr hlocks hS i ⟨hO, (fun a b ha => rfl), hV_83, hV_85, hV_88⟩ hH (sj_Knil hK) (Nat.le_of_ble_eq_true rfl) (Nat.le_of_ble_eq_true rfl) dX12_settle_56
        · skip
          have h_89 := s_nle (rfl : (i 36 77).toInt = _) (rfl : f.toInt = _) c_58
          refine lv_iload_n hx hb dX12_settle_27 rfl (lv_at hl 1 rfl) ?_
          refine lv_if_ne (tgt := 40) hx hb dX12_settle_28 (by decide) (fun c_90 => ?_) (fun c_90 => ?_)
          · skip
            have h_91 := s_ne (rfl : t.toInt = _) (show (0 : Int32).toInt = 0 from rfl) c_90
            refine lv_iconst (v := 1) hx hb dX12_settle_40 (by decide) ?_
            refine lv_goto (tgt := 45) hx hb dX12_settle_41 (by decide) ?_
            refine lv_istore_n (lv' := [(1, .int 1), (2, .int f), (0, .ref (g 36))]) hx hb dX12_settle_45 rfl hl (by decide) rfl (fun ls hl => ?_)
            obtain ⟨z_92, ez_92, hz_92⟩ := s_add (rfl : f.toInt = _) (show (1 : Int32).toInt = 1 from rfl) (by omega) (by omega)
            refine lv_iinc (v := z_92) (lv' := [(2, .int z_92), (1, .int 1), (0, .ref (g 36))]) hx hb dX12_settle_46 hl (k := 1) rfl ez_92 (by decide) rfl (fun ls hl => ?_)
            refine lv_goto (tgt := 19) hx hb dX12_settle_49 (by decide) ?_
            have hl_93 : (1 : Int32).toInt = 1 := rfl
            exact ih_lp_56 1 z_92 _ _ ls (by omega) (by omega) (by omega) (lvB_s hi_lp_56_0 (by omega) (by omega) (by omega)) (by omega) (lv_sub hl [0, 1, 2] rfl) hH hS
          · skip
            have h_94 := s_eq (rfl : t.toInt = _) (show (0 : Int32).toInt = 0 from rfl) c_90
            refine lv_aload_n hx hb dX12_settle_31 rfl (lv_at hl 2 rfl) ?_
            refine h_getr (ci := 12) (C := RX12) (F := TX12) (N := 86) hx hb hts in12 hown hK hH (by decide) (rfl : kd 36 = 12) (by decide) rfl 83 (by decide) wd6 (fun _ h9 => h9) (by decide) rfl (t := 427) (hR 36 83 rfl) (by decide) dX12_settle_32 ?_
            refine lv_iload_n hx hb dX12_settle_35 rfl (lv_at hl 0 rfl) ?_
            have bx_95 : (-1 : Int) ≤ (i 427 (f.toInt).toNat).toInt ∧ (i 427 (f.toInt).toNat).toInt ≤ 23 := hO 427 (f.toInt).toNat
            refine h_iald hx hb hK hH (by decide) (rfl : kd 427 = 13) (s_vin (N := 3) (rfl : f.toInt = _) (rfl : ln 427 = 3) (by omega) (by omega)) dX12_settle_36 ?_
            have ek_96 : f.toNatClampNeg = (f.toInt).toNat := (s_cl (show f.toInt = f.toInt by omega))
            refine sj_i (y := (i 427 (f.toInt).toNat)) (by rw [ek_96]) ?_
            refine lv_if_lt (tgt := 44) hx hb dX12_settle_37 (by decide) (fun c_97 => ?_) (fun c_97 => ?_)
            · skip
              have h_98 := s_lt (rfl : (i 427 (f.toInt).toNat).toInt = _) (show (0 : Int32).toInt = 0 from rfl) c_97
              refine lv_iconst (v := 0) hx hb dX12_settle_44 (by decide) ?_
              refine lv_istore_n (lv' := [(1, .int 0), (2, .int f), (0, .ref (g 36))]) hx hb dX12_settle_45 rfl hl (by decide) rfl (fun ls hl => ?_)
              obtain ⟨z_99, ez_99, hz_99⟩ := s_add (rfl : f.toInt = _) (show (1 : Int32).toInt = 1 from rfl) (by omega) (by omega)
              refine lv_iinc (v := z_99) (lv' := [(2, .int z_99), (1, .int 0), (0, .ref (g 36))]) hx hb dX12_settle_46 hl (k := 1) rfl ez_99 (by decide) rfl (fun ls hl => ?_)
              refine lv_goto (tgt := 19) hx hb dX12_settle_49 (by decide) ?_
              have hl_100 : (0 : Int32).toInt = 0 := rfl
              exact ih_lp_56 0 z_99 _ _ ls (by omega) (by omega) (by omega) (lvB_s hi_lp_56_0 (by omega) (by omega) (by omega)) (by omega) (lv_sub hl [0, 1, 2] rfl) hH hS
            · skip
              have h_101 := s_nlt (rfl : (i 427 (f.toInt).toNat).toInt = _) (show (0 : Int32).toInt = 0 from rfl) c_97
              refine lv_iconst (v := 1) hx hb dX12_settle_40 (by decide) ?_
              refine lv_goto (tgt := 45) hx hb dX12_settle_41 (by decide) ?_
              refine lv_istore_n (lv' := [(1, .int 1), (2, .int f), (0, .ref (g 36))]) hx hb dX12_settle_45 rfl hl (by decide) rfl (fun ls hl => ?_)
              obtain ⟨z_102, ez_102, hz_102⟩ := s_add (rfl : f.toInt = _) (show (1 : Int32).toInt = 1 from rfl) (by omega) (by omega)
              refine lv_iinc (v := z_102) (lv' := [(2, .int z_102), (1, .int 1), (0, .ref (g 36))]) hx hb dX12_settle_46 hl (k := 1) rfl ez_102 (by decide) rfl (fun ls hl => ?_)
              refine lv_goto (tgt := 19) hx hb dX12_settle_49 (by decide) ?_
              have hl_103 : (1 : Int32).toInt = 1 := rfl
              exact ih_lp_56 1 z_102 _ _ ls (by omega) (by omega) (by omega) (lvB_s hi_lp_56_0 (by omega) (by omega) (by omega)) (by omega) (lv_sub hl [0, 1, 2] rfl) hH hS
    have hl_104 : (1 : Int32).toInt = 1 := rfl
    have hl_105 : (0 : Int32).toInt = 0 := rfl
    exact lp_56 _ 1 0 _ _ ls (Nat.lt_succ_self _) (by omega) (by omega) (lvB_0 (by omega)) (by omega) (lv_sub hl [0, 1, 2] rfl) hH hS
set_option maxHeartbeats 2000000 in
set_option maxRecDepth 100000 in
theorem mv_read0 (l : Launch) (D : va_G) (g : Nat → Nat) (ka : Nat → ClassId) (ad : Nat → Nat) (i : Nat → Nat → Int32) (r : Nat → Nat → Nat) (L : Nat → Nat → Int64) (d : Nat → Nat → UInt64)  (hO : OkI i) (hR : RS r) (sz : Nat) (hb76 : (i 36 76).toInt = 1) : Met l yX12_read wsX12_read ({ frames := 2, cells := 0, slots := 0, locals := 41 }) (va_Pc [.ref (g 36)] (sj_B D (hwc g ka i r L d) (hT ka) sz (gx ad (va_A (hwc g ka i r L d) sz)))) (sj_Qi (S := (Nat → Nat → Int32)) D (fun v u => OkI u ∧ (∀ a b, ¬ ((a = 36 ∧ (b = 0))) → u a b = i a b) ∧ ((u 36 0).toInt = 1)) (fun u => hwc g ka u r L d) (fun _ => []) (va_A (hwc g ka i r L d) sz)) 0 0 (va_A (hwc g ka i r L d) sz) := by
  refine x_met (Ex := gx ad) (cc := cX12_read) (maxL := 5) (ret := (some .int)) (by decide) rfl (Nat.le_of_ble_eq_true rfl) ?_
  intro p e s m below meth c A ls hx hb hr hml hts hown hlocks hA hS hH hK hE hl
  have hown : s.vm.findClass RX12 = some m.cls := hown
  have hl : lv_has ls 5 [(0, .ref (g 36))] := hl
  have hK : va_K D vwCl (hT ka) s := hK
  refine lv_aload_n hx hb dX12_read_0 rfl (lv_at hl 0 rfl) ?_
  refine x_calli (va_runV (As := []) (rest := []) ⟨hx, hb, hml, hown, hts⟩ (mv_busy l D g ka ad i r L d  hO hR s.heap.size ) (cwV 0 hts gX12_read_X12_busy rfl rfl rfl (by decide +kernel) ⟨(Nat.le_of_ble_eq_true rfl), (Nat.le_of_ble_eq_true rfl)⟩) (x_preV (q := (RX12, TX12, 86)) hH hK (q_obj (by decide) (rfl : kd 36 = 12) (by decide)) rfl gxb (gxw hE hS (x_F hH hS hA))) rfl rfl hl.1 rfl (lv_room (Nat.le_of_ble_eq_true rfl)) dX12_read_1 ⟨(Nat.le_of_ble_eq_true rfl), (Nat.le_of_ble_eq_true rfl)⟩) hH hS hA rfl rfl (fun r_1 im_3 H locs hw_2 hH hS => ?_)
  have hH : sj_H D A (hwc g ka im_3 r L d) H := hH
  obtain ⟨hO_5, hfr_4, hr_6, he_7⟩ := hw_2
  have hr_6 : (0 : Int) ≤ r_1.toInt ∧ r_1.toInt ≤ 1 := hr_6
  refine lv_if_eq (tgt := 9) hx hb dX12_read_4 (by decide) (fun h => absurd h (p_ne (rfl : r_1.toInt = _) (show (0 : Int32).toInt = 0 from rfl) (by omega))) (fun _ => ?_)
  refine lv_iconst (v := 0) hx hb dX12_read_7 (by decide) ?_
  have hp_8 : (im_3 36 0).toInt = ((im_3 36 0) : Int32).toInt := rfl
  have hV_9 : (im_3 36 0).toInt = 1 := (by omega)
  exact sj_zret hx hb hr hlocks rfl hS im_3 ⟨hO_5, (fun a b ha => (hfr_4 a b (by omega))), hV_9⟩ hH (sj_Knil hK) (Nat.le_of_ble_eq_true rfl) (Nat.le_of_ble_eq_true rfl) dX12_read_8
set_option maxHeartbeats 2000000 in
set_option maxRecDepth 100000 in
theorem mv_define0 (l : Launch) (D : va_G) (g : Nat → Nat) (ka : Nat → ClassId) (ad : Nat → Nat) (i : Nat → Nat → Int32) (r : Nat → Nat → Nat) (L : Nat → Nat → Int64) (d : Nat → Nat → UInt64) (x : Int32) (hO : OkI i) (hR : RS r) (sz : Nat) (hb76 : (i 36 76).toInt = 1) : Met l yX12_define wsX12_define ({ frames := 2, cells := 0, slots := 0, locals := 41 }) (va_Pc [.ref (g 36), .int x] (sj_B D (hwc g ka i r L d) (hT ka) sz (gx ad (va_A (hwc g ka i r L d) sz)))) (sj_Qi (S := (Nat → Nat → Int32)) D (fun v u => OkI u ∧ (∀ a b, ¬ ((a = 36 ∧ (b = 0))) → u a b = i a b) ∧ ((u 36 0).toInt = 1)) (fun u => hwc g ka u r L d) (fun _ => []) (va_A (hwc g ka i r L d) sz)) 0 0 (va_A (hwc g ka i r L d) sz) := by
  refine x_met (Ex := gx ad) (cc := cX12_define) (maxL := 5) (ret := (some .int)) (by decide) rfl (Nat.le_of_ble_eq_true rfl) ?_
  intro p e s m below meth c A ls hx hb hr hml hts hown hlocks hA hS hH hK hE hl
  have hown : s.vm.findClass RX12 = some m.cls := hown
  have hl : lv_has ls 5 [(0, .ref (g 36)), (1, .int x)] := hl
  have hK : va_K D vwCl (hT ka) s := hK
  have hg_1 := s_rng x
  refine lv_aload_n hx hb dX12_define_0 rfl (lv_at hl 0 rfl) ?_
  refine x_calli (va_runV (As := []) (rest := []) ⟨hx, hb, hml, hown, hts⟩ (mv_busy l D g ka ad i r L d  hO hR s.heap.size ) (cwV 0 hts gX12_define_X12_busy rfl rfl rfl (by decide +kernel) ⟨(Nat.le_of_ble_eq_true rfl), (Nat.le_of_ble_eq_true rfl)⟩) (x_preV (q := (RX12, TX12, 86)) hH hK (q_obj (by decide) (rfl : kd 36 = 12) (by decide)) rfl gxb (gxw hE hS (x_F hH hS hA))) rfl rfl hl.1 rfl (lv_room (Nat.le_of_ble_eq_true rfl)) dX12_define_1 ⟨(Nat.le_of_ble_eq_true rfl), (Nat.le_of_ble_eq_true rfl)⟩) hH hS hA rfl rfl (fun r_2 im_4 H locs hw_3 hH hS => ?_)
  have hH : sj_H D A (hwc g ka im_4 r L d) H := hH
  obtain ⟨hO_6, hfr_5, hr_7, he_8⟩ := hw_3
  have hr_7 : (0 : Int) ≤ r_2.toInt ∧ r_2.toInt ≤ 1 := hr_7
  refine lv_if_eq (tgt := 9) hx hb dX12_define_4 (by decide) (fun h => absurd h (p_ne (rfl : r_2.toInt = _) (show (0 : Int32).toInt = 0 from rfl) (by omega))) (fun _ => ?_)
  refine lv_iconst (v := 0) hx hb dX12_define_7 (by decide) ?_
  have hp_9 : (im_4 36 0).toInt = ((im_4 36 0) : Int32).toInt := rfl
  have hV_10 : (im_4 36 0).toInt = 1 := (by omega)
  exact sj_zret hx hb hr hlocks rfl hS im_4 ⟨hO_6, (fun a b ha => (hfr_5 a b (by omega))), hV_10⟩ hH (sj_Knil hK) (Nat.le_of_ble_eq_true rfl) (Nat.le_of_ble_eq_true rfl) dX12_define_8
set_option maxHeartbeats 2000000 in
set_option maxRecDepth 100000 in
theorem mv_hook0 (l : Launch) (D : va_G) (g : Nat → Nat) (ka : Nat → ClassId) (ad : Nat → Nat) (i : Nat → Nat → Int32) (r : Nat → Nat → Nat) (L : Nat → Nat → Int64) (d : Nat → Nat → UInt64) (x : Int32) (y : Int32) (hO : OkI i) (hR : RS r) (sz : Nat) (hb76 : (i 36 76).toInt = 1) : Met l yX12_hook wsX12_hook ({ frames := 2, cells := 0, slots := 0, locals := 41 }) (va_Pc [.ref (g 36), .int x, .int y] (sj_B D (hwc g ka i r L d) (hT ka) sz (gx ad (va_A (hwc g ka i r L d) sz)))) (sj_Qi (S := (Nat → Nat → Int32)) D (fun v u => OkI u ∧ (∀ a b, ¬ ((a = 36 ∧ (b = 0))) → u a b = i a b) ∧ ((u 36 0).toInt = 1)) (fun u => hwc g ka u r L d) (fun _ => []) (va_A (hwc g ka i r L d) sz)) 0 0 (va_A (hwc g ka i r L d) sz) := by
  refine x_met (Ex := gx ad) (cc := cX12_hook) (maxL := 4) (ret := (some .int)) (by decide) rfl (Nat.le_of_ble_eq_true rfl) ?_
  intro p e s m below meth c A ls hx hb hr hml hts hown hlocks hA hS hH hK hE hl
  have hown : s.vm.findClass RX12 = some m.cls := hown
  have hl : lv_has ls 4 [(0, .ref (g 36)), (1, .int x), (2, .int y)] := hl
  have hK : va_K D vwCl (hT ka) s := hK
  have hg_1 := s_rng x
  have hg_2 := s_rng y
  refine lv_aload_n hx hb dX12_hook_0 rfl (lv_at hl 0 rfl) ?_
  refine x_calli (va_runV (As := []) (rest := []) ⟨hx, hb, hml, hown, hts⟩ (mv_busy l D g ka ad i r L d  hO hR s.heap.size ) (cwV 0 hts gX12_hook_X12_busy rfl rfl rfl (by decide +kernel) ⟨(Nat.le_of_ble_eq_true rfl), (Nat.le_of_ble_eq_true rfl)⟩) (x_preV (q := (RX12, TX12, 86)) hH hK (q_obj (by decide) (rfl : kd 36 = 12) (by decide)) rfl gxb (gxw hE hS (x_F hH hS hA))) rfl rfl hl.1 rfl (lv_room (Nat.le_of_ble_eq_true rfl)) dX12_hook_1 ⟨(Nat.le_of_ble_eq_true rfl), (Nat.le_of_ble_eq_true rfl)⟩) hH hS hA rfl rfl (fun r_3 im_5 H locs hw_4 hH hS => ?_)
  have hH : sj_H D A (hwc g ka im_5 r L d) H := hH
  obtain ⟨hO_7, hfr_6, hr_8, he_9⟩ := hw_4
  have hr_8 : (0 : Int) ≤ r_3.toInt ∧ r_3.toInt ≤ 1 := hr_8
  refine lv_if_eq (tgt := 9) hx hb dX12_hook_4 (by decide) (fun h => absurd h (p_ne (rfl : r_3.toInt = _) (show (0 : Int32).toInt = 0 from rfl) (by omega))) (fun _ => ?_)
  refine lv_iconst (v := 0) hx hb dX12_hook_7 (by decide) ?_
  have hp_10 : (im_5 36 0).toInt = ((im_5 36 0) : Int32).toInt := rfl
  have hV_11 : (im_5 36 0).toInt = 1 := (by omega)
  exact sj_zret hx hb hr hlocks rfl hS im_5 ⟨hO_7, (fun a b ha => (hfr_6 a b (by omega))), hV_11⟩ hH (sj_Knil hK) (Nat.le_of_ble_eq_true rfl) (Nat.le_of_ble_eq_true rfl) dX12_hook_8
set_option maxHeartbeats 2000000 in
set_option maxRecDepth 100000 in
theorem mv_filter0 (l : Launch) (D : va_G) (g : Nat → Nat) (ka : Nat → ClassId) (ad : Nat → Nat) (i : Nat → Nat → Int32) (r : Nat → Nat → Nat) (L : Nat → Nat → Int64) (d : Nat → Nat → UInt64)  (hO : OkI i) (hR : RS r) (sz : Nat) (hb76 : (i 36 76).toInt = 1) : Met l yX12_filter wsX12_filter ({ frames := 2, cells := 0, slots := 0, locals := 41 }) (va_Pc [.ref (g 36)] (sj_B D (hwc g ka i r L d) (hT ka) sz (gx ad (va_A (hwc g ka i r L d) sz)))) (sj_Qi (S := (Nat → Nat → Int32)) D (fun v u => OkI u ∧ (∀ a b, ¬ ((a = 36 ∧ (b = 0))) → u a b = i a b) ∧ ((u 36 0).toInt = 1)) (fun u => hwc g ka u r L d) (fun _ => []) (va_A (hwc g ka i r L d) sz)) 0 0 (va_A (hwc g ka i r L d) sz) := by
  refine x_met (Ex := gx ad) (cc := cX12_filter) (maxL := 1) (ret := (some .int)) (by decide) rfl (Nat.le_of_ble_eq_true rfl) ?_
  intro p e s m below meth c A ls hx hb hr hml hts hown hlocks hA hS hH hK hE hl
  have hown : s.vm.findClass RX12 = some m.cls := hown
  have hl : lv_has ls 1 [(0, .ref (g 36))] := hl
  have hK : va_K D vwCl (hT ka) s := hK
  refine lv_aload_n hx hb dX12_filter_0 rfl (lv_at hl 0 rfl) ?_
  refine x_calli (va_runV (As := []) (rest := []) ⟨hx, hb, hml, hown, hts⟩ (mv_busy l D g ka ad i r L d  hO hR s.heap.size ) (cwV 0 hts gX12_filter_X12_busy rfl rfl rfl (by decide +kernel) ⟨(Nat.le_of_ble_eq_true rfl), (Nat.le_of_ble_eq_true rfl)⟩) (x_preV (q := (RX12, TX12, 86)) hH hK (q_obj (by decide) (rfl : kd 36 = 12) (by decide)) rfl gxb (gxw hE hS (x_F hH hS hA))) rfl rfl hl.1 rfl (lv_room (Nat.le_of_ble_eq_true rfl)) dX12_filter_1 ⟨(Nat.le_of_ble_eq_true rfl), (Nat.le_of_ble_eq_true rfl)⟩) hH hS hA rfl rfl (fun r_1 im_3 H locs hw_2 hH hS => ?_)
  have hH : sj_H D A (hwc g ka im_3 r L d) H := hH
  obtain ⟨hO_5, hfr_4, hr_6, he_7⟩ := hw_2
  have hr_6 : (0 : Int) ≤ r_1.toInt ∧ r_1.toInt ≤ 1 := hr_6
  refine lv_if_eq (tgt := 9) hx hb dX12_filter_4 (by decide) (fun h => absurd h (p_ne (rfl : r_1.toInt = _) (show (0 : Int32).toInt = 0 from rfl) (by omega))) (fun _ => ?_)
  refine lv_iconst (v := 0) hx hb dX12_filter_7 (by decide) ?_
  have hp_8 : (im_3 36 0).toInt = ((im_3 36 0) : Int32).toInt := rfl
  have hV_9 : (im_3 36 0).toInt = 1 := (by omega)
  exact sj_zret hx hb hr hlocks rfl hS im_3 ⟨hO_5, (fun a b ha => (hfr_4 a b (by omega))), hV_9⟩ hH (sj_Knil hK) (Nat.le_of_ble_eq_true rfl) (Nat.le_of_ble_eq_true rfl) dX12_filter_8
set_option maxHeartbeats 2000000 in
set_option maxRecDepth 100000 in
theorem mv_start0 (l : Launch) (D : va_G) (g : Nat → Nat) (ka : Nat → ClassId) (ad : Nat → Nat) (i : Nat → Nat → Int32) (r : Nat → Nat → Nat) (L : Nat → Nat → Int64) (d : Nat → Nat → UInt64) (x : Int32) (hO : OkI i) (hR : RS r) (sz : Nat) (hb76 : (i 36 76).toInt = 1) : Met l yX12_start wsX12_start ({ frames := 2, cells := 0, slots := 0, locals := 41 }) (va_Pc [.ref (g 36), .int x] (sj_B D (hwc g ka i r L d) (hT ka) sz (gx ad (va_A (hwc g ka i r L d) sz)))) (sj_Qi (S := (Nat → Nat → Int32)) D (fun v u => OkI u ∧ (∀ a b, ¬ ((a = 36 ∧ (b = 0))) → u a b = i a b) ∧ ((u 36 0).toInt = 1)) (fun u => hwc g ka u r L d) (fun _ => []) (va_A (hwc g ka i r L d) sz)) 0 0 (va_A (hwc g ka i r L d) sz) := by
  refine x_met (Ex := gx ad) (cc := cX12_start) (maxL := 3) (ret := (some .int)) (by decide) rfl (Nat.le_of_ble_eq_true rfl) ?_
  intro p e s m below meth c A ls hx hb hr hml hts hown hlocks hA hS hH hK hE hl
  have hown : s.vm.findClass RX12 = some m.cls := hown
  have hl : lv_has ls 3 [(0, .ref (g 36)), (1, .int x)] := hl
  have hK : va_K D vwCl (hT ka) s := hK
  have hg_1 := s_rng x
  refine lv_aload_n hx hb dX12_start_0 rfl (lv_at hl 0 rfl) ?_
  refine x_calli (va_runV (As := []) (rest := []) ⟨hx, hb, hml, hown, hts⟩ (mv_busy l D g ka ad i r L d  hO hR s.heap.size ) (cwV 0 hts gX12_start_X12_busy rfl rfl rfl (by decide +kernel) ⟨(Nat.le_of_ble_eq_true rfl), (Nat.le_of_ble_eq_true rfl)⟩) (x_preV (q := (RX12, TX12, 86)) hH hK (q_obj (by decide) (rfl : kd 36 = 12) (by decide)) rfl gxb (gxw hE hS (x_F hH hS hA))) rfl rfl hl.1 rfl (lv_room (Nat.le_of_ble_eq_true rfl)) dX12_start_1 ⟨(Nat.le_of_ble_eq_true rfl), (Nat.le_of_ble_eq_true rfl)⟩) hH hS hA rfl rfl (fun r_2 im_4 H locs hw_3 hH hS => ?_)
  have hH : sj_H D A (hwc g ka im_4 r L d) H := hH
  obtain ⟨hO_6, hfr_5, hr_7, he_8⟩ := hw_3
  have hr_7 : (0 : Int) ≤ r_2.toInt ∧ r_2.toInt ≤ 1 := hr_7
  refine lv_if_eq (tgt := 9) hx hb dX12_start_4 (by decide) (fun h => absurd h (p_ne (rfl : r_2.toInt = _) (show (0 : Int32).toInt = 0 from rfl) (by omega))) (fun _ => ?_)
  refine lv_iconst (v := 0) hx hb dX12_start_7 (by decide) ?_
  have hp_9 : (im_4 36 0).toInt = ((im_4 36 0) : Int32).toInt := rfl
  have hV_10 : (im_4 36 0).toInt = 1 := (by omega)
  exact sj_zret hx hb hr hlocks rfl hS im_4 ⟨hO_6, (fun a b ha => (hfr_5 a b (by omega))), hV_10⟩ hH (sj_Knil hK) (Nat.le_of_ble_eq_true rfl) (Nat.le_of_ble_eq_true rfl) dX12_start_8
set_option maxHeartbeats 2000000 in
set_option maxRecDepth 100000 in
theorem mv_error (l : Launch) (D : va_G) (g : Nat → Nat) (ka : Nat → ClassId) (ad : Nat → Nat) (i : Nat → Nat → Int32) (r : Nat → Nat → Nat) (L : Nat → Nat → Int64) (d : Nat → Nat → UInt64) (x : Int32) (y : Int32) (hO : OkI i) (hR : RS r) (sz : Nat)  : Met l yX12_error wsX12_error ({ frames := 1, cells := 0, slots := 0, locals := 21 }) (va_Pc [.ref (g 36), .int x, .int y] (sj_B D (hwc g ka i r L d) (hT ka) sz (gx ad (va_A (hwc g ka i r L d) sz)))) (sj_Qi (S := (Nat → Nat → Int32)) D (fun v u => OkI u ∧ (∀ a b, ¬ ((a = 36 ∧ (b = 0))) → u a b = i a b) ∧ (((x.toInt < 0 ∨ (i 36 6).toInt ≤ x.toInt ∨ y.toInt < 0 ∨ 1 < y.toInt) ∧ (u 36 0).toInt = 1) ∨ (((0 ≤ x.toInt ∧ x.toInt < (i 36 6).toInt) ∧ (0 ≤ y.toInt ∧ y.toInt ≤ 1)) ∧ (u 36 0).toInt = 0 ∧ v.toInt = (i 381 (2 * x.toInt + y.toInt).toNat).toInt))) (fun u => hwc g ka u r L d) (fun _ => []) (va_A (hwc g ka i r L d) sz)) 0 0 (va_A (hwc g ka i r L d) sz) := by
  refine x_met (Ex := gx ad) (cc := cX12_error) (maxL := 3) (ret := (some .int)) (by decide) rfl (Nat.le_of_ble_eq_true rfl) ?_
  intro p e s m below meth c A ls hx hb hr hml hts hown hlocks hA hS hH hK hE hl
  have hown : s.vm.findClass RX12 = some m.cls := hown
  have in12 : ∀ w ∈ wsX120, w ∈ wsX12_error := (fun _ h => (List.mem_cons_of_mem _ (List.mem_append_right _ h)))
  have wd0 := hts (.fieldLink RX12 57 "StoryDeskModel" "wrongs" "I") (List.mem_cons_of_mem _ (List.mem_append_left _ lm0))
  have wd1 := hts (.fieldLink RX12 60 "StoryDeskModel" "errors" "[I") (List.mem_cons_of_mem _ (List.mem_append_left _ lm1))
  have hl : lv_has ls 3 [(0, .ref (g 36)), (1, .int x), (2, .int y)] := hl
  have hK : va_K D vwCl (hT ka) s := hK
  have hg_1 := s_rng x
  have hg_2 := s_rng y
  have hb6 : (0 : Int) ≤ (i 36 6).toInt ∧ (i 36 6).toInt ≤ 20 := hO 36 6
  refine lv_aload_n hx hb dX12_error_0 rfl (lv_at hl 0 rfl) ?_
  refine lv_iload_n hx hb dX12_error_1 rfl (lv_at hl 1 rfl) ?_
  refine lv_if_lt (tgt := 22) hx hb dX12_error_2 (by decide) (fun c_3 => ?_) (fun c_3 => ?_)
  · skip
    have h_4 := s_lt (rfl : x.toInt = _) (show (0 : Int32).toInt = 0 from rfl) c_3
    refine lv_iconst (v := 1) hx hb dX12_error_22 (by decide) ?_
    refine lv_goto (tgt := 27) hx hb dX12_error_23 (by decide) ?_
    have hl_5 : (1 : Int32).toInt = 1 := rfl
    refine x_calli (va_runV (As := [.int 1]) (rest := []) ⟨hx, hb, hml, hown, hts⟩ (mv_throwsNow l D g ka ad i r L d 1 hO hR s.heap.size (by first | omega | decide) (by first | omega | decide)) (cwV 1 hts gX12_error_X12_throwsNow rfl rfl rfl (by decide +kernel) ⟨(Nat.le_of_ble_eq_true rfl), (Nat.le_of_ble_eq_true rfl)⟩) (x_preV (q := (RX12, TX12, 86)) hH hK (q_obj (by decide) (rfl : kd 36 = 12) (by decide)) rfl gxb (gxw hE hS (x_F hH hS hA))) rfl rfl hl.1 rfl (lv_room (Nat.le_of_ble_eq_true rfl)) dX12_error_27 ⟨(Nat.le_of_ble_eq_true rfl), (Nat.le_of_ble_eq_true rfl)⟩) hH hS hA rfl rfl (fun r_6 im_8 H locs hw_7 hH hS => ?_)
    have hH : sj_H D A (hwc g ka im_8 r L d) H := hH
    obtain ⟨hO_10, hfr_9, hr_11, he_12⟩ := hw_7
    have hr_11 : (0 : Int) ≤ r_6.toInt ∧ r_6.toInt ≤ 1 := hr_11
    refine lv_if_eq (tgt := 37) hx hb dX12_error_30 (by decide) (fun c_13 => ?_) (fun c_13 => ?_)
    · skip
      have h_14 := s_eq (rfl : r_6.toInt = _) (show (0 : Int32).toInt = 0 from rfl) c_13
      exfalso; omega
    · skip
      have h_15 := s_ne (rfl : r_6.toInt = _) (show (0 : Int32).toInt = 0 from rfl) c_13
      refine lv_iconst (v := 0) hx hb dX12_error_33 (by decide) ?_
      refine lv_goto (tgt := 47) hx hb dX12_error_34 (by decide) ?_
      have hp_16 : (im_8 36 0).toInt = ((im_8 36 0) : Int32).toInt := rfl
      have hV_17 : ((x.toInt < 0 ∨ (i 36 6).toInt ≤ x.toInt ∨ y.toInt < 0 ∨ 1 < y.toInt) ∧ (im_8 36 0).toInt = 1) ∨ (((0 ≤ x.toInt ∧ x.toInt < (i 36 6).toInt) ∧ (0 ≤ y.toInt ∧ y.toInt ≤ 1)) ∧ (im_8 36 0).toInt = 0 ∧ (0 : Int32).toInt = (i 381 (2 * x.toInt + y.toInt).toNat).toInt) := (by omega)
      exact sj_zret hx hb hr hlocks rfl hS im_8 ⟨hO_10, (fun a b ha => (hfr_9 a b (by omega))), hV_17⟩ hH (sj_Knil hK) (Nat.le_of_ble_eq_true rfl) (Nat.le_of_ble_eq_true rfl) dX12_error_47
  · skip
    have h_18 := s_nlt (rfl : x.toInt = _) (show (0 : Int32).toInt = 0 from rfl) c_3
    refine lv_iload_n hx hb dX12_error_5 rfl (lv_at hl 1 rfl) ?_
    refine lv_aload_n hx hb dX12_error_6 rfl (lv_at hl 0 rfl) ?_
    have bx_19 : (0 : Int) ≤ (i 36 6).toInt ∧ (i 36 6).toInt ≤ 20 := hO 36 6
    refine h_geti (ci := 12) (C := RX12) (F := TX12) (N := 86) hx hb hts in12 hown hK hH (by decide) (rfl : kd 36 = 12) (by decide) rfl 6 (by decide) wd0 (fun _ h9 => h9) (by decide) rfl dX12_error_7 ?_
    refine lv_icmp_ge (tgt := 22) hx hb dX12_error_10 (by decide) (fun c_20 => ?_) (fun c_20 => ?_)
    · skip
      have h_21 := s_le (rfl : (i 36 6).toInt = _) (rfl : x.toInt = _) c_20
      refine lv_iconst (v := 1) hx hb dX12_error_22 (by decide) ?_
      refine lv_goto (tgt := 27) hx hb dX12_error_23 (by decide) ?_
      have hl_22 : (1 : Int32).toInt = 1 := rfl
      refine x_calli (va_runV (As := [.int 1]) (rest := []) ⟨hx, hb, hml, hown, hts⟩ (mv_throwsNow l D g ka ad i r L d 1 hO hR s.heap.size (by first | omega | decide) (by first | omega | decide)) (cwV 1 hts gX12_error_X12_throwsNow rfl rfl rfl (by decide +kernel) ⟨(Nat.le_of_ble_eq_true rfl), (Nat.le_of_ble_eq_true rfl)⟩) (x_preV (q := (RX12, TX12, 86)) hH hK (q_obj (by decide) (rfl : kd 36 = 12) (by decide)) rfl gxb (gxw hE hS (x_F hH hS hA))) rfl rfl hl.1 rfl (lv_room (Nat.le_of_ble_eq_true rfl)) dX12_error_27 ⟨(Nat.le_of_ble_eq_true rfl), (Nat.le_of_ble_eq_true rfl)⟩) hH hS hA rfl rfl (fun r_23 im_25 H locs hw_24 hH hS => ?_)
      have hH : sj_H D A (hwc g ka im_25 r L d) H := hH
      obtain ⟨hO_27, hfr_26, hr_28, he_29⟩ := hw_24
      have hr_28 : (0 : Int) ≤ r_23.toInt ∧ r_23.toInt ≤ 1 := hr_28
      refine lv_if_eq (tgt := 37) hx hb dX12_error_30 (by decide) (fun c_30 => ?_) (fun c_30 => ?_)
      · skip
        have h_31 := s_eq (rfl : r_23.toInt = _) (show (0 : Int32).toInt = 0 from rfl) c_30
        exfalso; omega
      · skip
        have h_32 := s_ne (rfl : r_23.toInt = _) (show (0 : Int32).toInt = 0 from rfl) c_30
        refine lv_iconst (v := 0) hx hb dX12_error_33 (by decide) ?_
        refine lv_goto (tgt := 47) hx hb dX12_error_34 (by decide) ?_
        have hp_33 : (im_25 36 0).toInt = ((im_25 36 0) : Int32).toInt := rfl
        have hV_34 : ((x.toInt < 0 ∨ (i 36 6).toInt ≤ x.toInt ∨ y.toInt < 0 ∨ 1 < y.toInt) ∧ (im_25 36 0).toInt = 1) ∨ (((0 ≤ x.toInt ∧ x.toInt < (i 36 6).toInt) ∧ (0 ≤ y.toInt ∧ y.toInt ≤ 1)) ∧ (im_25 36 0).toInt = 0 ∧ (0 : Int32).toInt = (i 381 (2 * x.toInt + y.toInt).toNat).toInt) := (by omega)
        exact sj_zret hx hb hr hlocks rfl hS im_25 ⟨hO_27, (fun a b ha => (hfr_26 a b (by omega))), hV_34⟩ hH (sj_Knil hK) (Nat.le_of_ble_eq_true rfl) (Nat.le_of_ble_eq_true rfl) dX12_error_47
    · skip
      have h_35 := s_nle (rfl : (i 36 6).toInt = _) (rfl : x.toInt = _) c_20
      refine lv_iload_n hx hb dX12_error_13 rfl (lv_at hl 2 rfl) ?_
      refine lv_if_lt (tgt := 22) hx hb dX12_error_14 (by decide) (fun c_36 => ?_) (fun c_36 => ?_)
      · skip
        have h_37 := s_lt (rfl : y.toInt = _) (show (0 : Int32).toInt = 0 from rfl) c_36
        refine lv_iconst (v := 1) hx hb dX12_error_22 (by decide) ?_
        refine lv_goto (tgt := 27) hx hb dX12_error_23 (by decide) ?_
        have hl_38 : (1 : Int32).toInt = 1 := rfl
        refine x_calli (va_runV (As := [.int 1]) (rest := []) ⟨hx, hb, hml, hown, hts⟩ (mv_throwsNow l D g ka ad i r L d 1 hO hR s.heap.size (by first | omega | decide) (by first | omega | decide)) (cwV 1 hts gX12_error_X12_throwsNow rfl rfl rfl (by decide +kernel) ⟨(Nat.le_of_ble_eq_true rfl), (Nat.le_of_ble_eq_true rfl)⟩) (x_preV (q := (RX12, TX12, 86)) hH hK (q_obj (by decide) (rfl : kd 36 = 12) (by decide)) rfl gxb (gxw hE hS (x_F hH hS hA))) rfl rfl hl.1 rfl (lv_room (Nat.le_of_ble_eq_true rfl)) dX12_error_27 ⟨(Nat.le_of_ble_eq_true rfl), (Nat.le_of_ble_eq_true rfl)⟩) hH hS hA rfl rfl (fun r_39 im_41 H locs hw_40 hH hS => ?_)
        have hH : sj_H D A (hwc g ka im_41 r L d) H := hH
        obtain ⟨hO_43, hfr_42, hr_44, he_45⟩ := hw_40
        have hr_44 : (0 : Int) ≤ r_39.toInt ∧ r_39.toInt ≤ 1 := hr_44
        refine lv_if_eq (tgt := 37) hx hb dX12_error_30 (by decide) (fun c_46 => ?_) (fun c_46 => ?_)
        · skip
          have h_47 := s_eq (rfl : r_39.toInt = _) (show (0 : Int32).toInt = 0 from rfl) c_46
          exfalso; omega
        · skip
          have h_48 := s_ne (rfl : r_39.toInt = _) (show (0 : Int32).toInt = 0 from rfl) c_46
          refine lv_iconst (v := 0) hx hb dX12_error_33 (by decide) ?_
          refine lv_goto (tgt := 47) hx hb dX12_error_34 (by decide) ?_
          have hp_49 : (im_41 36 0).toInt = ((im_41 36 0) : Int32).toInt := rfl
          have hV_50 : ((x.toInt < 0 ∨ (i 36 6).toInt ≤ x.toInt ∨ y.toInt < 0 ∨ 1 < y.toInt) ∧ (im_41 36 0).toInt = 1) ∨ (((0 ≤ x.toInt ∧ x.toInt < (i 36 6).toInt) ∧ (0 ≤ y.toInt ∧ y.toInt ≤ 1)) ∧ (im_41 36 0).toInt = 0 ∧ (0 : Int32).toInt = (i 381 (2 * x.toInt + y.toInt).toNat).toInt) := (by omega)
          exact sj_zret hx hb hr hlocks rfl hS im_41 ⟨hO_43, (fun a b ha => (hfr_42 a b (by omega))), hV_50⟩ hH (sj_Knil hK) (Nat.le_of_ble_eq_true rfl) (Nat.le_of_ble_eq_true rfl) dX12_error_47
      · skip
        have h_51 := s_nlt (rfl : y.toInt = _) (show (0 : Int32).toInt = 0 from rfl) c_36
        refine lv_iload_n hx hb dX12_error_17 rfl (lv_at hl 2 rfl) ?_
        refine lv_iconst (v := 1) hx hb dX12_error_18 (by decide) ?_
        refine lv_icmp_le (tgt := 26) hx hb dX12_error_19 (by decide) (fun c_52 => ?_) (fun c_52 => ?_)
        · skip
          have h_53 := s_le (rfl : y.toInt = _) (show (1 : Int32).toInt = 1 from rfl) c_52
          refine lv_iconst (v := 0) hx hb dX12_error_26 (by decide) ?_
          have hl_54 : (0 : Int32).toInt = 0 := rfl
          refine x_calli (va_runV (As := [.int 0]) (rest := []) ⟨hx, hb, hml, hown, hts⟩ (mv_throwsNow l D g ka ad i r L d 0 hO hR s.heap.size (by first | omega | decide) (by first | omega | decide)) (cwV 1 hts gX12_error_X12_throwsNow rfl rfl rfl (by decide +kernel) ⟨(Nat.le_of_ble_eq_true rfl), (Nat.le_of_ble_eq_true rfl)⟩) (x_preV (q := (RX12, TX12, 86)) hH hK (q_obj (by decide) (rfl : kd 36 = 12) (by decide)) rfl gxb (gxw hE hS (x_F hH hS hA))) rfl rfl hl.1 rfl (lv_room (Nat.le_of_ble_eq_true rfl)) dX12_error_27 ⟨(Nat.le_of_ble_eq_true rfl), (Nat.le_of_ble_eq_true rfl)⟩) hH hS hA rfl rfl (fun r_55 im_57 H locs hw_56 hH hS => ?_)
          have hH : sj_H D A (hwc g ka im_57 r L d) H := hH
          obtain ⟨hO_59, hfr_58, hr_60, he_61⟩ := hw_56
          have hr_60 : (0 : Int) ≤ r_55.toInt ∧ r_55.toInt ≤ 1 := hr_60
          refine lv_if_eq (tgt := 37) hx hb dX12_error_30 (by decide) (fun c_62 => ?_) (fun c_62 => ?_)
          · skip
            have h_63 := s_eq (rfl : r_55.toInt = _) (show (0 : Int32).toInt = 0 from rfl) c_62
            refine lv_aload_n hx hb dX12_error_37 rfl (lv_at hl 0 rfl) ?_
            refine h_getr (ci := 12) (C := RX12) (F := TX12) (N := 86) hx hb hts in12 hown hK hH (by decide) (rfl : kd 36 = 12) (by decide) rfl 5 (by decide) wd1 (fun _ h9 => h9) (by decide) rfl (t := 381) (hR 36 5 rfl) (by decide) dX12_error_38 ?_
            refine lv_iconst (v := 2) hx hb dX12_error_41 (by decide) ?_
            refine lv_iload_n hx hb dX12_error_42 rfl (lv_at hl 1 rfl) ?_
            refine lv_imul hx hb dX12_error_43 ?_
            obtain ⟨z_64, ez_64, hz_64⟩ := s_mul (show (2 : Int32).toInt = 2 from rfl) (rfl : x.toInt = _) (by omega) (by omega)
            refine sj_i ez_64 ?_
            refine lv_iload_n hx hb dX12_error_44 rfl (lv_at hl 2 rfl) ?_
            refine lv_iadd hx hb dX12_error_45 ?_
            obtain ⟨z_65, ez_65, hz_65⟩ := s_add (rfl : z_64.toInt = _) (rfl : y.toInt = _) (by omega) (by omega)
            refine sj_i ez_65 ?_
            refine h_iald hx hb hK hH (by decide) (rfl : kd 381 = 13) (s_vin (N := 40) (rfl : z_65.toInt = _) (rfl : ln 381 = 40) (by omega) (by omega)) dX12_error_46 ?_
            have ek_66 : z_65.toNatClampNeg = (2 * x.toInt + y.toInt).toNat := (s_cl (show z_65.toInt = 2 * x.toInt + y.toInt by omega))
            refine sj_i (y := (i 381 (2 * x.toInt + y.toInt).toNat)) (by rw [ek_66]; exact (hfr_58 381 (2 * x.toInt + y.toInt).toNat (by omega))) ?_
            have hp_67 : (im_57 36 0).toInt = ((im_57 36 0) : Int32).toInt := rfl
            have hV_68 : ((x.toInt < 0 ∨ (i 36 6).toInt ≤ x.toInt ∨ y.toInt < 0 ∨ 1 < y.toInt) ∧ (im_57 36 0).toInt = 1) ∨ (((0 ≤ x.toInt ∧ x.toInt < (i 36 6).toInt) ∧ (0 ≤ y.toInt ∧ y.toInt ≤ 1)) ∧ (im_57 36 0).toInt = 0 ∧ ((i 381 (2 * x.toInt + y.toInt).toNat) : Int32).toInt = (i 381 (2 * x.toInt + y.toInt).toNat).toInt) := (by omega)
            exact sj_zret hx hb hr hlocks rfl hS im_57 ⟨hO_59, (fun a b ha => (hfr_58 a b (by omega))), hV_68⟩ hH (sj_Knil hK) (Nat.le_of_ble_eq_true rfl) (Nat.le_of_ble_eq_true rfl) dX12_error_47
          · skip
            have h_69 := s_ne (rfl : r_55.toInt = _) (show (0 : Int32).toInt = 0 from rfl) c_62
            exfalso; omega
        · skip
          have h_70 := s_nle (rfl : y.toInt = _) (show (1 : Int32).toInt = 1 from rfl) c_52
          refine lv_iconst (v := 1) hx hb dX12_error_22 (by decide) ?_
          refine lv_goto (tgt := 27) hx hb dX12_error_23 (by decide) ?_
          have hl_71 : (1 : Int32).toInt = 1 := rfl
          refine x_calli (va_runV (As := [.int 1]) (rest := []) ⟨hx, hb, hml, hown, hts⟩ (mv_throwsNow l D g ka ad i r L d 1 hO hR s.heap.size (by first | omega | decide) (by first | omega | decide)) (cwV 1 hts gX12_error_X12_throwsNow rfl rfl rfl (by decide +kernel) ⟨(Nat.le_of_ble_eq_true rfl), (Nat.le_of_ble_eq_true rfl)⟩) (x_preV (q := (RX12, TX12, 86)) hH hK (q_obj (by decide) (rfl : kd 36 = 12) (by decide)) rfl gxb (gxw hE hS (x_F hH hS hA))) rfl rfl hl.1 rfl (lv_room (Nat.le_of_ble_eq_true rfl)) dX12_error_27 ⟨(Nat.le_of_ble_eq_true rfl), (Nat.le_of_ble_eq_true rfl)⟩) hH hS hA rfl rfl (fun r_72 im_74 H locs hw_73 hH hS => ?_)
          have hH : sj_H D A (hwc g ka im_74 r L d) H := hH
          obtain ⟨hO_76, hfr_75, hr_77, he_78⟩ := hw_73
          have hr_77 : (0 : Int) ≤ r_72.toInt ∧ r_72.toInt ≤ 1 := hr_77
          refine lv_if_eq (tgt := 37) hx hb dX12_error_30 (by decide) (fun c_79 => ?_) (fun c_79 => ?_)
          · skip
            have h_80 := s_eq (rfl : r_72.toInt = _) (show (0 : Int32).toInt = 0 from rfl) c_79
            exfalso; omega
          · skip
            have h_81 := s_ne (rfl : r_72.toInt = _) (show (0 : Int32).toInt = 0 from rfl) c_79
            refine lv_iconst (v := 0) hx hb dX12_error_33 (by decide) ?_
            refine lv_goto (tgt := 47) hx hb dX12_error_34 (by decide) ?_
            have hp_82 : (im_74 36 0).toInt = ((im_74 36 0) : Int32).toInt := rfl
            have hV_83 : ((x.toInt < 0 ∨ (i 36 6).toInt ≤ x.toInt ∨ y.toInt < 0 ∨ 1 < y.toInt) ∧ (im_74 36 0).toInt = 1) ∨ (((0 ≤ x.toInt ∧ x.toInt < (i 36 6).toInt) ∧ (0 ≤ y.toInt ∧ y.toInt ≤ 1)) ∧ (im_74 36 0).toInt = 0 ∧ (0 : Int32).toInt = (i 381 (2 * x.toInt + y.toInt).toNat).toInt) := (by omega)
            exact sj_zret hx hb hr hlocks rfl hS im_74 ⟨hO_76, (fun a b ha => (hfr_75 a b (by omega))), hV_83⟩ hH (sj_Knil hK) (Nat.le_of_ble_eq_true rfl) (Nat.le_of_ble_eq_true rfl) dX12_error_47
set_option maxHeartbeats 2000000 in
set_option maxRecDepth 100000 in
theorem mv_command (l : Launch) (D : va_G) (g : Nat → Nat) (ka : Nat → ClassId) (ad : Nat → Nat) (i : Nat → Nat → Int32) (r : Nat → Nat → Nat) (L : Nat → Nat → Int64) (d : Nat → Nat → UInt64) (x : Int32) (y : Int32) (z : Int32) (hO : OkI i) (hR : RS r) (sz : Nat)  : Met l yX12_command wsX12_command ({ frames := 0, cells := 0, slots := 0, locals := 0 }) (va_Pc [.ref (g 36), .int x, .int y, .int z] (sj_B D (hwc g ka i r L d) (hT ka) sz (gx ad (va_A (hwc g ka i r L d) sz)))) (sj_Qi (S := (Nat → Nat → Int32)) D (fun v u => OkI u ∧ (∀ a b, ¬ ((a = 36 ∧ (b = 0)) ∨ a = 422 ∨ a = 423 ∨ a = 424) → u a b = i a b) ∧ ((0 : Int) ≤ v.toInt ∧ v.toInt ≤ 1) ∧ ((v.toInt = 1 ∧ ((i 36 76).toInt = 0 ∧ cmO 424 i x.toInt y.toInt) ∧ cmA 424 422 423 i u x.toInt y.toInt z.toInt) ∨ (v.toInt = 0 ∧ ¬ ((i 36 76).toInt = 0 ∧ cmO 424 i x.toInt y.toInt) ∧ u 422 = i 422 ∧ u 423 = i 423 ∧ u 424 = i 424))) (fun u => hwc g ka u r L d) (fun _ => []) (va_A (hwc g ka i r L d) sz)) 0 0 (va_A (hwc g ka i r L d) sz) := by
  refine x_met (Ex := gx ad) (cc := cX12_command) (maxL := 5) (ret := (some .boolean)) (by decide) rfl (Nat.le_of_ble_eq_true rfl) ?_
  intro p e s m below meth c A ls hx hb hr hml hts hown hlocks hA hS hH hK hE hl
  have hown : s.vm.findClass RX12 = some m.cls := hown
  have in12 : ∀ w ∈ wsX120, w ∈ wsX12_command := (fun _ h => (List.mem_cons_of_mem _ (List.mem_append_right _ h)))
  have wd0 := hts (.fieldLink RX12 1 "StoryDeskModel" "thrown" "I") (List.mem_cons_of_mem _ (List.mem_append_left _ lm0))
  have wd1 := hts (.fieldLink RX12 168 "StoryDeskModel" "running" "Z") (List.mem_cons_of_mem _ (List.mem_append_left _ lm1))
  have wd2 := hts (.fieldLink RX12 424 "StoryDeskModel" "scripted" "[I") (List.mem_cons_of_mem _ (List.mem_append_left _ lm2))
  have wd3 := hts (.fieldLink RX12 427 "StoryDeskModel" "commands" "[I") (List.mem_cons_of_mem _ (List.mem_append_left _ lm3))
  have wd4 := hts (.fieldLink RX12 430 "StoryDeskModel" "numbers" "[I") (List.mem_cons_of_mem _ (List.mem_append_left _ lm4))
  have hl : lv_has ls 5 [(0, .ref (g 36)), (1, .int x), (2, .int y), (3, .int z)] := hl
  have hK : va_K D vwCl (hT ka) s := hK
  have hg_1 := s_rng x
  have hg_2 := s_rng y
  have hg_3 := s_rng z
  have hb24 := hO 424 x.toInt.toNat
  have hb76 : (0 : Int) ≤ (i 36 76).toInt ∧ (i 36 76).toInt ≤ 1 := hO 36 76
  refine lv_aload_n hx hb dX12_command_0 rfl (lv_at hl 0 rfl) ?_
  refine lv_iconst (v := 0) hx hb dX12_command_1 (by decide) ?_
  have hO_4 := okp hO (n := 36) (k := 0) (v := 0) (show (0 : Int) ≤ (0 : Int32).toInt ∧ (0 : Int32).toInt ≤ 3 from ⟨by decide, by decide⟩)
  refine h_puti (ty := .int) (ci := 12) (C := RX12) (F := TX12) (N := 86) hx hb hts in12 tyX12 tyX12_ok nmX12 hown hK hH hS (by decide) (rfl : kd 36 = 12) (by decide) rfl 0 (by decide) wd0 (fun _ h9 => h9) rfl (by decide +kernel) rfl rfl (by decide) rfl dX12_command_2 (fun H locs hH hS => ?_)
  refine lv_aload_n hx hb dX12_command_5 rfl (lv_at hl 0 rfl) ?_
  have bx_5 : (0 : Int) ≤ (i 36 76).toInt ∧ (i 36 76).toInt ≤ 1 := hO 36 76
  refine h_geti (ci := 12) (C := RX12) (F := TX12) (N := 86) hx hb hts in12 hown hK hH (by decide) (rfl : kd 36 = 12) (by decide) rfl 76 (by decide) wd1 (fun _ h9 => h9) (by decide) rfl dX12_command_6 ?_
  refine sj_i (y := (i 36 76)) (up2_k _ _ (by decide)) ?_
  refine lv_if_ne (tgt := 42) hx hb dX12_command_9 (by decide) (fun c_6 => ?_) (fun c_6 => ?_)
  · skip
    have h_7 := s_ne (rfl : (i 36 76).toInt = _) (show (0 : Int32).toInt = 0 from rfl) c_6
    refine lv_iconst (v := 0) hx hb dX12_command_42 (by decide) ?_
    have hp_8 : ((up2 i 36 0 0) 36 0).toInt = (0 : Int32).toInt := congrArg Int32.toInt ((up2_at _ _ _ _))
    have hl_9 : (0 : Int32).toInt = 0 := rfl
    have hV_10 : ((0 : Int32).toInt = 1 ∧ ((i 36 76).toInt = 0 ∧ cmO 424 i x.toInt y.toInt) ∧ cmA 424 422 423 i (up2 i 36 0 0) x.toInt y.toInt z.toInt) ∨ ((0 : Int32).toInt = 0 ∧ ¬ ((i 36 76).toInt = 0 ∧ cmO 424 i x.toInt y.toInt) ∧ (up2 i 36 0 0) 422 = i 422 ∧ (up2 i 36 0 0) 423 = i 423 ∧ (up2 i 36 0 0) 424 = i 424) := (Or.inr ⟨rfl, fun q => by have q1 := q.2; unfold cmO at q1; omega, funext fun b9 => (up2_o _ _ (by omega)), funext fun b9 => (up2_o _ _ (by omega)), funext fun b9 => (up2_o _ _ (by omega))⟩)
    exact sj_zret hx hb hr hlocks (by decide +kernel) hS (up2 i 36 0 0) ⟨hO_4, (fun a b ha => (up2_o _ _ (by omega))), ⟨by decide, by decide⟩, hV_10⟩ hH (sj_Knil hK) (Nat.le_of_ble_eq_true rfl) (Nat.le_of_ble_eq_true rfl) dX12_command_43
  · skip
    have h_11 := s_eq (rfl : (i 36 76).toInt = _) (show (0 : Int32).toInt = 0 from rfl) c_6
    refine lv_iload_n hx hb dX12_command_12 rfl (lv_at hl 1 rfl) ?_
    refine lv_if_lt (tgt := 42) hx hb dX12_command_13 (by decide) (fun c_12 => ?_) (fun c_12 => ?_)
    · skip
      have h_13 := s_lt (rfl : x.toInt = _) (show (0 : Int32).toInt = 0 from rfl) c_12
      refine lv_iconst (v := 0) hx hb dX12_command_42 (by decide) ?_
      have hp_14 : ((up2 i 36 0 0) 36 0).toInt = (0 : Int32).toInt := congrArg Int32.toInt ((up2_at _ _ _ _))
      have hl_15 : (0 : Int32).toInt = 0 := rfl
      have hV_16 : ((0 : Int32).toInt = 1 ∧ ((i 36 76).toInt = 0 ∧ cmO 424 i x.toInt y.toInt) ∧ cmA 424 422 423 i (up2 i 36 0 0) x.toInt y.toInt z.toInt) ∨ ((0 : Int32).toInt = 0 ∧ ¬ ((i 36 76).toInt = 0 ∧ cmO 424 i x.toInt y.toInt) ∧ (up2 i 36 0 0) 422 = i 422 ∧ (up2 i 36 0 0) 423 = i 423 ∧ (up2 i 36 0 0) 424 = i 424) := (Or.inr ⟨rfl, fun q => by have q1 := q.2; unfold cmO at q1; omega, funext fun b9 => (up2_o _ _ (by omega)), funext fun b9 => (up2_o _ _ (by omega)), funext fun b9 => (up2_o _ _ (by omega))⟩)
      exact sj_zret hx hb hr hlocks (by decide +kernel) hS (up2 i 36 0 0) ⟨hO_4, (fun a b ha => (up2_o _ _ (by omega))), ⟨by decide, by decide⟩, hV_16⟩ hH (sj_Knil hK) (Nat.le_of_ble_eq_true rfl) (Nat.le_of_ble_eq_true rfl) dX12_command_43
    · skip
      have h_17 := s_nlt (rfl : x.toInt = _) (show (0 : Int32).toInt = 0 from rfl) c_12
      refine lv_iload_n hx hb dX12_command_16 rfl (lv_at hl 1 rfl) ?_
      refine lv_bipush (v := 7) hx hb dX12_command_17 (by decide) ?_
      refine lv_icmp_gt (tgt := 42) hx hb dX12_command_19 (by decide) (fun c_18 => ?_) (fun c_18 => ?_)
      · skip
        have h_19 := s_lt (show (7 : Int32).toInt = 7 from rfl) (rfl : x.toInt = _) c_18
        refine lv_iconst (v := 0) hx hb dX12_command_42 (by decide) ?_
        have hp_20 : ((up2 i 36 0 0) 36 0).toInt = (0 : Int32).toInt := congrArg Int32.toInt ((up2_at _ _ _ _))
        have hl_21 : (0 : Int32).toInt = 0 := rfl
        have hV_22 : ((0 : Int32).toInt = 1 ∧ ((i 36 76).toInt = 0 ∧ cmO 424 i x.toInt y.toInt) ∧ cmA 424 422 423 i (up2 i 36 0 0) x.toInt y.toInt z.toInt) ∨ ((0 : Int32).toInt = 0 ∧ ¬ ((i 36 76).toInt = 0 ∧ cmO 424 i x.toInt y.toInt) ∧ (up2 i 36 0 0) 422 = i 422 ∧ (up2 i 36 0 0) 423 = i 423 ∧ (up2 i 36 0 0) 424 = i 424) := (Or.inr ⟨rfl, fun q => by have q1 := q.2; unfold cmO at q1; omega, funext fun b9 => (up2_o _ _ (by omega)), funext fun b9 => (up2_o _ _ (by omega)), funext fun b9 => (up2_o _ _ (by omega))⟩)
        exact sj_zret hx hb hr hlocks (by decide +kernel) hS (up2 i 36 0 0) ⟨hO_4, (fun a b ha => (up2_o _ _ (by omega))), ⟨by decide, by decide⟩, hV_22⟩ hH (sj_Knil hK) (Nat.le_of_ble_eq_true rfl) (Nat.le_of_ble_eq_true rfl) dX12_command_43
      · skip
        have h_23 := s_nlt (show (7 : Int32).toInt = 7 from rfl) (rfl : x.toInt = _) c_18
        refine lv_iload_n hx hb dX12_command_22 rfl (lv_at hl 2 rfl) ?_
        refine lv_if_lt (tgt := 42) hx hb dX12_command_23 (by decide) (fun c_24 => ?_) (fun c_24 => ?_)
        · skip
          have h_25 := s_lt (rfl : y.toInt = _) (show (0 : Int32).toInt = 0 from rfl) c_24
          refine lv_iconst (v := 0) hx hb dX12_command_42 (by decide) ?_
          have hp_26 : ((up2 i 36 0 0) 36 0).toInt = (0 : Int32).toInt := congrArg Int32.toInt ((up2_at _ _ _ _))
          have hl_27 : (0 : Int32).toInt = 0 := rfl
          have hV_28 : ((0 : Int32).toInt = 1 ∧ ((i 36 76).toInt = 0 ∧ cmO 424 i x.toInt y.toInt) ∧ cmA 424 422 423 i (up2 i 36 0 0) x.toInt y.toInt z.toInt) ∨ ((0 : Int32).toInt = 0 ∧ ¬ ((i 36 76).toInt = 0 ∧ cmO 424 i x.toInt y.toInt) ∧ (up2 i 36 0 0) 422 = i 422 ∧ (up2 i 36 0 0) 423 = i 423 ∧ (up2 i 36 0 0) 424 = i 424) := (Or.inr ⟨rfl, fun q => by have q1 := q.2; unfold cmO at q1; omega, funext fun b9 => (up2_o _ _ (by omega)), funext fun b9 => (up2_o _ _ (by omega)), funext fun b9 => (up2_o _ _ (by omega))⟩)
          exact sj_zret hx hb hr hlocks (by decide +kernel) hS (up2 i 36 0 0) ⟨hO_4, (fun a b ha => (up2_o _ _ (by omega))), ⟨by decide, by decide⟩, hV_28⟩ hH (sj_Knil hK) (Nat.le_of_ble_eq_true rfl) (Nat.le_of_ble_eq_true rfl) dX12_command_43
        · skip
          have h_29 := s_nlt (rfl : y.toInt = _) (show (0 : Int32).toInt = 0 from rfl) c_24
          refine lv_iload_n hx hb dX12_command_26 rfl (lv_at hl 2 rfl) ?_
          refine lv_bipush (v := 8) hx hb dX12_command_27 (by decide) ?_
          refine lv_icmp_gt (tgt := 42) hx hb dX12_command_29 (by decide) (fun c_30 => ?_) (fun c_30 => ?_)
          · skip
            have h_31 := s_lt (show (8 : Int32).toInt = 8 from rfl) (rfl : y.toInt = _) c_30
            refine lv_iconst (v := 0) hx hb dX12_command_42 (by decide) ?_
            have hp_32 : ((up2 i 36 0 0) 36 0).toInt = (0 : Int32).toInt := congrArg Int32.toInt ((up2_at _ _ _ _))
            have hl_33 : (0 : Int32).toInt = 0 := rfl
            have hV_34 : ((0 : Int32).toInt = 1 ∧ ((i 36 76).toInt = 0 ∧ cmO 424 i x.toInt y.toInt) ∧ cmA 424 422 423 i (up2 i 36 0 0) x.toInt y.toInt z.toInt) ∨ ((0 : Int32).toInt = 0 ∧ ¬ ((i 36 76).toInt = 0 ∧ cmO 424 i x.toInt y.toInt) ∧ (up2 i 36 0 0) 422 = i 422 ∧ (up2 i 36 0 0) 423 = i 423 ∧ (up2 i 36 0 0) 424 = i 424) := (Or.inr ⟨rfl, fun q => by have q1 := q.2; unfold cmO at q1; omega, funext fun b9 => (up2_o _ _ (by omega)), funext fun b9 => (up2_o _ _ (by omega)), funext fun b9 => (up2_o _ _ (by omega))⟩)
            exact sj_zret hx hb hr hlocks (by decide +kernel) hS (up2 i 36 0 0) ⟨hO_4, (fun a b ha => (up2_o _ _ (by omega))), ⟨by decide, by decide⟩, hV_34⟩ hH (sj_Knil hK) (Nat.le_of_ble_eq_true rfl) (Nat.le_of_ble_eq_true rfl) dX12_command_43
          · skip
            have h_35 := s_nlt (show (8 : Int32).toInt = 8 from rfl) (rfl : y.toInt = _) c_30
            refine lv_aload_n hx hb dX12_command_32 rfl (lv_at hl 0 rfl) ?_
            refine h_getr (ci := 12) (C := RX12) (F := TX12) (N := 86) hx hb hts in12 hown hK hH (by decide) (rfl : kd 36 = 12) (by decide) rfl 72 (by decide) wd2 (fun _ h9 => h9) (by decide) rfl (t := 424) (hR 36 72 rfl) (by decide) dX12_command_33 ?_
            refine lv_iload_n hx hb dX12_command_36 rfl (lv_at hl 1 rfl) ?_
            have bx_36 : (0 : Int) ≤ (i 424 (x.toInt).toNat).toInt ∧ (i 424 (x.toInt).toNat).toInt ≤ 4 := hO 424 (x.toInt).toNat
            refine h_iald hx hb hK hH (by decide) (rfl : kd 424 = 13) (s_vin (N := 8) (rfl : x.toInt = _) (rfl : ln 424 = 8) (by omega) (by omega)) dX12_command_37 ?_
            have ek_37 : x.toNatClampNeg = (x.toInt).toNat := (s_cl (show x.toInt = x.toInt by omega))
            refine sj_i (y := (i 424 (x.toInt).toNat)) (by rw [ek_37]; exact (congrFun (up2_n _ _ (by decide)) _)) ?_
            refine lv_iconst (v := 4) hx hb dX12_command_38 (by decide) ?_
            refine lv_icmp_ne (tgt := 44) hx hb dX12_command_39 (by decide) (fun c_38 => ?_) (fun c_38 => ?_)
            · skip
              have h_39 := s_ne (rfl : (i 424 (x.toInt).toNat).toInt = _) (show (4 : Int32).toInt = 4 from rfl) c_38
              refine lv_iconst (v := 4) hx hb dX12_command_44 (by decide) ?_
              refine lv_iload_n hx hb dX12_command_45 rfl (lv_at hl 1 rfl) ?_
              refine lv_imul hx hb dX12_command_46 ?_
              obtain ⟨z_40, ez_40, hz_40⟩ := s_mul (show (4 : Int32).toInt = 4 from rfl) (rfl : x.toInt = _) (by omega) (by omega)
              refine sj_i ez_40 ?_
              refine lv_aload_n hx hb dX12_command_47 rfl (lv_at hl 0 rfl) ?_
              refine h_getr (ci := 12) (C := RX12) (F := TX12) (N := 86) hx hb hts in12 hown hK hH (by decide) (rfl : kd 36 = 12) (by decide) rfl 72 (by decide) wd2 (fun _ h9 => h9) (by decide) rfl (t := 424) (hR 36 72 rfl) (by decide) dX12_command_48 ?_
              refine lv_iload_n hx hb dX12_command_51 rfl (lv_at hl 1 rfl) ?_
              refine h_iald hx hb hK hH (by decide) (rfl : kd 424 = 13) (s_vin (N := 8) (rfl : x.toInt = _) (rfl : ln 424 = 8) (by omega) (by omega)) dX12_command_52 ?_
              have ek_41 : x.toNatClampNeg = (x.toInt).toNat := (s_cl (show x.toInt = x.toInt by omega))
              refine sj_i (y := (i 424 (x.toInt).toNat)) (by rw [ek_41]; exact (congrFun (up2_n _ _ (by decide)) _)) ?_
              refine lv_iadd hx hb dX12_command_53 ?_
              obtain ⟨z_42, ez_42, hz_42⟩ := s_add (rfl : z_40.toInt = _) (rfl : (i 424 (x.toInt).toNat).toInt = _) (by omega) (by omega)
              refine sj_i ez_42 ?_
              refine lv_istore (lv' := [(4, .int z_42), (0, .ref (g 36)), (1, .int x), (2, .int y), (3, .int z)]) hx hb dX12_command_54 hl (by decide) rfl (fun ls hl => ?_)
              refine lv_aload_n hx hb dX12_command_56 rfl (lv_at hl 1 rfl) ?_
              refine h_getr (ci := 12) (C := RX12) (F := TX12) (N := 86) hx hb hts in12 hown hK hH (by decide) (rfl : kd 36 = 12) (by decide) rfl 70 (by decide) wd3 (fun _ h9 => h9) (by decide) rfl (t := 422) (hR 36 70 rfl) (by decide) dX12_command_57 ?_
              refine lv_iload hx hb dX12_command_60 (lv_at hl 0 rfl) ?_
              refine lv_iload_n hx hb dX12_command_62 rfl (lv_at hl 3 rfl) ?_
              have hO_43 := okp hO_4 (n := 422) (k := ((i 424 (x.toInt).toNat).toInt + 4 * x.toInt).toNat) (v := y) (show (0 : Int) ≤ (y : Int32).toInt ∧ (y : Int32).toInt ≤ 8 from ⟨by omega, by omega⟩)
              refine h_iast hx hb hK hH hS (by decide) (rfl : kd 422 = 13) (s_vin (N := 32) (rfl : z_42.toInt = _) (rfl : ln 422 = 32) (by omega) (by omega)) dX12_command_63 (fun H locs hH hS => ?_)
              rw [s_cl (show z_42.toInt = (i 424 (x.toInt).toNat).toInt + 4 * x.toInt by omega)] at hH
              refine lv_aload_n hx hb dX12_command_64 rfl (lv_at hl 1 rfl) ?_
              refine h_getr (ci := 12) (C := RX12) (F := TX12) (N := 86) hx hb hts in12 hown hK hH (by decide) (rfl : kd 36 = 12) (by decide) rfl 71 (by decide) wd4 (fun _ h9 => h9) (by decide) rfl (t := 423) (hR 36 71 rfl) (by decide) dX12_command_65 ?_
              refine lv_iload hx hb dX12_command_68 (lv_at hl 0 rfl) ?_
              refine lv_iload_n hx hb dX12_command_70 rfl (lv_at hl 4 rfl) ?_
              have hO_44 := okp hO_43 (n := 423) (k := ((i 424 (x.toInt).toNat).toInt + 4 * x.toInt).toNat) (v := z) (show (-2147483648 : Int) ≤ (z : Int32).toInt ∧ (z : Int32).toInt ≤ 2147483647 from s_rng z)
              refine h_iast hx hb hK hH hS (by decide) (rfl : kd 423 = 13) (s_vin (N := 32) (rfl : z_42.toInt = _) (rfl : ln 423 = 32) (by omega) (by omega)) dX12_command_71 (fun H locs hH hS => ?_)
              rw [s_cl (show z_42.toInt = (i 424 (x.toInt).toNat).toInt + 4 * x.toInt by omega)] at hH
              refine lv_aload_n hx hb dX12_command_72 rfl (lv_at hl 1 rfl) ?_
              refine h_getr (ci := 12) (C := RX12) (F := TX12) (N := 86) hx hb hts in12 hown hK hH (by decide) (rfl : kd 36 = 12) (by decide) rfl 72 (by decide) wd2 (fun _ h9 => h9) (by decide) rfl (t := 424) (hR 36 72 rfl) (by decide) dX12_command_73 ?_
              refine lv_iload_n hx hb dX12_command_76 rfl (lv_at hl 2 rfl) ?_
              refine lv_dup2_11 hx hb dX12_command_77 rfl rfl ?_
              refine h_iald hx hb hK hH (by decide) (rfl : kd 424 = 13) (s_vin (N := 8) (rfl : x.toInt = _) (rfl : ln 424 = 8) (by omega) (by omega)) dX12_command_78 ?_
              have ek_45 : x.toNatClampNeg = (x.toInt).toNat := (s_cl (show x.toInt = x.toInt by omega))
              refine sj_i (y := (i 424 (x.toInt).toNat)) (by rw [ek_45]; exact ((congrFun (up2_n _ _ (by decide)) _).trans ((congrFun (up2_n _ _ (by decide)) _).trans (congrFun (up2_n _ _ (by decide)) _)))) ?_
              refine lv_iconst (v := 1) hx hb dX12_command_79 (by decide) ?_
              refine lv_iadd hx hb dX12_command_80 ?_
              obtain ⟨z_46, ez_46, hz_46⟩ := s_add (rfl : (i 424 (x.toInt).toNat).toInt = _) (show (1 : Int32).toInt = 1 from rfl) (by omega) (by omega)
              refine sj_i ez_46 ?_
              have hO_47 := okp hO_44 (n := 424) (k := (x.toInt).toNat) (v := z_46) (show (0 : Int) ≤ (z_46 : Int32).toInt ∧ (z_46 : Int32).toInt ≤ 4 from ⟨by omega, by omega⟩)
              refine h_iast hx hb hK hH hS (by decide) (rfl : kd 424 = 13) (s_vin (N := 8) (rfl : x.toInt = _) (rfl : ln 424 = 8) (by omega) (by omega)) dX12_command_81 (fun H locs hH hS => ?_)
              rw [s_cl (show x.toInt = x.toInt by omega)] at hH
              refine lv_iconst (v := 1) hx hb dX12_command_82 (by decide) ?_
              have hp_48 : ((up2 (up2 (up2 (up2 i 36 0 0) 422 ((i 424 (x.toInt).toNat).toInt + 4 * x.toInt).toNat y) 423 ((i 424 (x.toInt).toNat).toInt + 4 * x.toInt).toNat z) 424 (x.toInt).toNat z_46) 36 0).toInt = (0 : Int32).toInt := congrArg Int32.toInt (((congrFun (up2_n _ _ (by decide)) _).trans ((congrFun (up2_n _ _ (by decide)) _).trans ((congrFun (up2_n _ _ (by decide)) _).trans (up2_at _ _ _ _)))))
              have hl_49 : (0 : Int32).toInt = 0 := rfl
              have hpz : ((i 424 (x.toInt).toNat).toInt + 4 * x.toInt).toNat = (4 * x.toInt + (i 424 (x.toInt).toNat).toInt).toNat := by omega
              have hpk : (x.toInt).toNat = (x.toInt).toNat := by omega
              have hV_50 : ((1 : Int32).toInt = 1 ∧ ((i 36 76).toInt = 0 ∧ cmO 424 i x.toInt y.toInt) ∧ cmA 424 422 423 i (up2 (up2 (up2 (up2 i 36 0 0) 422 ((i 424 (x.toInt).toNat).toInt + 4 * x.toInt).toNat y) 423 ((i 424 (x.toInt).toNat).toInt + 4 * x.toInt).toNat z) 424 (x.toInt).toNat z_46) x.toInt y.toInt z.toInt) ∨ ((1 : Int32).toInt = 0 ∧ ¬ ((i 36 76).toInt = 0 ∧ cmO 424 i x.toInt y.toInt) ∧ (up2 (up2 (up2 (up2 i 36 0 0) 422 ((i 424 (x.toInt).toNat).toInt + 4 * x.toInt).toNat y) 423 ((i 424 (x.toInt).toNat).toInt + 4 * x.toInt).toNat z) 424 (x.toInt).toNat z_46) 422 = i 422 ∧ (up2 (up2 (up2 (up2 i 36 0 0) 422 ((i 424 (x.toInt).toNat).toInt + 4 * x.toInt).toNat y) 423 ((i 424 (x.toInt).toNat).toInt + 4 * x.toInt).toNat z) 424 (x.toInt).toNat z_46) 423 = i 423 ∧ (up2 (up2 (up2 (up2 i 36 0 0) 422 ((i 424 (x.toInt).toNat).toInt + 4 * x.toInt).toNat y) 423 ((i 424 (x.toInt).toNat).toInt + 4 * x.toInt).toNat z) 424 (x.toInt).toNat z_46) 424 = i 424) := (Or.inl ⟨rfl, ⟨by omega, by unfold cmO; omega⟩, ⟨(by rw [← hpk]; exact (congrArg Int32.toInt ((up2_at _ _ _ _))).trans (by omega)), (by rw [← hpz]; exact (congrArg Int32.toInt (((congrFun (up2_n _ _ (by decide)) _).trans ((congrFun (up2_n _ _ (by decide)) _).trans (up2_at _ _ _ _))))).trans (by omega)), (by rw [← hpz]; exact (congrArg Int32.toInt (((congrFun (up2_n _ _ (by decide)) _).trans (up2_at _ _ _ _)))).trans (by omega)), fun k hk => (by rw [← hpk] at hk; exact ((up2_k _ _ (by omega)).trans ((congrFun (up2_n _ _ (by omega)) _).trans ((congrFun (up2_n _ _ (by omega)) _).trans (congrFun (up2_n _ _ (by omega)) _))))), fun k hk => (by rw [← hpz] at hk; exact ⟨((congrFun (up2_n _ _ (by omega)) _).trans ((congrFun (up2_n _ _ (by omega)) _).trans ((up2_k _ _ (by omega)).trans (congrFun (up2_n _ _ (by omega)) _)))), ((congrFun (up2_n _ _ (by omega)) _).trans ((up2_k _ _ (by omega)).trans ((congrFun (up2_n _ _ (by omega)) _).trans (congrFun (up2_n _ _ (by omega)) _))))⟩)⟩⟩)
              exact sj_zret hx hb hr hlocks (by decide +kernel) hS (up2 (up2 (up2 (up2 i 36 0 0) 422 ((i 424 (x.toInt).toNat).toInt + 4 * x.toInt).toNat y) 423 ((i 424 (x.toInt).toNat).toInt + 4 * x.toInt).toNat z) 424 (x.toInt).toNat z_46) ⟨hO_47, (fun a b ha => ((up2_o _ _ (by omega)).trans ((up2_o _ _ (by omega)).trans ((up2_o _ _ (by omega)).trans (up2_o _ _ (by omega)))))), ⟨by decide, by decide⟩, hV_50⟩ hH (sj_Knil hK) (Nat.le_of_ble_eq_true rfl) (Nat.le_of_ble_eq_true rfl) dX12_command_83
            · skip
              have h_51 := s_eq (rfl : (i 424 (x.toInt).toNat).toInt = _) (show (4 : Int32).toInt = 4 from rfl) c_38
              refine lv_iconst (v := 0) hx hb dX12_command_42 (by decide) ?_
              have hp_52 : ((up2 i 36 0 0) 36 0).toInt = (0 : Int32).toInt := congrArg Int32.toInt ((up2_at _ _ _ _))
              have hl_53 : (0 : Int32).toInt = 0 := rfl
              have hV_54 : ((0 : Int32).toInt = 1 ∧ ((i 36 76).toInt = 0 ∧ cmO 424 i x.toInt y.toInt) ∧ cmA 424 422 423 i (up2 i 36 0 0) x.toInt y.toInt z.toInt) ∨ ((0 : Int32).toInt = 0 ∧ ¬ ((i 36 76).toInt = 0 ∧ cmO 424 i x.toInt y.toInt) ∧ (up2 i 36 0 0) 422 = i 422 ∧ (up2 i 36 0 0) 423 = i 423 ∧ (up2 i 36 0 0) 424 = i 424) := (Or.inr ⟨rfl, fun q => by have q1 := q.2; unfold cmO at q1; omega, funext fun b9 => (up2_o _ _ (by omega)), funext fun b9 => (up2_o _ _ (by omega)), funext fun b9 => (up2_o _ _ (by omega))⟩)
              exact sj_zret hx hb hr hlocks (by decide +kernel) hS (up2 i 36 0 0) ⟨hO_4, (fun a b ha => (up2_o _ _ (by omega))), ⟨by decide, by decide⟩, hV_54⟩ hH (sj_Knil hK) (Nat.le_of_ble_eq_true rfl) (Nat.le_of_ble_eq_true rfl) dX12_command_43
set_option maxHeartbeats 2000000 in
set_option maxRecDepth 100000 in
theorem mv_look (l : Launch) (D : va_G) (g : Nat → Nat) (ka : Nat → ClassId) (ad : Nat → Nat) (i : Nat → Nat → Int32) (r : Nat → Nat → Nat) (L : Nat → Nat → Int64) (d : Nat → Nat → UInt64) (x : Int32) (hO : OkI i) (hR : RS r) (sz : Nat)  : Met l yX12_look wsX12_look ({ frames := 0, cells := 0, slots := 0, locals := 0 }) (va_Pc [.ref (g 36), .int x] (sj_B D (hwc g ka i r L d) (hT ka) sz (gx ad (va_A (hwc g ka i r L d) sz)))) (sj_Qi (S := (Nat → Nat → Int32)) D (fun v u => OkI u ∧ (∀ a b, ¬ ((a = 36 ∧ (b = 0))) → u a b = i a b) ∧ ((x.toInt = 0 ∧ v.toInt = (i 36 76).toInt) ∨ (x.toInt = 1 ∧ v.toInt = (i 36 2).toInt) ∨ (x.toInt = 2 ∧ v.toInt = (i 36 33).toInt) ∨ (x.toInt = 3 ∧ v.toInt = (i 36 41).toInt) ∨ (x.toInt = 4 ∧ v.toInt = (i 36 67).toInt) ∨ (x.toInt = 5 ∧ v.toInt = (i 36 7).toInt) ∨ (x.toInt = 6 ∧ v.toInt = (i 36 81).toInt) ∨ (x.toInt = 7 ∧ v.toInt = (i 36 6).toInt) ∨ ((x.toInt < 0 ∨ 7 < x.toInt) ∧ v.toInt = -1))) (fun u => hwc g ka u r L d) (fun _ => []) (va_A (hwc g ka i r L d) sz)) 0 0 (va_A (hwc g ka i r L d) sz) := by
  refine x_met (Ex := gx ad) (cc := cX12_look) (maxL := 2) (ret := (some .int)) (by decide) rfl (Nat.le_of_ble_eq_true rfl) ?_
  intro p e s m below meth c A ls hx hb hr hml hts hown hlocks hA hS hH hK hE hl
  have hown : s.vm.findClass RX12 = some m.cls := hown
  have in12 : ∀ w ∈ wsX120, w ∈ wsX12_look := (fun _ h => (List.mem_cons_of_mem _ (List.mem_append_right _ h)))
  have wd0 := hts (.fieldLink RX12 1 "StoryDeskModel" "thrown" "I") (List.mem_cons_of_mem _ (List.mem_append_left _ lm0))
  have wd1 := hts (.fieldLink RX12 57 "StoryDeskModel" "wrongs" "I") (List.mem_cons_of_mem _ (List.mem_append_left _ lm8))
  have wd2 := hts (.fieldLink RX12 501 "StoryDeskModel" "told" "I") (List.mem_cons_of_mem _ (List.mem_append_left _ lm7))
  have wd3 := hts (.fieldLink RX12 33 "StoryDeskModel" "dialect" "I") (List.mem_cons_of_mem _ (List.mem_append_left _ lm6))
  have wd4 := hts (.fieldLink RX12 404 "StoryDeskModel" "hooks" "I") (List.mem_cons_of_mem _ (List.mem_append_left _ lm5))
  have wd5 := hts (.fieldLink RX12 308 "StoryDeskModel" "defined" "I") (List.mem_cons_of_mem _ (List.mem_append_left _ lm4))
  have wd6 := hts (.fieldLink RX12 165 "StoryDeskModel" "cases" "I") (List.mem_cons_of_mem _ (List.mem_append_left _ lm3))
  have wd7 := hts (.fieldLink RX12 7 "StoryDeskModel" "size" "I") (List.mem_cons_of_mem _ (List.mem_append_left _ lm2))
  have wd8 := hts (.fieldLink RX12 168 "StoryDeskModel" "running" "Z") (List.mem_cons_of_mem _ (List.mem_append_left _ lm1))
  have hl : lv_has ls 2 [(0, .ref (g 36)), (1, .int x)] := hl
  have hK : va_K D vwCl (hT ka) s := hK
  have hg_1 := s_rng x
  have hb76 : (0 : Int) ≤ (i 36 76).toInt ∧ (i 36 76).toInt ≤ 1 := hO 36 76
  refine lv_aload_n hx hb dX12_look_0 rfl (lv_at hl 0 rfl) ?_
  refine lv_iconst (v := 0) hx hb dX12_look_1 (by decide) ?_
  have hO_2 := okp hO (n := 36) (k := 0) (v := 0) (show (0 : Int) ≤ (0 : Int32).toInt ∧ (0 : Int32).toInt ≤ 3 from ⟨by decide, by decide⟩)
  refine h_puti (ty := .int) (ci := 12) (C := RX12) (F := TX12) (N := 86) hx hb hts in12 tyX12 tyX12_ok nmX12 hown hK hH hS (by decide) (rfl : kd 36 = 12) (by decide) rfl 0 (by decide) wd0 (fun _ h9 => h9) rfl (by decide +kernel) rfl rfl (by decide) rfl dX12_look_2 (fun H locs hH hS => ?_)
  refine lv_iload_n hx hb dX12_look_5 rfl (lv_at hl 1 rfl) ?_
  refine lv_iconst (v := 4) hx hb dX12_look_6 (by decide) ?_
  refine lv_icmp_ge (tgt := 67) hx hb dX12_look_7 (by decide) (fun c_3 => ?_) (fun c_3 => ?_)
  · skip
    have h_4 := s_le (show (4 : Int32).toInt = 4 from rfl) (rfl : x.toInt = _) c_3
    refine lv_iload_n hx hb dX12_look_67 rfl (lv_at hl 1 rfl) ?_
    refine lv_iconst (v := 4) hx hb dX12_look_68 (by decide) ?_
    refine lv_icmp_ne (tgt := 79) hx hb dX12_look_69 (by decide) (fun c_5 => ?_) (fun c_5 => ?_)
    · skip
      have h_6 := s_ne (rfl : x.toInt = _) (show (4 : Int32).toInt = 4 from rfl) c_5
      refine lv_iload_n hx hb dX12_look_79 rfl (lv_at hl 1 rfl) ?_
      refine lv_iconst (v := 5) hx hb dX12_look_80 (by decide) ?_
      refine lv_icmp_ne (tgt := 91) hx hb dX12_look_81 (by decide) (fun c_7 => ?_) (fun c_7 => ?_)
      · skip
        have h_8 := s_ne (rfl : x.toInt = _) (show (5 : Int32).toInt = 5 from rfl) c_7
        refine lv_iload_n hx hb dX12_look_91 rfl (lv_at hl 1 rfl) ?_
        refine lv_bipush (v := 6) hx hb dX12_look_92 (by decide) ?_
        refine lv_icmp_ne (tgt := 104) hx hb dX12_look_94 (by decide) (fun c_9 => ?_) (fun c_9 => ?_)
        · skip
          have h_10 := s_ne (rfl : x.toInt = _) (show (6 : Int32).toInt = 6 from rfl) c_9
          refine lv_iload_n hx hb dX12_look_104 rfl (lv_at hl 1 rfl) ?_
          refine lv_bipush (v := 7) hx hb dX12_look_105 (by decide) ?_
          refine lv_icmp_ne (tgt := 117) hx hb dX12_look_107 (by decide) (fun c_11 => ?_) (fun c_11 => ?_)
          · skip
            have h_12 := s_ne (rfl : x.toInt = _) (show (7 : Int32).toInt = 7 from rfl) c_11
            refine lv_iconst (v := (-1)) hx hb dX12_look_117 (by decide) ?_
            have hlv_13 : ((-1) : Int32).toInt = -1 := rfl
            have hV_14 : (x.toInt = 0 ∧ ((-1) : Int32).toInt = (i 36 76).toInt) ∨ (x.toInt = 1 ∧ ((-1) : Int32).toInt = (i 36 2).toInt) ∨ (x.toInt = 2 ∧ ((-1) : Int32).toInt = (i 36 33).toInt) ∨ (x.toInt = 3 ∧ ((-1) : Int32).toInt = (i 36 41).toInt) ∨ (x.toInt = 4 ∧ ((-1) : Int32).toInt = (i 36 67).toInt) ∨ (x.toInt = 5 ∧ ((-1) : Int32).toInt = (i 36 7).toInt) ∨ (x.toInt = 6 ∧ ((-1) : Int32).toInt = (i 36 81).toInt) ∨ (x.toInt = 7 ∧ ((-1) : Int32).toInt = (i 36 6).toInt) ∨ ((x.toInt < 0 ∨ 7 < x.toInt) ∧ ((-1) : Int32).toInt = -1) := (Or.inr (Or.inr (Or.inr (Or.inr (Or.inr (Or.inr (Or.inr (Or.inr (⟨by omega, by omega⟩)))))))))
            exact sj_zret hx hb hr hlocks rfl hS (up2 i 36 0 0) ⟨hO_2, (fun a b ha => (up2_o _ _ (by omega))), hV_14⟩ hH (sj_Knil hK) (Nat.le_of_ble_eq_true rfl) (Nat.le_of_ble_eq_true rfl) dX12_look_118
          · skip
            have h_15 := s_eq (rfl : x.toInt = _) (show (7 : Int32).toInt = 7 from rfl) c_11
            refine lv_aload_n hx hb dX12_look_110 rfl (lv_at hl 0 rfl) ?_
            have bx_16 : (0 : Int) ≤ (i 36 6).toInt ∧ (i 36 6).toInt ≤ 20 := hO 36 6
            refine h_geti (ci := 12) (C := RX12) (F := TX12) (N := 86) hx hb hts in12 hown hK hH (by decide) (rfl : kd 36 = 12) (by decide) rfl 6 (by decide) wd1 (fun _ h9 => h9) (by decide) rfl dX12_look_111 ?_
            refine sj_i (y := (i 36 6)) (up2_k _ _ (by decide)) ?_
            refine lv_goto (tgt := 118) hx hb dX12_look_114 (by decide) ?_
            have hV_17 : (x.toInt = 0 ∧ ((i 36 6) : Int32).toInt = (i 36 76).toInt) ∨ (x.toInt = 1 ∧ ((i 36 6) : Int32).toInt = (i 36 2).toInt) ∨ (x.toInt = 2 ∧ ((i 36 6) : Int32).toInt = (i 36 33).toInt) ∨ (x.toInt = 3 ∧ ((i 36 6) : Int32).toInt = (i 36 41).toInt) ∨ (x.toInt = 4 ∧ ((i 36 6) : Int32).toInt = (i 36 67).toInt) ∨ (x.toInt = 5 ∧ ((i 36 6) : Int32).toInt = (i 36 7).toInt) ∨ (x.toInt = 6 ∧ ((i 36 6) : Int32).toInt = (i 36 81).toInt) ∨ (x.toInt = 7 ∧ ((i 36 6) : Int32).toInt = (i 36 6).toInt) ∨ ((x.toInt < 0 ∨ 7 < x.toInt) ∧ ((i 36 6) : Int32).toInt = -1) := (Or.inr (Or.inr (Or.inr (Or.inr (Or.inr (Or.inr (Or.inr (Or.inl ⟨by omega, by omega⟩))))))))
            exact sj_zret hx hb hr hlocks rfl hS (up2 i 36 0 0) ⟨hO_2, (fun a b ha => (up2_o _ _ (by omega))), hV_17⟩ hH (sj_Knil hK) (Nat.le_of_ble_eq_true rfl) (Nat.le_of_ble_eq_true rfl) dX12_look_118
        · skip
          have h_18 := s_eq (rfl : x.toInt = _) (show (6 : Int32).toInt = 6 from rfl) c_9
          refine lv_aload_n hx hb dX12_look_97 rfl (lv_at hl 0 rfl) ?_
          have bx_19 : (0 : Int) ≤ (i 36 81).toInt ∧ (i 36 81).toInt ≤ 2147483647 := hO 36 81
          refine h_geti (ci := 12) (C := RX12) (F := TX12) (N := 86) hx hb hts in12 hown hK hH (by decide) (rfl : kd 36 = 12) (by decide) rfl 81 (by decide) wd2 (fun _ h9 => h9) (by decide) rfl dX12_look_98 ?_
          refine sj_i (y := (i 36 81)) (up2_k _ _ (by decide)) ?_
          refine lv_goto (tgt := 118) hx hb dX12_look_101 (by decide) ?_
          have hV_20 : (x.toInt = 0 ∧ ((i 36 81) : Int32).toInt = (i 36 76).toInt) ∨ (x.toInt = 1 ∧ ((i 36 81) : Int32).toInt = (i 36 2).toInt) ∨ (x.toInt = 2 ∧ ((i 36 81) : Int32).toInt = (i 36 33).toInt) ∨ (x.toInt = 3 ∧ ((i 36 81) : Int32).toInt = (i 36 41).toInt) ∨ (x.toInt = 4 ∧ ((i 36 81) : Int32).toInt = (i 36 67).toInt) ∨ (x.toInt = 5 ∧ ((i 36 81) : Int32).toInt = (i 36 7).toInt) ∨ (x.toInt = 6 ∧ ((i 36 81) : Int32).toInt = (i 36 81).toInt) ∨ (x.toInt = 7 ∧ ((i 36 81) : Int32).toInt = (i 36 6).toInt) ∨ ((x.toInt < 0 ∨ 7 < x.toInt) ∧ ((i 36 81) : Int32).toInt = -1) := (Or.inr (Or.inr (Or.inr (Or.inr (Or.inr (Or.inr (Or.inl ⟨by omega, by omega⟩)))))))
          exact sj_zret hx hb hr hlocks rfl hS (up2 i 36 0 0) ⟨hO_2, (fun a b ha => (up2_o _ _ (by omega))), hV_20⟩ hH (sj_Knil hK) (Nat.le_of_ble_eq_true rfl) (Nat.le_of_ble_eq_true rfl) dX12_look_118
      · skip
        have h_21 := s_eq (rfl : x.toInt = _) (show (5 : Int32).toInt = 5 from rfl) c_7
        refine lv_aload_n hx hb dX12_look_84 rfl (lv_at hl 0 rfl) ?_
        have bx_22 : (0 : Int) ≤ (i 36 7).toInt ∧ (i 36 7).toInt ≤ 1 := hO 36 7
        refine h_geti (ci := 12) (C := RX12) (F := TX12) (N := 86) hx hb hts in12 hown hK hH (by decide) (rfl : kd 36 = 12) (by decide) rfl 7 (by decide) wd3 (fun _ h9 => h9) (by decide) rfl dX12_look_85 ?_
        refine sj_i (y := (i 36 7)) (up2_k _ _ (by decide)) ?_
        refine lv_goto (tgt := 118) hx hb dX12_look_88 (by decide) ?_
        have hV_23 : (x.toInt = 0 ∧ ((i 36 7) : Int32).toInt = (i 36 76).toInt) ∨ (x.toInt = 1 ∧ ((i 36 7) : Int32).toInt = (i 36 2).toInt) ∨ (x.toInt = 2 ∧ ((i 36 7) : Int32).toInt = (i 36 33).toInt) ∨ (x.toInt = 3 ∧ ((i 36 7) : Int32).toInt = (i 36 41).toInt) ∨ (x.toInt = 4 ∧ ((i 36 7) : Int32).toInt = (i 36 67).toInt) ∨ (x.toInt = 5 ∧ ((i 36 7) : Int32).toInt = (i 36 7).toInt) ∨ (x.toInt = 6 ∧ ((i 36 7) : Int32).toInt = (i 36 81).toInt) ∨ (x.toInt = 7 ∧ ((i 36 7) : Int32).toInt = (i 36 6).toInt) ∨ ((x.toInt < 0 ∨ 7 < x.toInt) ∧ ((i 36 7) : Int32).toInt = -1) := (Or.inr (Or.inr (Or.inr (Or.inr (Or.inr (Or.inl ⟨by omega, by omega⟩))))))
        exact sj_zret hx hb hr hlocks rfl hS (up2 i 36 0 0) ⟨hO_2, (fun a b ha => (up2_o _ _ (by omega))), hV_23⟩ hH (sj_Knil hK) (Nat.le_of_ble_eq_true rfl) (Nat.le_of_ble_eq_true rfl) dX12_look_118
    · skip
      have h_24 := s_eq (rfl : x.toInt = _) (show (4 : Int32).toInt = 4 from rfl) c_5
      refine lv_aload_n hx hb dX12_look_72 rfl (lv_at hl 0 rfl) ?_
      have bx_25 : (0 : Int) ≤ (i 36 67).toInt ∧ (i 36 67).toInt ≤ 8 := hO 36 67
      refine h_geti (ci := 12) (C := RX12) (F := TX12) (N := 86) hx hb hts in12 hown hK hH (by decide) (rfl : kd 36 = 12) (by decide) rfl 67 (by decide) wd4 (fun _ h9 => h9) (by decide) rfl dX12_look_73 ?_
      refine sj_i (y := (i 36 67)) (up2_k _ _ (by decide)) ?_
      refine lv_goto (tgt := 118) hx hb dX12_look_76 (by decide) ?_
      have hV_26 : (x.toInt = 0 ∧ ((i 36 67) : Int32).toInt = (i 36 76).toInt) ∨ (x.toInt = 1 ∧ ((i 36 67) : Int32).toInt = (i 36 2).toInt) ∨ (x.toInt = 2 ∧ ((i 36 67) : Int32).toInt = (i 36 33).toInt) ∨ (x.toInt = 3 ∧ ((i 36 67) : Int32).toInt = (i 36 41).toInt) ∨ (x.toInt = 4 ∧ ((i 36 67) : Int32).toInt = (i 36 67).toInt) ∨ (x.toInt = 5 ∧ ((i 36 67) : Int32).toInt = (i 36 7).toInt) ∨ (x.toInt = 6 ∧ ((i 36 67) : Int32).toInt = (i 36 81).toInt) ∨ (x.toInt = 7 ∧ ((i 36 67) : Int32).toInt = (i 36 6).toInt) ∨ ((x.toInt < 0 ∨ 7 < x.toInt) ∧ ((i 36 67) : Int32).toInt = -1) := (Or.inr (Or.inr (Or.inr (Or.inr (Or.inl ⟨by omega, by omega⟩)))))
      exact sj_zret hx hb hr hlocks rfl hS (up2 i 36 0 0) ⟨hO_2, (fun a b ha => (up2_o _ _ (by omega))), hV_26⟩ hH (sj_Knil hK) (Nat.le_of_ble_eq_true rfl) (Nat.le_of_ble_eq_true rfl) dX12_look_118
  · skip
    have h_27 := s_nle (show (4 : Int32).toInt = 4 from rfl) (rfl : x.toInt = _) c_3
    refine lv_iload_n hx hb dX12_look_10 rfl (lv_at hl 1 rfl) ?_
    refine lv_if_ne (tgt := 29) hx hb dX12_look_11 (by decide) (fun c_28 => ?_) (fun c_28 => ?_)
    · skip
      have h_29 := s_ne (rfl : x.toInt = _) (show (0 : Int32).toInt = 0 from rfl) c_28
      refine lv_iload_n hx hb dX12_look_29 rfl (lv_at hl 1 rfl) ?_
      refine lv_iconst (v := 1) hx hb dX12_look_30 (by decide) ?_
      refine lv_icmp_ne (tgt := 41) hx hb dX12_look_31 (by decide) (fun c_30 => ?_) (fun c_30 => ?_)
      · skip
        have h_31 := s_ne (rfl : x.toInt = _) (show (1 : Int32).toInt = 1 from rfl) c_30
        refine lv_iload_n hx hb dX12_look_41 rfl (lv_at hl 1 rfl) ?_
        refine lv_iconst (v := 2) hx hb dX12_look_42 (by decide) ?_
        refine lv_icmp_ne (tgt := 53) hx hb dX12_look_43 (by decide) (fun c_32 => ?_) (fun c_32 => ?_)
        · skip
          have h_33 := s_ne (rfl : x.toInt = _) (show (2 : Int32).toInt = 2 from rfl) c_32
          refine lv_iload_n hx hb dX12_look_53 rfl (lv_at hl 1 rfl) ?_
          refine lv_iconst (v := 3) hx hb dX12_look_54 (by decide) ?_
          refine lv_icmp_ne (tgt := 65) hx hb dX12_look_55 (by decide) (fun c_34 => ?_) (fun c_34 => ?_)
          · skip
            have h_35 := s_ne (rfl : x.toInt = _) (show (3 : Int32).toInt = 3 from rfl) c_34
            refine lv_iconst (v := (-1)) hx hb dX12_look_65 (by decide) ?_
            have hlv_36 : ((-1) : Int32).toInt = -1 := rfl
            have hV_37 : (x.toInt = 0 ∧ ((-1) : Int32).toInt = (i 36 76).toInt) ∨ (x.toInt = 1 ∧ ((-1) : Int32).toInt = (i 36 2).toInt) ∨ (x.toInt = 2 ∧ ((-1) : Int32).toInt = (i 36 33).toInt) ∨ (x.toInt = 3 ∧ ((-1) : Int32).toInt = (i 36 41).toInt) ∨ (x.toInt = 4 ∧ ((-1) : Int32).toInt = (i 36 67).toInt) ∨ (x.toInt = 5 ∧ ((-1) : Int32).toInt = (i 36 7).toInt) ∨ (x.toInt = 6 ∧ ((-1) : Int32).toInt = (i 36 81).toInt) ∨ (x.toInt = 7 ∧ ((-1) : Int32).toInt = (i 36 6).toInt) ∨ ((x.toInt < 0 ∨ 7 < x.toInt) ∧ ((-1) : Int32).toInt = -1) := (Or.inr (Or.inr (Or.inr (Or.inr (Or.inr (Or.inr (Or.inr (Or.inr (⟨by omega, by omega⟩)))))))))
            exact sj_zret hx hb hr hlocks rfl hS (up2 i 36 0 0) ⟨hO_2, (fun a b ha => (up2_o _ _ (by omega))), hV_37⟩ hH (sj_Knil hK) (Nat.le_of_ble_eq_true rfl) (Nat.le_of_ble_eq_true rfl) dX12_look_66
          · skip
            have h_38 := s_eq (rfl : x.toInt = _) (show (3 : Int32).toInt = 3 from rfl) c_34
            refine lv_aload_n hx hb dX12_look_58 rfl (lv_at hl 0 rfl) ?_
            have bx_39 : (0 : Int) ≤ (i 36 41).toInt ∧ (i 36 41).toInt ≤ 12 := hO 36 41
            refine h_geti (ci := 12) (C := RX12) (F := TX12) (N := 86) hx hb hts in12 hown hK hH (by decide) (rfl : kd 36 = 12) (by decide) rfl 41 (by decide) wd5 (fun _ h9 => h9) (by decide) rfl dX12_look_59 ?_
            refine sj_i (y := (i 36 41)) (up2_k _ _ (by decide)) ?_
            refine lv_goto (tgt := 66) hx hb dX12_look_62 (by decide) ?_
            have hV_40 : (x.toInt = 0 ∧ ((i 36 41) : Int32).toInt = (i 36 76).toInt) ∨ (x.toInt = 1 ∧ ((i 36 41) : Int32).toInt = (i 36 2).toInt) ∨ (x.toInt = 2 ∧ ((i 36 41) : Int32).toInt = (i 36 33).toInt) ∨ (x.toInt = 3 ∧ ((i 36 41) : Int32).toInt = (i 36 41).toInt) ∨ (x.toInt = 4 ∧ ((i 36 41) : Int32).toInt = (i 36 67).toInt) ∨ (x.toInt = 5 ∧ ((i 36 41) : Int32).toInt = (i 36 7).toInt) ∨ (x.toInt = 6 ∧ ((i 36 41) : Int32).toInt = (i 36 81).toInt) ∨ (x.toInt = 7 ∧ ((i 36 41) : Int32).toInt = (i 36 6).toInt) ∨ ((x.toInt < 0 ∨ 7 < x.toInt) ∧ ((i 36 41) : Int32).toInt = -1) := (Or.inr (Or.inr (Or.inr (Or.inl ⟨by omega, by omega⟩))))
            exact sj_zret hx hb hr hlocks rfl hS (up2 i 36 0 0) ⟨hO_2, (fun a b ha => (up2_o _ _ (by omega))), hV_40⟩ hH (sj_Knil hK) (Nat.le_of_ble_eq_true rfl) (Nat.le_of_ble_eq_true rfl) dX12_look_66
        · skip
          have h_41 := s_eq (rfl : x.toInt = _) (show (2 : Int32).toInt = 2 from rfl) c_32
          refine lv_aload_n hx hb dX12_look_46 rfl (lv_at hl 0 rfl) ?_
          have bx_42 : (0 : Int) ≤ (i 36 33).toInt ∧ (i 36 33).toInt ≤ 24 := hO 36 33
          refine h_geti (ci := 12) (C := RX12) (F := TX12) (N := 86) hx hb hts in12 hown hK hH (by decide) (rfl : kd 36 = 12) (by decide) rfl 33 (by decide) wd6 (fun _ h9 => h9) (by decide) rfl dX12_look_47 ?_
          refine sj_i (y := (i 36 33)) (up2_k _ _ (by decide)) ?_
          refine lv_goto (tgt := 66) hx hb dX12_look_50 (by decide) ?_
          have hV_43 : (x.toInt = 0 ∧ ((i 36 33) : Int32).toInt = (i 36 76).toInt) ∨ (x.toInt = 1 ∧ ((i 36 33) : Int32).toInt = (i 36 2).toInt) ∨ (x.toInt = 2 ∧ ((i 36 33) : Int32).toInt = (i 36 33).toInt) ∨ (x.toInt = 3 ∧ ((i 36 33) : Int32).toInt = (i 36 41).toInt) ∨ (x.toInt = 4 ∧ ((i 36 33) : Int32).toInt = (i 36 67).toInt) ∨ (x.toInt = 5 ∧ ((i 36 33) : Int32).toInt = (i 36 7).toInt) ∨ (x.toInt = 6 ∧ ((i 36 33) : Int32).toInt = (i 36 81).toInt) ∨ (x.toInt = 7 ∧ ((i 36 33) : Int32).toInt = (i 36 6).toInt) ∨ ((x.toInt < 0 ∨ 7 < x.toInt) ∧ ((i 36 33) : Int32).toInt = -1) := (Or.inr (Or.inr (Or.inl ⟨by omega, by omega⟩)))
          exact sj_zret hx hb hr hlocks rfl hS (up2 i 36 0 0) ⟨hO_2, (fun a b ha => (up2_o _ _ (by omega))), hV_43⟩ hH (sj_Knil hK) (Nat.le_of_ble_eq_true rfl) (Nat.le_of_ble_eq_true rfl) dX12_look_66
      · skip
        have h_44 := s_eq (rfl : x.toInt = _) (show (1 : Int32).toInt = 1 from rfl) c_30
        refine lv_aload_n hx hb dX12_look_34 rfl (lv_at hl 0 rfl) ?_
        have bx_45 : (0 : Int) ≤ (i 36 2).toInt ∧ (i 36 2).toInt ≤ 480 := hO 36 2
        refine h_geti (ci := 12) (C := RX12) (F := TX12) (N := 86) hx hb hts in12 hown hK hH (by decide) (rfl : kd 36 = 12) (by decide) rfl 2 (by decide) wd7 (fun _ h9 => h9) (by decide) rfl dX12_look_35 ?_
        refine sj_i (y := (i 36 2)) (up2_k _ _ (by decide)) ?_
        refine lv_goto (tgt := 66) hx hb dX12_look_38 (by decide) ?_
        have hV_46 : (x.toInt = 0 ∧ ((i 36 2) : Int32).toInt = (i 36 76).toInt) ∨ (x.toInt = 1 ∧ ((i 36 2) : Int32).toInt = (i 36 2).toInt) ∨ (x.toInt = 2 ∧ ((i 36 2) : Int32).toInt = (i 36 33).toInt) ∨ (x.toInt = 3 ∧ ((i 36 2) : Int32).toInt = (i 36 41).toInt) ∨ (x.toInt = 4 ∧ ((i 36 2) : Int32).toInt = (i 36 67).toInt) ∨ (x.toInt = 5 ∧ ((i 36 2) : Int32).toInt = (i 36 7).toInt) ∨ (x.toInt = 6 ∧ ((i 36 2) : Int32).toInt = (i 36 81).toInt) ∨ (x.toInt = 7 ∧ ((i 36 2) : Int32).toInt = (i 36 6).toInt) ∨ ((x.toInt < 0 ∨ 7 < x.toInt) ∧ ((i 36 2) : Int32).toInt = -1) := (Or.inr (Or.inl ⟨by omega, by omega⟩))
        exact sj_zret hx hb hr hlocks rfl hS (up2 i 36 0 0) ⟨hO_2, (fun a b ha => (up2_o _ _ (by omega))), hV_46⟩ hH (sj_Knil hK) (Nat.le_of_ble_eq_true rfl) (Nat.le_of_ble_eq_true rfl) dX12_look_66
    · skip
      have h_47 := s_eq (rfl : x.toInt = _) (show (0 : Int32).toInt = 0 from rfl) c_28
      refine lv_aload_n hx hb dX12_look_14 rfl (lv_at hl 0 rfl) ?_
      have bx_48 : (0 : Int) ≤ (i 36 76).toInt ∧ (i 36 76).toInt ≤ 1 := hO 36 76
      refine h_geti (ci := 12) (C := RX12) (F := TX12) (N := 86) hx hb hts in12 hown hK hH (by decide) (rfl : kd 36 = 12) (by decide) rfl 76 (by decide) wd8 (fun _ h9 => h9) (by decide) rfl dX12_look_15 ?_
      refine sj_i (y := (i 36 76)) (up2_k _ _ (by decide)) ?_
      refine lv_if_eq (tgt := 25) hx hb dX12_look_18 (by decide) (fun c_49 => ?_) (fun c_49 => ?_)
      · skip
        have h_50 := s_eq (rfl : (i 36 76).toInt = _) (show (0 : Int32).toInt = 0 from rfl) c_49
        refine lv_iconst (v := 0) hx hb dX12_look_25 (by decide) ?_
        refine lv_goto (tgt := 66) hx hb dX12_look_26 (by decide) ?_
        have hlv_51 : (0 : Int32).toInt = 0 := rfl
        have hV_52 : (x.toInt = 0 ∧ (0 : Int32).toInt = (i 36 76).toInt) ∨ (x.toInt = 1 ∧ (0 : Int32).toInt = (i 36 2).toInt) ∨ (x.toInt = 2 ∧ (0 : Int32).toInt = (i 36 33).toInt) ∨ (x.toInt = 3 ∧ (0 : Int32).toInt = (i 36 41).toInt) ∨ (x.toInt = 4 ∧ (0 : Int32).toInt = (i 36 67).toInt) ∨ (x.toInt = 5 ∧ (0 : Int32).toInt = (i 36 7).toInt) ∨ (x.toInt = 6 ∧ (0 : Int32).toInt = (i 36 81).toInt) ∨ (x.toInt = 7 ∧ (0 : Int32).toInt = (i 36 6).toInt) ∨ ((x.toInt < 0 ∨ 7 < x.toInt) ∧ (0 : Int32).toInt = -1) := (Or.inl ⟨by omega, by omega⟩)
        exact sj_zret hx hb hr hlocks rfl hS (up2 i 36 0 0) ⟨hO_2, (fun a b ha => (up2_o _ _ (by omega))), hV_52⟩ hH (sj_Knil hK) (Nat.le_of_ble_eq_true rfl) (Nat.le_of_ble_eq_true rfl) dX12_look_66
      · skip
        have h_53 := s_ne (rfl : (i 36 76).toInt = _) (show (0 : Int32).toInt = 0 from rfl) c_49
        refine lv_iconst (v := 1) hx hb dX12_look_21 (by decide) ?_
        refine lv_goto (tgt := 66) hx hb dX12_look_22 (by decide) ?_
        have hlv_54 : (1 : Int32).toInt = 1 := rfl
        have hV_55 : (x.toInt = 0 ∧ (1 : Int32).toInt = (i 36 76).toInt) ∨ (x.toInt = 1 ∧ (1 : Int32).toInt = (i 36 2).toInt) ∨ (x.toInt = 2 ∧ (1 : Int32).toInt = (i 36 33).toInt) ∨ (x.toInt = 3 ∧ (1 : Int32).toInt = (i 36 41).toInt) ∨ (x.toInt = 4 ∧ (1 : Int32).toInt = (i 36 67).toInt) ∨ (x.toInt = 5 ∧ (1 : Int32).toInt = (i 36 7).toInt) ∨ (x.toInt = 6 ∧ (1 : Int32).toInt = (i 36 81).toInt) ∨ (x.toInt = 7 ∧ (1 : Int32).toInt = (i 36 6).toInt) ∨ ((x.toInt < 0 ∨ 7 < x.toInt) ∧ (1 : Int32).toInt = -1) := (Or.inl ⟨by omega, by omega⟩)
        exact sj_zret hx hb hr hlocks rfl hS (up2 i 36 0 0) ⟨hO_2, (fun a b ha => (up2_o _ _ (by omega))), hV_55⟩ hH (sj_Knil hK) (Nat.le_of_ble_eq_true rfl) (Nat.le_of_ble_eq_true rfl) dX12_look_66
set_option maxHeartbeats 2000000 in
set_option maxRecDepth 100000 in
theorem mv_thrown (l : Launch) (D : va_G) (g : Nat → Nat) (ka : Nat → ClassId) (ad : Nat → Nat) (i : Nat → Nat → Int32) (r : Nat → Nat → Nat) (L : Nat → Nat → Int64) (d : Nat → Nat → UInt64)  (hO : OkI i) (hR : RS r) (sz : Nat)  : Met l yX12_thrown wsX12_thrown ({ frames := 0, cells := 0, slots := 0, locals := 0 }) (va_Pc [.ref (g 36)] (sj_B D (hwc g ka i r L d) (hT ka) sz (gx ad (va_A (hwc g ka i r L d) sz)))) (sj_Qi (S := Unit) D (fun v u => (v.toInt = (i 36 0).toInt)) (fun _ => hwc g ka i r L d) (fun _ => []) (va_A (hwc g ka i r L d) sz)) 0 0 (va_A (hwc g ka i r L d) sz) := by
  refine x_met (Ex := gx ad) (cc := cX12_thrown) (maxL := 1) (ret := (some .int)) (by decide) rfl (Nat.le_of_ble_eq_true rfl) ?_
  intro p e s m below meth c A ls hx hb hr hml hts hown hlocks hA hS hH hK hE hl
  have hown : s.vm.findClass RX12 = some m.cls := hown
  have in12 : ∀ w ∈ wsX120, w ∈ wsX12_thrown := (fun _ h => (List.mem_cons_of_mem _ (List.mem_append_right _ h)))
  have wd0 := hts (.fieldLink RX12 1 "StoryDeskModel" "thrown" "I") (List.mem_cons_of_mem _ (List.mem_append_left _ lm0))
  have hl : lv_has ls 1 [(0, .ref (g 36))] := hl
  have hK : va_K D vwCl (hT ka) s := hK
  refine lv_aload_n hx hb dX12_thrown_0 rfl (lv_at hl 0 rfl) ?_
  have bx_1 : (0 : Int) ≤ (i 36 0).toInt ∧ (i 36 0).toInt ≤ 3 := hO 36 0
  refine h_geti (ci := 12) (C := RX12) (F := TX12) (N := 86) hx hb hts in12 hown hK hH (by decide) (rfl : kd 36 = 12) (by decide) rfl 0 (by decide) wd0 (fun _ h9 => h9) (by decide) rfl dX12_thrown_1 ?_
  exact sj_zret hx hb hr hlocks rfl hS () (by omega) hH (sj_Knil hK) (Nat.le_of_ble_eq_true rfl) (Nat.le_of_ble_eq_true rfl) dX12_thrown_4
