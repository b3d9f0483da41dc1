
set_option maxHeartbeats 2000000 in
set_option maxRecDepth 100000 in
theorem mv_go (l : Launch) (D : va_G) (g : Nat → Nat) (ka : Nat → ClassId) (ad : Nat → Nat) (i : Nat → Nat → Int32) (r : Nat → Nat → Nat) (L : Nat → Nat → Int64) (d : Nat → Nat → UInt64) (x : Int32) (hO : OkI i) (hR : RS r) (sz : Nat) (hnr : NR i) (hdi : DI i) (hMI : MI i d) (hev : (i 36 81).toInt ≤ 1900000000) : Met l yX12_go wsX12_go ({ frames := 10, cells := 0, slots := 0, locals := 232 }) (va_Pc [.ref (g 36), .int x] (sj_B D (hwc g ka i r L d) (hT ka) sz (gx ad (va_A (hwc g ka i r L d) sz)))) (sj_Qi (S := (Nat → Nat → Int32) × (Nat → Nat → Int64) × (Nat → Nat → UInt64)) D (fun v u => OkI u.1 ∧ (∀ a b, ¬ ((a = 36 ∧ (b = 0 ∨ b = 40 ∨ b = 45 ∨ b = 49 ∨ b = 52 ∨ b = 54 ∨ b = 55 ∨ b = 57 ∨ b = 65 ∨ b = 66 ∨ b = 74 ∨ b = 75 ∨ b = 76 ∨ b = 78 ∨ b = 79 ∨ b = 80 ∨ b = 81)) ∨ a = 401 ∨ a = 402 ∨ a = 406 ∨ a = 407 ∨ a = 408 ∨ a = 409 ∨ a = 410 ∨ a = 411 ∨ a = 413 ∨ a = 414 ∨ a = 415 ∨ a = 418 ∨ a = 419 ∨ a = 426 ∨ a = 427 ∨ a = 428 ∨ a = 429) → u.1 a b = i a b) ∧ (∀ a, ¬ (a = 425) → u.2.2 a = d a) ∧ (MI u.1 u.2.2) ∧ (mxE i u.1) ∧ ((((x.toInt < 1 ∨ 40 < x.toInt) ∧ v.toInt = -1 ∧ (u.1 36 76).toInt = (i 36 76).toInt ∧ mrest u.1 = mrest i) ∨ ((1 ≤ x.toInt ∧ x.toInt ≤ 40) ∧ (((i 36 76).toInt = 0 ∧ v.toInt = 0 ∧ (u.1 36 76).toInt = 0) ∨ ((i 36 76).toInt = 1 ∧ ((mrest i ≤ x.toInt ∧ v.toInt = mrest i ∧ (u.1 36 76).toInt = 0) ∨ (x.toInt < mrest i ∧ v.toInt = x.toInt ∧ (u.1 36 76).toInt = 1 ∧ mrest u.1 + x.toInt = mrest i))))))) ∧ (((u.1 36 81).toInt ≤ (i 36 81).toInt + 80 ∧ -1 ≤ v.toInt)) ∧ (((x.toInt < 1 ∨ 40 < x.toInt) ∧ (u.1 36 81).toInt = (i 36 81).toInt) ∨ ((1 ≤ x.toInt ∧ x.toInt ≤ 40) ∧ (u.1 36 81).toInt + (u.1 36 76).toInt = (i 36 81).toInt + (i 36 76).toInt + v.toInt))) (fun u => hwc g ka u.1 r u.2.1 u.2.2) (fun _ => []) (va_A (hwc g ka i r L d) sz)) 0 0 (va_A (hwc g ka i r L d) sz) := by
  refine x_met (Ex := gx ad) (cc := cX12_go) (maxL := 4) (ret := (some .int)) (by decide) rfl (Nat.le_of_ble_eq_true rfl) ?_
  intro p e s m below meth c A ls hx hb hr hml hts hown hlocks hA hS hH hK hE hl
  have hown : s.vm.findClass RX12 = some m.cls := hown
  have in12 : ∀ w ∈ wsX120, w ∈ wsX12_go := (fun _ h => (List.mem_cons_of_mem _ (List.mem_append_right _ h)))
  have wd0 := hts (.fieldLink RX12 1 "StoryDeskModel" "thrown" "I") (List.mem_cons_of_mem _ (List.mem_append_left _ (List.mem_append_left _ lm0)))
  have wd1 := hts (.fieldLink RX12 168 "StoryDeskModel" "running" "Z") (List.mem_cons_of_mem _ (List.mem_append_left _ (List.mem_append_left _ lm1)))
  have wd2 := hts (.fieldLink RX12 516 "StoryDeskModel" "turn" "I") (List.mem_cons_of_mem _ (List.mem_append_left _ (List.mem_append_left _ lm3)))
  have wd3 := hts (.fieldLink RX12 507 "StoryDeskModel" "workers" "I") (List.mem_cons_of_mem _ (List.mem_append_left _ (List.mem_append_left _ lm6)))
  have wd4 := hts (.fieldLink RX12 492 "StoryDeskModel" "job" "[I") (List.mem_cons_of_mem _ (List.mem_append_left _ (List.mem_append_left _ lm2)))
  have wd5 := hts (.fieldLink RX12 504 "StoryDeskModel" "upcoming" "I") (List.mem_cons_of_mem _ (List.mem_append_left _ (List.mem_append_left _ lm4)))
  have wd6 := hts (.fieldLink RX12 165 "StoryDeskModel" "cases" "I") (List.mem_cons_of_mem _ (List.mem_append_left _ (List.mem_append_left _ lm5)))
  have hl : lv_has ls 4 [(0, .ref (g 36)), (1, .int x)] := hl
  have hK : va_K D vwCl (hT ka) s := hK
  have hg_1 := s_rng x
  refine lv_aload_n hx hb dX12_go_0 rfl (lv_at hl 0 rfl) ?_
  refine lv_iconst (v := 0) hx hb dX12_go_1 (by decide) ?_
  have hO_2 := okp hO (n := 36) (k := 0) (v := 0) (show (0 : Int) ≤ (0 : Int32).toInt ∧ (0 : Int32).toInt ≤ 3 from ⟨by decide, by decide⟩)
  refine h_puti (ty := .int) (ci := 12) (C := RX12) (F := TX12) (N := 86) hx hb hts in12 tyX12 tyX12_ok nmX12 hown hK hH hS (by decide) (rfl : kd 36 = 12) (by decide) rfl 0 (by decide) wd0 (fun _ h9 => h9) rfl (by decide +kernel) rfl rfl (by decide) rfl dX12_go_2 (fun H locs hH hS => ?_)
  refine lv_iload_n hx hb dX12_go_5 rfl (lv_at hl 1 rfl) ?_
  refine lv_iconst (v := 1) hx hb dX12_go_6 (by decide) ?_
  refine lv_icmp_lt (tgt := 16) hx hb dX12_go_7 (by decide) (fun c_3 => ?_) (fun c_3 => ?_)
  · skip
    have h_4 := s_lt (rfl : x.toInt = _) (show (1 : Int32).toInt = 1 from rfl) c_3
    refine lv_iconst (v := (-1)) hx hb dX12_go_16 (by decide) ?_
    have hMI0 := MI_same (u := (up2 i 36 0 0)) (mxE_of (i := i) (u := (up2 i 36 0 0)) ⟨(up2_o _ _ (by omega)), fun a h1 h2 => funext fun b9 => (up2_o _ _ (by omega))⟩ (up2_o _ _ (by omega)) (up2_o _ _ (by omega)) (up2_o _ _ (by omega)) (funext fun b9 => (up2_o _ _ (by omega))) (funext fun b9 => (up2_o _ _ (by omega))) (funext fun b9 => (up2_o _ _ (by omega))) (funext fun b9 => (up2_o _ _ (by omega)))) (up2_o _ _ (by omega)) (up2_o _ _ (by omega)) (up2_o _ _ (by omega)) (funext fun b9 => (up2_o _ _ (by omega))) (funext fun b9 => (up2_o _ _ (by omega))) (funext fun b9 => (up2_o _ _ (by omega))) hMI
    have hp_5 : ((up2 i 36 0 0) 36 76).toInt = ((i 36 76) : Int32).toInt := congrArg Int32.toInt ((up2_k _ _ (by decide)))
    have hp_6 : ((up2 i 36 0 0) 36 81).toInt = ((i 36 81) : Int32).toInt := congrArg Int32.toInt ((up2_k _ _ (by decide)))
    have hm0r := hMI0.2
    have hlm1 : (-1 : Int32).toInt = -1 := rfl
    have hV_7 : (((x.toInt < 1 ∨ 40 < x.toInt) ∧ ((-1) : Int32).toInt = -1 ∧ ((up2 i 36 0 0) 36 76).toInt = (i 36 76).toInt ∧ mrest (up2 i 36 0 0) = mrest i) ∨ ((1 ≤ x.toInt ∧ x.toInt ≤ 40) ∧ (((i 36 76).toInt = 0 ∧ ((-1) : Int32).toInt = 0 ∧ ((up2 i 36 0 0) 36 76).toInt = 0) ∨ ((i 36 76).toInt = 1 ∧ ((mrest i ≤ x.toInt ∧ ((-1) : Int32).toInt = mrest i ∧ ((up2 i 36 0 0) 36 76).toInt = 0) ∨ (x.toInt < mrest i ∧ ((-1) : Int32).toInt = x.toInt ∧ ((up2 i 36 0 0) 36 76).toInt = 1 ∧ mrest (up2 i 36 0 0) + x.toInt = mrest i)))))) := (Or.inl ⟨by omega, by omega, by omega, hm0r⟩)
    have hV_8 : (((up2 i 36 0 0) 36 81).toInt ≤ (i 36 81).toInt + 80 ∧ -1 ≤ ((-1) : Int32).toInt) := (by omega)
    have hp_9 : ((up2 i 36 0 0) 36 81).toInt = ((i 36 81) : Int32).toInt := congrArg Int32.toInt ((up2_k _ _ (by decide)))
    have hp_10 : ((up2 i 36 0 0) 36 76).toInt = ((i 36 76) : Int32).toInt := congrArg Int32.toInt ((up2_k _ _ (by decide)))
    have hV_11 : ((x.toInt < 1 ∨ 40 < x.toInt) ∧ ((up2 i 36 0 0) 36 81).toInt = (i 36 81).toInt) ∨ ((1 ≤ x.toInt ∧ x.toInt ≤ 40) ∧ ((up2 i 36 0 0) 36 81).toInt + ((up2 i 36 0 0) 36 76).toInt = (i 36 81).toInt + (i 36 76).toInt + ((-1) : Int32).toInt) := (Or.inl ⟨by omega, by omega⟩)
    exact sj_zret hx hb hr hlocks rfl hS ((up2 i 36 0 0), L, d) ⟨hO_2, (fun a b ha => (up2_o _ _ (by omega))), (fun a ha => rfl), hMI0.1, (mxE_of (i := i) (u := (up2 i 36 0 0)) ⟨(up2_o _ _ (by omega)), fun a h1 h2 => funext fun b9 => (up2_o _ _ (by omega))⟩ (up2_o _ _ (by omega)) (up2_o _ _ (by omega)) (up2_o _ _ (by omega)) (funext fun b9 => (up2_o _ _ (by omega))) (funext fun b9 => (up2_o _ _ (by omega))) (funext fun b9 => (up2_o _ _ (by omega))) (funext fun b9 => (up2_o _ _ (by omega)))), hV_7, hV_8, hV_11⟩ hH (sj_Knil hK) (Nat.le_of_ble_eq_true rfl) (Nat.le_of_ble_eq_true rfl) dX12_go_17
  · skip
    have h_12 := s_nlt (rfl : x.toInt = _) (show (1 : Int32).toInt = 1 from rfl) c_3
    refine lv_iload_n hx hb dX12_go_10 rfl (lv_at hl 1 rfl) ?_
    refine lv_bipush (v := 40) hx hb dX12_go_11 (by decide) ?_
    refine lv_icmp_le (tgt := 18) hx hb dX12_go_13 (by decide) (fun c_13 => ?_) (fun c_13 => ?_)
    · skip
      have h_14 := s_le (rfl : x.toInt = _) (show (40 : Int32).toInt = 40 from rfl) c_13
      refine lv_iconst (v := 0) hx hb dX12_go_18 (by decide) ?_
      refine lv_istore_n (lv' := [(2, .int 0), (0, .ref (g 36)), (1, .int x)]) hx hb dX12_go_19 rfl hl (by decide) rfl (fun ls hl => ?_)
      -- loop at 20
      have lp_15 : ∀ (fuel_lp_15 : Nat) (t : Int32) (j1 : Nat → Nat → Int32) (Lv_16 : Nat → Nat → Int64) (d1 : Nat → Nat → UInt64) (H : Heap) (locs : List Loc) (ls : Array Slot), (40 - t.toInt).toNat < fuel_lp_15 → (0 : Int) ≤ t.toInt ∧ t.toInt ≤ 40 → (j1 36 81).toInt ≤ (i 36 81).toInt + 2 * t.toInt ∧ t.toInt ≤ x.toInt → MI j1 d1 → mxE i j1 → ((((i 36 76).toInt = 0 ∧ t.toInt = 0 ∧ (j1 36 76).toInt = 0) ∨ ((i 36 76).toInt = 1 ∧ ((j1 36 76).toInt = 1 → (mrest j1 + t.toInt = mrest i ∧ 1 ≤ mrest j1)) ∧ ((j1 36 76).toInt = 0 → t.toInt = mrest i)))) → (j1 36 81).toInt + (j1 36 76).toInt = (i 36 81).toInt + (i 36 76).toInt + t.toInt → (∀ a, ¬ (a = 425) → d1 a = d a) → OkI j1 → (∀ a b, ¬ ((a = 36 ∧ (b = 0 ∨ b = 40 ∨ b = 45 ∨ b = 49 ∨ b = 52 ∨ b = 54 ∨ b = 55 ∨ b = 57 ∨ b = 65 ∨ b = 66 ∨ b = 74 ∨ b = 75 ∨ b = 76 ∨ b = 78 ∨ b = 79 ∨ b = 80 ∨ b = 81)) ∨ a = 401 ∨ a = 402 ∨ a = 406 ∨ a = 407 ∨ a = 408 ∨ a = 409 ∨ a = 410 ∨ a = 411 ∨ a = 413 ∨ a = 414 ∨ a = 415 ∨ a = 418 ∨ a = 419 ∨ a = 426 ∨ a = 427 ∨ a = 428 ∨ a = 429) → j1 a b = (up2 i 36 0 0) a b) → lv_has ls 4 [(2, .int t), (0, .ref (g 36)), (1, .int x)] → sj_H D A (hwc g ka j1 r Lv_16 d1) H → va_S A s.heap H locs → W p l e (headSpec wsX12_go ({ frames := 10, cells := 0, slots := 0, locals := 232 })).room s m ([.ref (g 36), .int x] : List Value).toArray below meth c H locs 0 0 (MQ below (sj_Qi (S := (Nat → Nat → Int32) × (Nat → Nat → Int64) × (Nat → Nat → UInt64)) D (fun v u => OkI u.1 ∧ (∀ a b, ¬ ((a = 36 ∧ (b = 0 ∨ b = 40 ∨ b = 45 ∨ b = 49 ∨ b = 52 ∨ b = 54 ∨ b = 55 ∨ b = 57 ∨ b = 65 ∨ b = 66 ∨ b = 74 ∨ b = 75 ∨ b = 76 ∨ b = 78 ∨ b = 79 ∨ b = 80 ∨ b = 81)) ∨ a = 401 ∨ a = 402 ∨ a = 406 ∨ a = 407 ∨ a = 408 ∨ a = 409 ∨ a = 410 ∨ a = 411 ∨ a = 413 ∨ a = 414 ∨ a = 415 ∨ a = 418 ∨ a = 419 ∨ a = 426 ∨ a = 427 ∨ a = 428 ∨ a = 429) → u.1 a b = i a b) ∧ (∀ a, ¬ (a = 425) → u.2.2 a = d a) ∧ (MI u.1 u.2.2) ∧ (mxE i u.1) ∧ ((((x.toInt < 1 ∨ 40 < x.toInt) ∧ v.toInt = -1 ∧ (u.1 36 76).toInt = (i 36 76).toInt ∧ mrest u.1 = mrest i) ∨ ((1 ≤ x.toInt ∧ x.toInt ≤ 40) ∧ (((i 36 76).toInt = 0 ∧ v.toInt = 0 ∧ (u.1 36 76).toInt = 0) ∨ ((i 36 76).toInt = 1 ∧ ((mrest i ≤ x.toInt ∧ v.toInt = mrest i ∧ (u.1 36 76).toInt = 0) ∨ (x.toInt < mrest i ∧ v.toInt = x.toInt ∧ (u.1 36 76).toInt = 1 ∧ mrest u.1 + x.toInt = mrest i))))))) ∧ (((u.1 36 81).toInt ≤ (i 36 81).toInt + 80 ∧ -1 ≤ v.toInt)) ∧ (((x.toInt < 1 ∨ 40 < x.toInt) ∧ (u.1 36 81).toInt = (i 36 81).toInt) ∨ ((1 ≤ x.toInt ∧ x.toInt ≤ 40) ∧ (u.1 36 81).toInt + (u.1 36 76).toInt = (i 36 81).toInt + (i 36 76).toInt + v.toInt))) (fun u => hwc g ka u.1 r u.2.1 u.2.2) (fun _ => []) A) ([.ref (g 36), .int x] : List Value).toArray s 0 0 A) (F0 m 20 ls []) := by
        intro fuel_lp_15
        induction fuel_lp_15 with
        | zero => intros; omega
        | succ fuel_lp_15 ih_lp_15 =>
          intro t j1 Lv_16 d1 H locs ls hm hr_t hi_lp_15_0 hi_lp_15_1 hi_lp_15_2 hi_lp_15_3 hi_lp_15_4 hfd_d1 hO_j1 hfr_j1 hl hH hS
          have hbu : (0 : Int) ≤ (j1 36 76).toInt ∧ (j1 36 76).toInt ≤ 1 := hO_j1 36 76
          refine lv_iload_n hx hb dX12_go_20 rfl (lv_at hl 0 rfl) ?_
          refine lv_iload_n hx hb dX12_go_21 rfl (lv_at hl 2 rfl) ?_
          refine lv_icmp_ge (tgt := 116) hx hb dX12_go_22 (by decide) (fun c_17 => ?_) (fun c_17 => ?_)
          · skip
            have h_18 := s_le (rfl : x.toInt = _) (rfl : t.toInt = _) c_17
            refine lv_iload_n hx hb dX12_go_116 rfl (lv_at hl 0 rfl) ?_
            have hV_19 : (((x.toInt < 1 ∨ 40 < x.toInt) ∧ (t : Int32).toInt = -1 ∧ (j1 36 76).toInt = (i 36 76).toInt ∧ mrest j1 = mrest i) ∨ ((1 ≤ x.toInt ∧ x.toInt ≤ 40) ∧ (((i 36 76).toInt = 0 ∧ (t : Int32).toInt = 0 ∧ (j1 36 76).toInt = 0) ∨ ((i 36 76).toInt = 1 ∧ ((mrest i ≤ x.toInt ∧ (t : Int32).toInt = mrest i ∧ (j1 36 76).toInt = 0) ∨ (x.toInt < mrest i ∧ (t : Int32).toInt = x.toInt ∧ (j1 36 76).toInt = 1 ∧ mrest j1 + x.toInt = mrest i)))))) := (go_out hi_lp_15_3 (by omega) (by omega) (by omega) (by omega) rfl)
            have hV_20 : ((j1 36 81).toInt ≤ (i 36 81).toInt + 80 ∧ -1 ≤ (t : Int32).toInt) := (by omega)
            have hp_21 : (j1 36 81).toInt = ((j1 36 81) : Int32).toInt := rfl
            have hp_22 : (j1 36 76).toInt = ((j1 36 76) : Int32).toInt := rfl
            have hV_23 : ((x.toInt < 1 ∨ 40 < x.toInt) ∧ (j1 36 81).toInt = (i 36 81).toInt) ∨ ((1 ≤ x.toInt ∧ x.toInt ≤ 40) ∧ (j1 36 81).toInt + (j1 36 76).toInt = (i 36 81).toInt + (i 36 76).toInt + (t : Int32).toInt) := (Or.inr ⟨by omega, by omega⟩)
            exact sj_zret hx hb hr hlocks rfl hS (j1, Lv_16, d1) ⟨hO_j1, (fun a b ha => ((hfr_j1 a b (by omega)).trans (up2_o _ _ (by omega)))), (fun a ha => (hfd_d1 a (by omega))), hi_lp_15_1, hi_lp_15_2, hV_19, hV_20, hV_23⟩ hH (sj_Knil hK) (Nat.le_of_ble_eq_true rfl) (Nat.le_of_ble_eq_true rfl) dX12_go_117
          · skip
            have h_24 := s_nle (rfl : x.toInt = _) (rfl : t.toInt = _) c_17
            refine lv_aload_n hx hb dX12_go_25 rfl (lv_at hl 1 rfl) ?_
            have bx_25 : (0 : Int) ≤ (j1 36 76).toInt ∧ (j1 36 76).toInt ≤ 1 := hO_j1 36 76
            refine h_geti (ci := 12) (C := RX12) (F := TX12) (N := 86) hx hb hts in12 hown hK hH (by decide) (rfl : kd 36 = 12) (by decide) rfl 76 (by decide) wd1 (fun _ h9 => h9) (by decide) rfl dX12_go_26 ?_
            refine lv_if_eq (tgt := 116) hx hb dX12_go_29 (by decide) (fun c_26 => ?_) (fun c_26 => ?_)
            · skip
              have h_27 := s_eq (rfl : (j1 36 76).toInt = _) (show (0 : Int32).toInt = 0 from rfl) c_26
              refine lv_iload_n hx hb dX12_go_116 rfl (lv_at hl 0 rfl) ?_
              have hV_28 : (((x.toInt < 1 ∨ 40 < x.toInt) ∧ (t : Int32).toInt = -1 ∧ (j1 36 76).toInt = (i 36 76).toInt ∧ mrest j1 = mrest i) ∨ ((1 ≤ x.toInt ∧ x.toInt ≤ 40) ∧ (((i 36 76).toInt = 0 ∧ (t : Int32).toInt = 0 ∧ (j1 36 76).toInt = 0) ∨ ((i 36 76).toInt = 1 ∧ ((mrest i ≤ x.toInt ∧ (t : Int32).toInt = mrest i ∧ (j1 36 76).toInt = 0) ∨ (x.toInt < mrest i ∧ (t : Int32).toInt = x.toInt ∧ (j1 36 76).toInt = 1 ∧ mrest j1 + x.toInt = mrest i)))))) := (go_out hi_lp_15_3 (by omega) (by omega) (by omega) (by omega) rfl)
              have hV_29 : ((j1 36 81).toInt ≤ (i 36 81).toInt + 80 ∧ -1 ≤ (t : Int32).toInt) := (by omega)
              have hp_30 : (j1 36 81).toInt = ((j1 36 81) : Int32).toInt := rfl
              have hp_31 : (j1 36 76).toInt = ((j1 36 76) : Int32).toInt := rfl
              have hV_32 : ((x.toInt < 1 ∨ 40 < x.toInt) ∧ (j1 36 81).toInt = (i 36 81).toInt) ∨ ((1 ≤ x.toInt ∧ x.toInt ≤ 40) ∧ (j1 36 81).toInt + (j1 36 76).toInt = (i 36 81).toInt + (i 36 76).toInt + (t : Int32).toInt) := (Or.inr ⟨by omega, by omega⟩)
              exact sj_zret hx hb hr hlocks rfl hS (j1, Lv_16, d1) ⟨hO_j1, (fun a b ha => ((hfr_j1 a b (by omega)).trans (up2_o _ _ (by omega)))), (fun a ha => (hfd_d1 a (by omega))), hi_lp_15_1, hi_lp_15_2, hV_28, hV_29, hV_32⟩ hH (sj_Knil hK) (Nat.le_of_ble_eq_true rfl) (Nat.le_of_ble_eq_true rfl) dX12_go_117
            · skip
              have h_33 := s_ne (rfl : (j1 36 76).toInt = _) (show (0 : Int32).toInt = 0 from rfl) c_26
              obtain ⟨hru, hMU1, htw, hre1⟩ := hi_lp_15_1.resolve_left (fun q => by have := q.1; omega)
              have hMU11 := hMU1.1
              have hb77 : (0 : Int) ≤ (j1 36 77).toInt ∧ (j1 36 77).toInt ≤ 3 := hO_j1 36 77
              have hp_34 : (j1 36 77).toInt = ((i 36 77) : Int32).toInt := congrArg Int32.toInt (((hfr_j1 36 77 (by omega)).trans (up2_k _ _ (by decide))))
              have hp_35 : (j1 36 33).toInt = ((i 36 33) : Int32).toInt := congrArg Int32.toInt (((hfr_j1 36 33 (by omega)).trans (up2_k _ _ (by decide))))
              refine lv_iconst (v := 0) hx hb dX12_go_32 (by decide) ?_
              refine lv_istore_n (lv' := [(3, .int 0), (2, .int t), (0, .ref (g 36)), (1, .int x)]) hx hb dX12_go_33 rfl hl (by decide) rfl (fun ls hl => ?_)
              -- loop at 34
              have lp_36 : ∀ (fuel_lp_36 : Nat) (f : Int32) (j2 : Nat → Nat → Int32) (H : Heap) (locs : List Loc) (ls : Array Slot), (3 - f.toInt).toNat < fuel_lp_36 → (0 : Int) ≤ f.toInt ∧ f.toInt ≤ 3 → f.toInt ≤ 0 ∨ (j1 36 79).toInt = (j1 36 33).toInt → tnI j1 (j1 36 77).toInt (j1 36 78).toInt f.toInt (j2 36 78).toInt → 0 ≤ (j2 36 78).toInt ∧ (j2 36 78).toInt < (j1 36 77).toInt → OkI j2 → (∀ a b, ¬ ((a = 36 ∧ (b = 78))) → j2 a b = j1 a b) → lv_has ls 4 [(3, .int f), (2, .int t), (0, .ref (g 36)), (1, .int x)] → sj_H D A (hwc g ka j2 r Lv_16 d1) H → va_S A s.heap H locs → W p l e (headSpec wsX12_go ({ frames := 10, cells := 0, slots := 0, locals := 232 })).room s m ([.ref (g 36), .int x] : List Value).toArray below meth c H locs 0 0 (MQ below (sj_Qi (S := (Nat → Nat → Int32) × (Nat → Nat → Int64) × (Nat → Nat → UInt64)) D (fun v u => OkI u.1 ∧ (∀ a b, ¬ ((a = 36 ∧ (b = 0 ∨ b = 40 ∨ b = 45 ∨ b = 49 ∨ b = 52 ∨ b = 54 ∨ b = 55 ∨ b = 57 ∨ b = 65 ∨ b = 66 ∨ b = 74 ∨ b = 75 ∨ b = 76 ∨ b = 78 ∨ b = 79 ∨ b = 80 ∨ b = 81)) ∨ a = 401 ∨ a = 402 ∨ a = 406 ∨ a = 407 ∨ a = 408 ∨ a = 409 ∨ a = 410 ∨ a = 411 ∨ a = 413 ∨ a = 414 ∨ a = 415 ∨ a = 418 ∨ a = 419 ∨ a = 426 ∨ a = 427 ∨ a = 428 ∨ a = 429) → u.1 a b = i a b) ∧ (∀ a, ¬ (a = 425) → u.2.2 a = d a) ∧ (MI u.1 u.2.2) ∧ (mxE i u.1) ∧ ((((x.toInt < 1 ∨ 40 < x.toInt) ∧ v.toInt = -1 ∧ (u.1 36 76).toInt = (i 36 76).toInt ∧ mrest u.1 = mrest i) ∨ ((1 ≤ x.toInt ∧ x.toInt ≤ 40) ∧ (((i 36 76).toInt = 0 ∧ v.toInt = 0 ∧ (u.1 36 76).toInt = 0) ∨ ((i 36 76).toInt = 1 ∧ ((mrest i ≤ x.toInt ∧ v.toInt = mrest i ∧ (u.1 36 76).toInt = 0) ∨ (x.toInt < mrest i ∧ v.toInt = x.toInt ∧ (u.1 36 76).toInt = 1 ∧ mrest u.1 + x.toInt = mrest i))))))) ∧ (((u.1 36 81).toInt ≤ (i 36 81).toInt + 80 ∧ -1 ≤ v.toInt)) ∧ (((x.toInt < 1 ∨ 40 < x.toInt) ∧ (u.1 36 81).toInt = (i 36 81).toInt) ∨ ((1 ≤ x.toInt ∧ x.toInt ≤ 40) ∧ (u.1 36 81).toInt + (u.1 36 76).toInt = (i 36 81).toInt + (i 36 76).toInt + v.toInt))) (fun u => hwc g ka u.1 r u.2.1 u.2.2) (fun _ => []) A) ([.ref (g 36), .int x] : List Value).toArray s 0 0 A) (F0 m 34 ls []) := by
                intro fuel_lp_36
                induction fuel_lp_36 with
                | zero => intros; omega
                | succ fuel_lp_36 ih_lp_36 =>
                  intro f j2 H locs ls hm hr_f hi_lp_36_0 hi_lp_36_1 hi_lp_36_2 hO_j2 hfr_j2 hl hH hS
                  have hb78 : (0 : Int) ≤ (j1 36 78).toInt ∧ (j1 36 78).toInt ≤ 2 := hO_j1 36 78
                  refine lv_iload_n hx hb dX12_go_34 rfl (lv_at hl 0 rfl) ?_
                  refine lv_iconst (v := 3) hx hb dX12_go_35 (by decide) ?_
                  refine lv_icmp_ge (tgt := 83) hx hb dX12_go_36 (by decide) (fun c_37 => ?_) (fun c_37 => ?_)
                  · skip
                    have h_38 := s_le (show (3 : Int32).toInt = 3 from rfl) (rfl : f.toInt = _) c_37
                    refine lv_aload_n hx hb dX12_go_83 rfl (lv_at hl 2 rfl) ?_
                    refine lv_aload_n hx hb dX12_go_84 rfl (lv_at hl 2 rfl) ?_
                    have bx_39 : (0 : Int) ≤ (j2 36 78).toInt ∧ (j2 36 78).toInt ≤ 2 := hO_j2 36 78
                    refine h_geti (ci := 12) (C := RX12) (F := TX12) (N := 86) hx hb hts in12 hown hK hH (by decide) (rfl : kd 36 = 12) (by decide) rfl 78 (by decide) wd2 (fun _ h9 => h9) (by decide) rfl dX12_go_85 ?_
                    have hsm := MU_same (mxE_of (i := j1) (u := j2) ⟨(hfr_j2 36 17 (by omega)), fun a h1 h2 => funext fun b9 => (hfr_j2 a b9 (by omega))⟩ (hfr_j2 36 33 (by omega)) (hfr_j2 36 67 (by omega)) (hfr_j2 36 77 (by omega)) (funext fun b9 => (hfr_j2 400 b9 (by omega))) (funext fun b9 => (hfr_j2 420 b9 (by omega))) (funext fun b9 => (hfr_j2 416 b9 (by omega))) (funext fun b9 => (hfr_j2 417 b9 (by omega)))) (hfr_j2 36 79 (by omega)) (funext fun b9 => (hfr_j2 427 b9 (by omega))) (funext fun b9 => (hfr_j2 428 b9 (by omega))) (funext fun b9 => (hfr_j2 429 b9 (by omega))) hMU1
                    have hMU2 := hsm.1
                    have hre2 := hsm.2
                    have hp_40 : (j2 36 77).toInt = ((i 36 77) : Int32).toInt := congrArg Int32.toInt (((hfr_j2 36 77 (by omega)).trans ((hfr_j1 36 77 (by omega)).trans (up2_k _ _ (by decide)))))
                    have hp_41 : (j2 36 79).toInt = ((j1 36 79) : Int32).toInt := congrArg Int32.toInt ((hfr_j2 36 79 (by omega)))
                    have hmv1 : mvH j1 ((j2 36 78)).toInt.toNat := tnI_m hO_j1 hMU1 hre1 hi_lp_36_1 rfl (hO_j1 36 78).1 htw hi_lp_36_0 (by omega)
                    have hmv : mvH j2 ((j2 36 78)).toInt.toNat := by unfold mvH; rw [show j2 427 = j1 427 from funext fun b9 => (hfr_j2 427 b9 (by omega)), show j2 36 79 = j1 36 79 from (hfr_j2 36 79 (by omega)), show j2 36 33 = j1 36 33 from (hfr_j2 36 33 (by omega))]; exact hmv1
                    have hp_42 : (j2 36 81).toInt = ((j1 36 81) : Int32).toInt := congrArg Int32.toInt ((hfr_j2 36 81 (by omega)))
                    refine x_callv (va_runV (As := [.int (j2 36 78)]) (rest := []) ⟨hx, hb, hml, hown, hts⟩ (m_move l D g ka ad j2 r Lv_16 d1 (j2 36 78) hO_j2 hR H.size (by first | omega | decide) (by first | omega | decide) hmv (NR_fr hnr (funext fun b9 => ((hfr_j2 399 b9 (by omega)).trans ((hfr_j1 399 b9 (by omega)).trans (up2_o _ _ (by omega))))) (funext fun b9 => ((hfr_j2 398 b9 (by omega)).trans ((hfr_j1 398 b9 (by omega)).trans (up2_o _ _ (by omega)))))) (DI_fr hdi ((hfr_j2 36 41 (by omega)).trans ((hfr_j1 36 41 (by omega)).trans (up2_o _ _ (by omega)))) (funext fun b9 => ((hfr_j2 403 b9 (by omega)).trans ((hfr_j1 403 b9 (by omega)).trans (up2_o _ _ (by omega))))) (funext fun b9 => ((hfr_j2 404 b9 (by omega)).trans ((hfr_j1 404 b9 (by omega)).trans (up2_o _ _ (by omega)))))) (hMU2.2.2.2 ((j2 36 78)).toInt.toNat (by omega)) (by omega)) (cwV 1 hts gX12_go_X12_move rfl rfl rfl (by decide +kernel) ⟨(Nat.le_of_ble_eq_true rfl), (Nat.le_of_ble_eq_true rfl)⟩) (x_preV (q := (RX12, TX12, 86)) hH hK (q_obj (by decide) (rfl : kd 36 = 12) (by decide)) rfl gxb (gxw hE hS (x_F hH hS hA))) rfl rfl hl.1 rfl (lv_room (Nat.le_of_ble_eq_true rfl)) dX12_go_88 ⟨(Nat.le_of_ble_eq_true rfl), (Nat.le_of_ble_eq_true rfl)⟩) hH hS hA rfl rfl (fun u_48 H locs hw_44 hH hS => ?_)
                    obtain ⟨im_45, Lm_46, dm_47⟩ := u_48
                    try dsimp only at hw_44
                    have hH : sj_H D A (hwc g ka im_45 r Lm_46 dm_47) H := hH
                    obtain ⟨hO_50, hfr_49, hfd_51, hx2_52, hx2_53, hx2_54, hx2_55, hx2_56, hx2_57, hx2_58⟩ := hw_44
                    obtain ⟨hMU3, hre3⟩ := mgo_step (x := ((j2 36 78)).toInt.toNat) hO_j2 hMU2 (by omega) (by omega) hmv (mxE_of (i := j2) (u := im_45) ⟨(hfr_49 36 17 (by omega)), fun a h1 h2 => funext fun b9 => (hfr_49 a b9 (by omega))⟩ (hfr_49 36 33 (by omega)) (hfr_49 36 67 (by omega)) (hfr_49 36 77 (by omega)) (funext fun b9 => (hfr_49 400 b9 (by omega))) (funext fun b9 => (hfr_49 420 b9 (by omega))) (funext fun b9 => (hfr_49 416 b9 (by omega))) (funext fun b9 => (hfr_49 417 b9 (by omega)))) hx2_52 hx2_53 hx2_54 hx2_55 hx2_56 hx2_58
                    have htold := hx2_57
                    refine lv_aload_n hx hb dX12_go_91 rfl (lv_at hl 2 rfl) ?_
                    refine lv_aload_n hx hb dX12_go_92 rfl (lv_at hl 2 rfl) ?_
                    refine h_geti (ci := 12) (C := RX12) (F := TX12) (N := 86) hx hb hts in12 hown hK hH (by decide) (rfl : kd 36 = 12) (by decide) rfl 78 (by decide) wd2 (fun _ h9 => h9) (by decide) rfl dX12_go_93 ?_
                    refine sj_i (y := (j2 36 78)) (hfr_49 36 78 (by omega)) ?_
                    refine lv_iconst (v := 1) hx hb dX12_go_96 (by decide) ?_
                    refine lv_iadd hx hb dX12_go_97 ?_
                    obtain ⟨z_59, ez_59, hz_59⟩ := s_add (rfl : (j2 36 78).toInt = _) (show (1 : Int32).toInt = 1 from rfl) (by omega) (by omega)
                    refine sj_i ez_59 ?_
                    refine lv_aload_n hx hb dX12_go_98 rfl (lv_at hl 2 rfl) ?_
                    have bx_60 : (0 : Int) ≤ (i 36 77).toInt ∧ (i 36 77).toInt ≤ 3 := hO 36 77
                    refine h_geti (ci := 12) (C := RX12) (F := TX12) (N := 86) hx hb hts in12 hown hK hH (by decide) (rfl : kd 36 = 12) (by decide) rfl 77 (by decide) wd3 (fun _ h9 => h9) (by decide) rfl dX12_go_99 ?_
                    refine sj_i (y := (i 36 77)) ((hfr_49 36 77 (by omega)).trans ((hfr_j2 36 77 (by omega)).trans ((hfr_j1 36 77 (by omega)).trans (up2_k _ _ (by decide))))) ?_
                    have hmrz_61 := modr (a := z_59.toInt) (w := (i 36 77).toInt) (by omega)
                    refine lv_irem hx hb dX12_go_102 (p_ne (rfl : (i 36 77).toInt = _) (show (0 : Int32).toInt = 0 from rfl) (by omega)) ?_
                    obtain ⟨z_61, ez_61, hz_61⟩ := s_rem2 (rfl : z_59.toInt = _) (rfl : (i 36 77).toInt = _) (by omega) (by omega)
                    refine sj_i ez_61 ?_
                    have hO_62 := okp hO_50 (n := 36) (k := 78) (v := z_61) (show (0 : Int) ≤ (z_61 : Int32).toInt ∧ (z_61 : Int32).toInt ≤ 2 from ⟨by omega, by omega⟩)
                    refine h_puti (ty := .int) (ci := 12) (C := RX12) (F := TX12) (N := 86) hx hb hts in12 tyX12 tyX12_ok nmX12 hown hK hH hS (by decide) (rfl : kd 36 = 12) (by decide) rfl 78 (by decide) wd2 (fun _ h9 => h9) rfl (by decide +kernel) rfl rfl (by decide) rfl dX12_go_103 (fun H locs hH hS => ?_)
                    obtain ⟨z_63, ez_63, hz_63⟩ := s_add (rfl : t.toInt = _) (show (1 : Int32).toInt = 1 from rfl) (by omega) (by omega)
                    refine lv_iinc (v := z_63) (lv' := [(2, .int z_63), (3, .int f), (0, .ref (g 36)), (1, .int x)]) hx hb dX12_go_106 hl (k := 1) rfl ez_63 (by decide) rfl (fun ls hl => ?_)
                    refine lv_aload_n hx hb dX12_go_109 rfl (lv_at hl 2 rfl) ?_
                    have hp_64 : ((up2 im_45 36 78 z_61) 36 81).toInt = ((im_45 36 81) : Int32).toInt := congrArg Int32.toInt ((up2_k _ _ (by decide)))
                    have hp_65 : ((up2 im_45 36 78 z_61) 36 76).toInt = ((j1 36 76) : Int32).toInt := congrArg Int32.toInt (((up2_k _ _ (by decide)).trans ((hfr_49 36 76 (by omega)).trans (hfr_j2 36 76 (by omega)))))
                    refine x_callv (va_runV (As := []) (rest := []) ⟨hx, hb, hml, hown, hts⟩ (mv_settle2 l D g ka ad (up2 im_45 36 78 z_61) r Lm_46 dm_47  hO_62 hR H.size (by first | omega | decide) (by omega)) (cwV 0 hts gX12_go_X12_settle rfl rfl rfl (by decide +kernel) ⟨(Nat.le_of_ble_eq_true rfl), (Nat.le_of_ble_eq_true rfl)⟩) (x_preV (q := (RX12, TX12, 86)) hH hK (q_obj (by decide) (rfl : kd 36 = 12) (by decide)) rfl gxb (gxw hE hS (x_F hH hS hA))) rfl rfl hl.1 rfl (lv_room (Nat.le_of_ble_eq_true rfl)) dX12_go_110 ⟨(Nat.le_of_ble_eq_true rfl), (Nat.le_of_ble_eq_true rfl)⟩) hH hS hA rfl rfl (fun im_68 H locs hw_67 hH hS => ?_)
                    have hH : sj_H D A (hwc g ka im_68 r Lm_46 dm_47) H := hH
                    obtain ⟨hO_70, hfr_69, hx2_71, hx2_72, hx2_73⟩ := hw_67
                    have hts9 := hx2_72
                    have hsm6 := MU_same (mxE_of (i := im_45) (u := (up2 im_45 36 78 z_61)) ⟨(up2_o _ _ (by omega)), fun a h1 h2 => funext fun b9 => (up2_o _ _ (by omega))⟩ (up2_o _ _ (by omega)) (up2_o _ _ (by omega)) (up2_o _ _ (by omega)) (funext fun b9 => (up2_o _ _ (by omega))) (funext fun b9 => (up2_o _ _ (by omega))) (funext fun b9 => (up2_o _ _ (by omega))) (funext fun b9 => (up2_o _ _ (by omega)))) (up2_o _ _ (by omega)) (funext fun b9 => (up2_o _ _ (by omega))) (funext fun b9 => (up2_o _ _ (by omega))) (funext fun b9 => (up2_o _ _ (by omega))) hMU3
                    have hp_74 : (im_68 36 76).toInt = ((im_68 36 76) : Int32).toInt := rfl
                    have hp_75 : (im_68 36 77).toInt = ((i 36 77) : Int32).toInt := congrArg Int32.toInt (((hfr_69 36 77 (by omega)).trans ((up2_k _ _ (by decide)).trans ((hfr_49 36 77 (by omega)).trans ((hfr_j2 36 77 (by omega)).trans ((hfr_j1 36 77 (by omega)).trans (up2_k _ _ (by decide))))))))
                    have hp_76 : (im_68 36 78).toInt = (z_61 : Int32).toInt := congrArg Int32.toInt (((hfr_69 36 78 (by omega)).trans (up2_at _ _ _ _)))
                    have hq76 : ((up2 im_45 36 78 z_61) 36 76).toInt = ((j1 36 76) : Int32).toInt := congrArg Int32.toInt (((up2_k _ _ (by decide)).trans ((hfr_49 36 76 (by omega)).trans (hfr_j2 36 76 (by omega)))))
                    have hq77 : ((up2 im_45 36 78 z_61) 36 77).toInt = ((i 36 77) : Int32).toInt := congrArg Int32.toInt (((up2_k _ _ (by decide)).trans ((hfr_49 36 77 (by omega)).trans ((hfr_j2 36 77 (by omega)).trans ((hfr_j1 36 77 (by omega)).trans (up2_k _ _ (by decide)))))))
                    obtain ⟨hMI7, hre7, hk7, hp7⟩ := MI_set (i := (up2 im_45 36 78 z_61)) hO_62 rfl (mxE_of (i := (up2 im_45 36 78 z_61)) (u := im_68) ⟨(hfr_69 36 17 (by omega)), fun a h1 h2 => funext fun b9 => (hfr_69 a b9 (by omega))⟩ (hfr_69 36 33 (by omega)) (hfr_69 36 67 (by omega)) (hfr_69 36 77 (by omega)) (funext fun b9 => (hfr_69 400 b9 (by omega))) (funext fun b9 => (hfr_69 420 b9 (by omega))) (funext fun b9 => (hfr_69 416 b9 (by omega))) (funext fun b9 => (hfr_69 417 b9 (by omega)))) (hfr_69 36 79 (by omega)) (funext fun b9 => (hfr_69 427 b9 (by omega))) (funext fun b9 => (hfr_69 428 b9 (by omega))) (funext fun b9 => (hfr_69 429 b9 (by omega))) hsm6.1 (by omega) (by omega) hx2_71
                    have hre9 : mrest im_68 + 1 = mrest j1 := by have := hsm6.2; omega
                    have hGI := go_inv hi_lp_15_3 (by omega) hre9 hk7 (fun q => by omega) (fun q => by omega)
                    have hmx7 : mxE i im_68 := (mxE_of (i := i) (u := im_68) ⟨((hfr_69 36 17 (by omega)).trans ((up2_o _ _ (by omega)).trans ((hfr_49 36 17 (by omega)).trans ((hfr_j2 36 17 (by omega)).trans ((hfr_j1 36 17 (by omega)).trans (up2_o _ _ (by omega))))))), fun a h1 h2 => funext fun b9 => ((hfr_69 a b9 (by omega)).trans ((up2_o _ _ (by omega)).trans ((hfr_49 a b9 (by omega)).trans ((hfr_j2 a b9 (by omega)).trans ((hfr_j1 a b9 (by omega)).trans (up2_o _ _ (by omega)))))))⟩ ((hfr_69 36 33 (by omega)).trans ((up2_o _ _ (by omega)).trans ((hfr_49 36 33 (by omega)).trans ((hfr_j2 36 33 (by omega)).trans ((hfr_j1 36 33 (by omega)).trans (up2_o _ _ (by omega))))))) ((hfr_69 36 67 (by omega)).trans ((up2_o _ _ (by omega)).trans ((hfr_49 36 67 (by omega)).trans ((hfr_j2 36 67 (by omega)).trans ((hfr_j1 36 67 (by omega)).trans (up2_o _ _ (by omega))))))) ((hfr_69 36 77 (by omega)).trans ((up2_o _ _ (by omega)).trans ((hfr_49 36 77 (by omega)).trans ((hfr_j2 36 77 (by omega)).trans ((hfr_j1 36 77 (by omega)).trans (up2_o _ _ (by omega))))))) (funext fun b9 => ((hfr_69 400 b9 (by omega)).trans ((up2_o _ _ (by omega)).trans ((hfr_49 400 b9 (by omega)).trans ((hfr_j2 400 b9 (by omega)).trans ((hfr_j1 400 b9 (by omega)).trans (up2_o _ _ (by omega)))))))) (funext fun b9 => ((hfr_69 420 b9 (by omega)).trans ((up2_o _ _ (by omega)).trans ((hfr_49 420 b9 (by omega)).trans ((hfr_j2 420 b9 (by omega)).trans ((hfr_j1 420 b9 (by omega)).trans (up2_o _ _ (by omega)))))))) (funext fun b9 => ((hfr_69 416 b9 (by omega)).trans ((up2_o _ _ (by omega)).trans ((hfr_49 416 b9 (by omega)).trans ((hfr_j2 416 b9 (by omega)).trans ((hfr_j1 416 b9 (by omega)).trans (up2_o _ _ (by omega)))))))) (funext fun b9 => ((hfr_69 417 b9 (by omega)).trans ((up2_o _ _ (by omega)).trans ((hfr_49 417 b9 (by omega)).trans ((hfr_j2 417 b9 (by omega)).trans ((hfr_j1 417 b9 (by omega)).trans (up2_o _ _ (by omega)))))))))
                    refine lv_goto (tgt := 20) hx hb dX12_go_113 (by decide) ?_
                    have hp_77 : (im_68 36 81).toInt = ((im_68 36 81) : Int32).toInt := rfl
                    have hp_78 : (im_68 36 81).toInt = ((im_68 36 81) : Int32).toInt := rfl
                    have hp_79 : (im_68 36 81).toInt = ((im_68 36 81) : Int32).toInt := rfl
                    have hp_80 : (im_68 36 76).toInt = ((im_68 36 76) : Int32).toInt := rfl
                    exact ih_lp_15 z_63 _ _ _ _ _ ls (by omega) (by omega) (by omega) hMI7 hmx7 (by rw [hz_63]; exact hGI) (by omega) (fun a ha => ((hfd_51 a (by omega)).trans (hfd_d1 a (by omega)))) hO_70 (fun a b ha => ((hfr_69 a b (by omega)).trans ((up2_o _ _ (by omega)).trans ((hfr_49 a b (by omega)).trans ((hfr_j2 a b (by omega)).trans (hfr_j1 a b (by omega))))))) (lv_sub hl [0, 2, 3] rfl) hH hS
                  · skip
                    have h_81 := s_nle (show (3 : Int32).toInt = 3 from rfl) (rfl : f.toInt = _) c_37
                    refine lv_aload_n hx hb dX12_go_39 rfl (lv_at hl 2 rfl) ?_
                    refine h_getr (ci := 12) (C := RX12) (F := TX12) (N := 86) hx hb hts in12 hown hK hH (by decide) (rfl : kd 36 = 12) (by decide) rfl 83 (by decide) wd4 (fun _ h9 => h9) (by decide) rfl (t := 427) (hR 36 83 rfl) (by decide) dX12_go_40 ?_
                    refine lv_aload_n hx hb dX12_go_43 rfl (lv_at hl 2 rfl) ?_
                    have bx_82 : (0 : Int) ≤ (j2 36 78).toInt ∧ (j2 36 78).toInt ≤ 2 := hO_j2 36 78
                    refine h_geti (ci := 12) (C := RX12) (F := TX12) (N := 86) hx hb hts in12 hown hK hH (by decide) (rfl : kd 36 = 12) (by decide) rfl 78 (by decide) wd2 (fun _ h9 => h9) (by decide) rfl dX12_go_44 ?_
                    have bx_83 : (-1 : Int) ≤ (j1 427 ((j2 36 78).toInt).toNat).toInt ∧ (j1 427 ((j2 36 78).toInt).toNat).toInt ≤ 23 := hO_j1 427 ((j2 36 78).toInt).toNat
                    refine h_iald hx hb hK hH (by decide) (rfl : kd 427 = 13) (s_vin (N := 3) (rfl : (j2 36 78).toInt = _) (rfl : ln 427 = 3) (by omega) (by omega)) dX12_go_47 ?_
                    have ek_84 : (j2 36 78).toNatClampNeg = ((j2 36 78).toInt).toNat := (s_cl (show (j2 36 78).toInt = (j2 36 78).toInt by omega))
                    refine sj_i (y := (j1 427 ((j2 36 78).toInt).toNat)) (by rw [ek_84]; exact (hfr_j2 427 ((j2 36 78).toInt).toNat (by omega))) ?_
                    refine lv_if_ge (tgt := 83) hx hb dX12_go_48 (by decide) (fun c_85 => ?_) (fun c_85 => ?_)
                    · skip
                      have h_86 := s_le (show (0 : Int32).toInt = 0 from rfl) (rfl : (j1 427 ((j2 36 78).toInt).toNat).toInt = _) c_85
                      refine lv_aload_n hx hb dX12_go_83 rfl (lv_at hl 2 rfl) ?_
                      refine lv_aload_n hx hb dX12_go_84 rfl (lv_at hl 2 rfl) ?_
                      refine h_geti (ci := 12) (C := RX12) (F := TX12) (N := 86) hx hb hts in12 hown hK hH (by decide) (rfl : kd 36 = 12) (by decide) rfl 78 (by decide) wd2 (fun _ h9 => h9) (by decide) rfl dX12_go_85 ?_
                      have hsm := MU_same (mxE_of (i := j1) (u := j2) ⟨(hfr_j2 36 17 (by omega)), fun a h1 h2 => funext fun b9 => (hfr_j2 a b9 (by omega))⟩ (hfr_j2 36 33 (by omega)) (hfr_j2 36 67 (by omega)) (hfr_j2 36 77 (by omega)) (funext fun b9 => (hfr_j2 400 b9 (by omega))) (funext fun b9 => (hfr_j2 420 b9 (by omega))) (funext fun b9 => (hfr_j2 416 b9 (by omega))) (funext fun b9 => (hfr_j2 417 b9 (by omega)))) (hfr_j2 36 79 (by omega)) (funext fun b9 => (hfr_j2 427 b9 (by omega))) (funext fun b9 => (hfr_j2 428 b9 (by omega))) (funext fun b9 => (hfr_j2 429 b9 (by omega))) hMU1
                      have hMU2 := hsm.1
                      have hre2 := hsm.2
                      have hp_87 : (j2 36 77).toInt = ((i 36 77) : Int32).toInt := congrArg Int32.toInt (((hfr_j2 36 77 (by omega)).trans ((hfr_j1 36 77 (by omega)).trans (up2_k _ _ (by decide)))))
                      have hp_88 : (j2 36 79).toInt = ((j1 36 79) : Int32).toInt := congrArg Int32.toInt ((hfr_j2 36 79 (by omega)))
                      have hmv1 : mvH j1 ((j2 36 78)).toInt.toNat := tnI_m hO_j1 hMU1 hre1 hi_lp_36_1 rfl (hO_j1 36 78).1 htw hi_lp_36_0 (by omega)
                      have hmv : mvH j2 ((j2 36 78)).toInt.toNat := by unfold mvH; rw [show j2 427 = j1 427 from funext fun b9 => (hfr_j2 427 b9 (by omega)), show j2 36 79 = j1 36 79 from (hfr_j2 36 79 (by omega)), show j2 36 33 = j1 36 33 from (hfr_j2 36 33 (by omega))]; exact hmv1
                      have hp_89 : (j2 36 81).toInt = ((j1 36 81) : Int32).toInt := congrArg Int32.toInt ((hfr_j2 36 81 (by omega)))
                      refine x_callv (va_runV (As := [.int (j2 36 78)]) (rest := []) ⟨hx, hb, hml, hown, hts⟩ (m_move l D g ka ad j2 r Lv_16 d1 (j2 36 78) hO_j2 hR H.size (by first | omega | decide) (by first | omega | decide) hmv (NR_fr hnr (funext fun b9 => ((hfr_j2 399 b9 (by omega)).trans ((hfr_j1 399 b9 (by omega)).trans (up2_o _ _ (by omega))))) (funext fun b9 => ((hfr_j2 398 b9 (by omega)).trans ((hfr_j1 398 b9 (by omega)).trans (up2_o _ _ (by omega)))))) (DI_fr hdi ((hfr_j2 36 41 (by omega)).trans ((hfr_j1 36 41 (by omega)).trans (up2_o _ _ (by omega)))) (funext fun b9 => ((hfr_j2 403 b9 (by omega)).trans ((hfr_j1 403 b9 (by omega)).trans (up2_o _ _ (by omega))))) (funext fun b9 => ((hfr_j2 404 b9 (by omega)).trans ((hfr_j1 404 b9 (by omega)).trans (up2_o _ _ (by omega)))))) (hMU2.2.2.2 ((j2 36 78)).toInt.toNat (by omega)) (by omega)) (cwV 1 hts gX12_go_X12_move rfl rfl rfl (by decide +kernel) ⟨(Nat.le_of_ble_eq_true rfl), (Nat.le_of_ble_eq_true rfl)⟩) (x_preV (q := (RX12, TX12, 86)) hH hK (q_obj (by decide) (rfl : kd 36 = 12) (by decide)) rfl gxb (gxw hE hS (x_F hH hS hA))) rfl rfl hl.1 rfl (lv_room (Nat.le_of_ble_eq_true rfl)) dX12_go_88 ⟨(Nat.le_of_ble_eq_true rfl), (Nat.le_of_ble_eq_true rfl)⟩) hH hS hA rfl rfl (fun u_95 H locs hw_91 hH hS => ?_)
                      obtain ⟨im_92, Lm_93, dm_94⟩ := u_95
                      try dsimp only at hw_91
                      have hH : sj_H D A (hwc g ka im_92 r Lm_93 dm_94) H := hH
                      obtain ⟨hO_97, hfr_96, hfd_98, hx2_99, hx2_100, hx2_101, hx2_102, hx2_103, hx2_104, hx2_105⟩ := hw_91
                      obtain ⟨hMU3, hre3⟩ := mgo_step (x := ((j2 36 78)).toInt.toNat) hO_j2 hMU2 (by omega) (by omega) hmv (mxE_of (i := j2) (u := im_92) ⟨(hfr_96 36 17 (by omega)), fun a h1 h2 => funext fun b9 => (hfr_96 a b9 (by omega))⟩ (hfr_96 36 33 (by omega)) (hfr_96 36 67 (by omega)) (hfr_96 36 77 (by omega)) (funext fun b9 => (hfr_96 400 b9 (by omega))) (funext fun b9 => (hfr_96 420 b9 (by omega))) (funext fun b9 => (hfr_96 416 b9 (by omega))) (funext fun b9 => (hfr_96 417 b9 (by omega)))) hx2_99 hx2_100 hx2_101 hx2_102 hx2_103 hx2_105
                      have htold := hx2_104
                      refine lv_aload_n hx hb dX12_go_91 rfl (lv_at hl 2 rfl) ?_
                      refine lv_aload_n hx hb dX12_go_92 rfl (lv_at hl 2 rfl) ?_
                      refine h_geti (ci := 12) (C := RX12) (F := TX12) (N := 86) hx hb hts in12 hown hK hH (by decide) (rfl : kd 36 = 12) (by decide) rfl 78 (by decide) wd2 (fun _ h9 => h9) (by decide) rfl dX12_go_93 ?_
                      refine sj_i (y := (j2 36 78)) (hfr_96 36 78 (by omega)) ?_
                      refine lv_iconst (v := 1) hx hb dX12_go_96 (by decide) ?_
                      refine lv_iadd hx hb dX12_go_97 ?_
                      obtain ⟨z_106, ez_106, hz_106⟩ := s_add (rfl : (j2 36 78).toInt = _) (show (1 : Int32).toInt = 1 from rfl) (by omega) (by omega)
                      refine sj_i ez_106 ?_
                      refine lv_aload_n hx hb dX12_go_98 rfl (lv_at hl 2 rfl) ?_
                      have bx_107 : (0 : Int) ≤ (i 36 77).toInt ∧ (i 36 77).toInt ≤ 3 := hO 36 77
                      refine h_geti (ci := 12) (C := RX12) (F := TX12) (N := 86) hx hb hts in12 hown hK hH (by decide) (rfl : kd 36 = 12) (by decide) rfl 77 (by decide) wd3 (fun _ h9 => h9) (by decide) rfl dX12_go_99 ?_
                      refine sj_i (y := (i 36 77)) ((hfr_96 36 77 (by omega)).trans ((hfr_j2 36 77 (by omega)).trans ((hfr_j1 36 77 (by omega)).trans (up2_k _ _ (by decide))))) ?_
                      have hmrz_108 := modr (a := z_106.toInt) (w := (i 36 77).toInt) (by omega)
                      refine lv_irem hx hb dX12_go_102 (p_ne (rfl : (i 36 77).toInt = _) (show (0 : Int32).toInt = 0 from rfl) (by omega)) ?_
                      obtain ⟨z_108, ez_108, hz_108⟩ := s_rem2 (rfl : z_106.toInt = _) (rfl : (i 36 77).toInt = _) (by omega) (by omega)
                      refine sj_i ez_108 ?_
                      have hO_109 := okp hO_97 (n := 36) (k := 78) (v := z_108) (show (0 : Int) ≤ (z_108 : Int32).toInt ∧ (z_108 : Int32).toInt ≤ 2 from ⟨by omega, by omega⟩)
                      refine h_puti (ty := .int) (ci := 12) (C := RX12) (F := TX12) (N := 86) hx hb hts in12 tyX12 tyX12_ok nmX12 hown hK hH hS (by decide) (rfl : kd 36 = 12) (by decide) rfl 78 (by decide) wd2 (fun _ h9 => h9) rfl (by decide +kernel) rfl rfl (by decide) rfl dX12_go_103 (fun H locs hH hS => ?_)
                      obtain ⟨z_110, ez_110, hz_110⟩ := s_add (rfl : t.toInt = _) (show (1 : Int32).toInt = 1 from rfl) (by omega) (by omega)
                      refine lv_iinc (v := z_110) (lv' := [(2, .int z_110), (3, .int f), (0, .ref (g 36)), (1, .int x)]) hx hb dX12_go_106 hl (k := 1) rfl ez_110 (by decide) rfl (fun ls hl => ?_)
                      refine lv_aload_n hx hb dX12_go_109 rfl (lv_at hl 2 rfl) ?_
                      have hp_111 : ((up2 im_92 36 78 z_108) 36 81).toInt = ((im_92 36 81) : Int32).toInt := congrArg Int32.toInt ((up2_k _ _ (by decide)))
                      have hp_112 : ((up2 im_92 36 78 z_108) 36 76).toInt = ((j1 36 76) : Int32).toInt := congrArg Int32.toInt (((up2_k _ _ (by decide)).trans ((hfr_96 36 76 (by omega)).trans (hfr_j2 36 76 (by omega)))))
                      refine x_callv (va_runV (As := []) (rest := []) ⟨hx, hb, hml, hown, hts⟩ (mv_settle2 l D g ka ad (up2 im_92 36 78 z_108) r Lm_93 dm_94  hO_109 hR H.size (by first | omega | decide) (by omega)) (cwV 0 hts gX12_go_X12_settle rfl rfl rfl (by decide +kernel) ⟨(Nat.le_of_ble_eq_true rfl), (Nat.le_of_ble_eq_true rfl)⟩) (x_preV (q := (RX12, TX12, 86)) hH hK (q_obj (by decide) (rfl : kd 36 = 12) (by decide)) rfl gxb (gxw hE hS (x_F hH hS hA))) rfl rfl hl.1 rfl (lv_room (Nat.le_of_ble_eq_true rfl)) dX12_go_110 ⟨(Nat.le_of_ble_eq_true rfl), (Nat.le_of_ble_eq_true rfl)⟩) hH hS hA rfl rfl (fun im_115 H locs hw_114 hH hS => ?_)
                      have hH : sj_H D A (hwc g ka im_115 r Lm_93 dm_94) H := hH
                      obtain ⟨hO_117, hfr_116, hx2_118, hx2_119, hx2_120⟩ := hw_114
                      have hts9 := hx2_119
                      have hsm6 := MU_same (mxE_of (i := im_92) (u := (up2 im_92 36 78 z_108)) ⟨(up2_o _ _ (by omega)), fun a h1 h2 => funext fun b9 => (up2_o _ _ (by omega))⟩ (up2_o _ _ (by omega)) (up2_o _ _ (by omega)) (up2_o _ _ (by omega)) (funext fun b9 => (up2_o _ _ (by omega))) (funext fun b9 => (up2_o _ _ (by omega))) (funext fun b9 => (up2_o _ _ (by omega))) (funext fun b9 => (up2_o _ _ (by omega)))) (up2_o _ _ (by omega)) (funext fun b9 => (up2_o _ _ (by omega))) (funext fun b9 => (up2_o _ _ (by omega))) (funext fun b9 => (up2_o _ _ (by omega))) hMU3
                      have hp_121 : (im_115 36 76).toInt = ((im_115 36 76) : Int32).toInt := rfl
                      have hp_122 : (im_115 36 77).toInt = ((i 36 77) : Int32).toInt := congrArg Int32.toInt (((hfr_116 36 77 (by omega)).trans ((up2_k _ _ (by decide)).trans ((hfr_96 36 77 (by omega)).trans ((hfr_j2 36 77 (by omega)).trans ((hfr_j1 36 77 (by omega)).trans (up2_k _ _ (by decide))))))))
                      have hp_123 : (im_115 36 78).toInt = (z_108 : Int32).toInt := congrArg Int32.toInt (((hfr_116 36 78 (by omega)).trans (up2_at _ _ _ _)))
                      have hq76 : ((up2 im_92 36 78 z_108) 36 76).toInt = ((j1 36 76) : Int32).toInt := congrArg Int32.toInt (((up2_k _ _ (by decide)).trans ((hfr_96 36 76 (by omega)).trans (hfr_j2 36 76 (by omega)))))
                      have hq77 : ((up2 im_92 36 78 z_108) 36 77).toInt = ((i 36 77) : Int32).toInt := congrArg Int32.toInt (((up2_k _ _ (by decide)).trans ((hfr_96 36 77 (by omega)).trans ((hfr_j2 36 77 (by omega)).trans ((hfr_j1 36 77 (by omega)).trans (up2_k _ _ (by decide)))))))
                      obtain ⟨hMI7, hre7, hk7, hp7⟩ := MI_set (i := (up2 im_92 36 78 z_108)) hO_109 rfl (mxE_of (i := (up2 im_92 36 78 z_108)) (u := im_115) ⟨(hfr_116 36 17 (by omega)), fun a h1 h2 => funext fun b9 => (hfr_116 a b9 (by omega))⟩ (hfr_116 36 33 (by omega)) (hfr_116 36 67 (by omega)) (hfr_116 36 77 (by omega)) (funext fun b9 => (hfr_116 400 b9 (by omega))) (funext fun b9 => (hfr_116 420 b9 (by omega))) (funext fun b9 => (hfr_116 416 b9 (by omega))) (funext fun b9 => (hfr_116 417 b9 (by omega)))) (hfr_116 36 79 (by omega)) (funext fun b9 => (hfr_116 427 b9 (by omega))) (funext fun b9 => (hfr_116 428 b9 (by omega))) (funext fun b9 => (hfr_116 429 b9 (by omega))) hsm6.1 (by omega) (by omega) hx2_118
                      have hre9 : mrest im_115 + 1 = mrest j1 := by have := hsm6.2; omega
                      have hGI := go_inv hi_lp_15_3 (by omega) hre9 hk7 (fun q => by omega) (fun q => by omega)
                      have hmx7 : mxE i im_115 := (mxE_of (i := i) (u := im_115) ⟨((hfr_116 36 17 (by omega)).trans ((up2_o _ _ (by omega)).trans ((hfr_96 36 17 (by omega)).trans ((hfr_j2 36 17 (by omega)).trans ((hfr_j1 36 17 (by omega)).trans (up2_o _ _ (by omega))))))), fun a h1 h2 => funext fun b9 => ((hfr_116 a b9 (by omega)).trans ((up2_o _ _ (by omega)).trans ((hfr_96 a b9 (by omega)).trans ((hfr_j2 a b9 (by omega)).trans ((hfr_j1 a b9 (by omega)).trans (up2_o _ _ (by omega)))))))⟩ ((hfr_116 36 33 (by omega)).trans ((up2_o _ _ (by omega)).trans ((hfr_96 36 33 (by omega)).trans ((hfr_j2 36 33 (by omega)).trans ((hfr_j1 36 33 (by omega)).trans (up2_o _ _ (by omega))))))) ((hfr_116 36 67 (by omega)).trans ((up2_o _ _ (by omega)).trans ((hfr_96 36 67 (by omega)).trans ((hfr_j2 36 67 (by omega)).trans ((hfr_j1 36 67 (by omega)).trans (up2_o _ _ (by omega))))))) ((hfr_116 36 77 (by omega)).trans ((up2_o _ _ (by omega)).trans ((hfr_96 36 77 (by omega)).trans ((hfr_j2 36 77 (by omega)).trans ((hfr_j1 36 77 (by omega)).trans (up2_o _ _ (by omega))))))) (funext fun b9 => ((hfr_116 400 b9 (by omega)).trans ((up2_o _ _ (by omega)).trans ((hfr_96 400 b9 (by omega)).trans ((hfr_j2 400 b9 (by omega)).trans ((hfr_j1 400 b9 (by omega)).trans (up2_o _ _ (by omega)))))))) (funext fun b9 => ((hfr_116 420 b9 (by omega)).trans ((up2_o _ _ (by omega)).trans ((hfr_96 420 b9 (by omega)).trans ((hfr_j2 420 b9 (by omega)).trans ((hfr_j1 420 b9 (by omega)).trans (up2_o _ _ (by omega)))))))) (funext fun b9 => ((hfr_116 416 b9 (by omega)).trans ((up2_o _ _ (by omega)).trans ((hfr_96 416 b9 (by omega)).trans ((hfr_j2 416 b9 (by omega)).trans ((hfr_j1 416 b9 (by omega)).trans (up2_o _ _ (by omega)))))))) (funext fun b9 => ((hfr_116 417 b9 (by omega)).trans ((up2_o _ _ (by omega)).trans ((hfr_96 417 b9 (by omega)).trans ((hfr_j2 417 b9 (by omega)).trans ((hfr_j1 417 b9 (by omega)).trans (up2_o _ _ (by omega)))))))))
                      refine lv_goto (tgt := 20) hx hb dX12_go_113 (by decide) ?_
                      have hp_124 : (im_115 36 81).toInt = ((im_115 36 81) : Int32).toInt := rfl
                      have hp_125 : (im_115 36 81).toInt = ((im_115 36 81) : Int32).toInt := rfl
                      have hp_126 : (im_115 36 81).toInt = ((im_115 36 81) : Int32).toInt := rfl
                      have hp_127 : (im_115 36 76).toInt = ((im_115 36 76) : Int32).toInt := rfl
                      exact ih_lp_15 z_110 _ _ _ _ _ ls (by omega) (by omega) (by omega) hMI7 hmx7 (by rw [hz_110]; exact hGI) (by omega) (fun a ha => ((hfd_98 a (by omega)).trans (hfd_d1 a (by omega)))) hO_117 (fun a b ha => ((hfr_116 a b (by omega)).trans ((up2_o _ _ (by omega)).trans ((hfr_96 a b (by omega)).trans ((hfr_j2 a b (by omega)).trans (hfr_j1 a b (by omega))))))) (lv_sub hl [0, 2, 3] rfl) hH hS
                    · skip
                      have h_128 := s_nle (show (0 : Int32).toInt = 0 from rfl) (rfl : (j1 427 ((j2 36 78).toInt).toNat).toInt = _) c_85
                      refine lv_aload_n hx hb dX12_go_51 rfl (lv_at hl 2 rfl) ?_
                      have bx_129 : (0 : Int) ≤ (j1 36 79).toInt ∧ (j1 36 79).toInt ≤ 24 := hO_j1 36 79
                      refine h_geti (ci := 12) (C := RX12) (F := TX12) (N := 86) hx hb hts in12 hown hK hH (by decide) (rfl : kd 36 = 12) (by decide) rfl 79 (by decide) wd5 (fun _ h9 => h9) (by decide) rfl dX12_go_52 ?_
                      refine sj_i (y := (j1 36 79)) (hfr_j2 36 79 (by omega)) ?_
                      refine lv_aload_n hx hb dX12_go_55 rfl (lv_at hl 2 rfl) ?_
                      have bx_130 : (0 : Int) ≤ (i 36 33).toInt ∧ (i 36 33).toInt ≤ 24 := hO 36 33
                      refine h_geti (ci := 12) (C := RX12) (F := TX12) (N := 86) hx hb hts in12 hown hK hH (by decide) (rfl : kd 36 = 12) (by decide) rfl 33 (by decide) wd6 (fun _ h9 => h9) (by decide) rfl dX12_go_56 ?_
                      refine sj_i (y := (i 36 33)) ((hfr_j2 36 33 (by omega)).trans ((hfr_j1 36 33 (by omega)).trans (up2_k _ _ (by decide)))) ?_
                      refine lv_icmp_ne (tgt := 83) hx hb dX12_go_59 (by decide) (fun c_131 => ?_) (fun c_131 => ?_)
                      · skip
                        have h_132 := s_ne (rfl : (j1 36 79).toInt = _) (rfl : (i 36 33).toInt = _) c_131
                        refine lv_aload_n hx hb dX12_go_83 rfl (lv_at hl 2 rfl) ?_
                        refine lv_aload_n hx hb dX12_go_84 rfl (lv_at hl 2 rfl) ?_
                        refine h_geti (ci := 12) (C := RX12) (F := TX12) (N := 86) hx hb hts in12 hown hK hH (by decide) (rfl : kd 36 = 12) (by decide) rfl 78 (by decide) wd2 (fun _ h9 => h9) (by decide) rfl dX12_go_85 ?_
                        have hsm := MU_same (mxE_of (i := j1) (u := j2) ⟨(hfr_j2 36 17 (by omega)), fun a h1 h2 => funext fun b9 => (hfr_j2 a b9 (by omega))⟩ (hfr_j2 36 33 (by omega)) (hfr_j2 36 67 (by omega)) (hfr_j2 36 77 (by omega)) (funext fun b9 => (hfr_j2 400 b9 (by omega))) (funext fun b9 => (hfr_j2 420 b9 (by omega))) (funext fun b9 => (hfr_j2 416 b9 (by omega))) (funext fun b9 => (hfr_j2 417 b9 (by omega)))) (hfr_j2 36 79 (by omega)) (funext fun b9 => (hfr_j2 427 b9 (by omega))) (funext fun b9 => (hfr_j2 428 b9 (by omega))) (funext fun b9 => (hfr_j2 429 b9 (by omega))) hMU1
                        have hMU2 := hsm.1
                        have hre2 := hsm.2
                        have hp_133 : (j2 36 77).toInt = ((i 36 77) : Int32).toInt := congrArg Int32.toInt (((hfr_j2 36 77 (by omega)).trans ((hfr_j1 36 77 (by omega)).trans (up2_k _ _ (by decide)))))
                        have hp_134 : (j2 36 79).toInt = ((j1 36 79) : Int32).toInt := congrArg Int32.toInt ((hfr_j2 36 79 (by omega)))
                        have hmv1 : mvH j1 ((j2 36 78)).toInt.toNat := tnI_m hO_j1 hMU1 hre1 hi_lp_36_1 rfl (hO_j1 36 78).1 htw hi_lp_36_0 (by omega)
                        have hmv : mvH j2 ((j2 36 78)).toInt.toNat := by unfold mvH; rw [show j2 427 = j1 427 from funext fun b9 => (hfr_j2 427 b9 (by omega)), show j2 36 79 = j1 36 79 from (hfr_j2 36 79 (by omega)), show j2 36 33 = j1 36 33 from (hfr_j2 36 33 (by omega))]; exact hmv1
                        have hp_135 : (j2 36 81).toInt = ((j1 36 81) : Int32).toInt := congrArg Int32.toInt ((hfr_j2 36 81 (by omega)))
                        refine x_callv (va_runV (As := [.int (j2 36 78)]) (rest := []) ⟨hx, hb, hml, hown, hts⟩ (m_move l D g ka ad j2 r Lv_16 d1 (j2 36 78) hO_j2 hR H.size (by first | omega | decide) (by first | omega | decide) hmv (NR_fr hnr (funext fun b9 => ((hfr_j2 399 b9 (by omega)).trans ((hfr_j1 399 b9 (by omega)).trans (up2_o _ _ (by omega))))) (funext fun b9 => ((hfr_j2 398 b9 (by omega)).trans ((hfr_j1 398 b9 (by omega)).trans (up2_o _ _ (by omega)))))) (DI_fr hdi ((hfr_j2 36 41 (by omega)).trans ((hfr_j1 36 41 (by omega)).trans (up2_o _ _ (by omega)))) (funext fun b9 => ((hfr_j2 403 b9 (by omega)).trans ((hfr_j1 403 b9 (by omega)).trans (up2_o _ _ (by omega))))) (funext fun b9 => ((hfr_j2 404 b9 (by omega)).trans ((hfr_j1 404 b9 (by omega)).trans (up2_o _ _ (by omega)))))) (hMU2.2.2.2 ((j2 36 78)).toInt.toNat (by omega)) (by omega)) (cwV 1 hts gX12_go_X12_move rfl rfl rfl (by decide +kernel) ⟨(Nat.le_of_ble_eq_true rfl), (Nat.le_of_ble_eq_true rfl)⟩) (x_preV (q := (RX12, TX12, 86)) hH hK (q_obj (by decide) (rfl : kd 36 = 12) (by decide)) rfl gxb (gxw hE hS (x_F hH hS hA))) rfl rfl hl.1 rfl (lv_room (Nat.le_of_ble_eq_true rfl)) dX12_go_88 ⟨(Nat.le_of_ble_eq_true rfl), (Nat.le_of_ble_eq_true rfl)⟩) hH hS hA rfl rfl (fun u_141 H locs hw_137 hH hS => ?_)
                        obtain ⟨im_138, Lm_139, dm_140⟩ := u_141
                        try dsimp only at hw_137
                        have hH : sj_H D A (hwc g ka im_138 r Lm_139 dm_140) H := hH
                        obtain ⟨hO_143, hfr_142, hfd_144, hx2_145, hx2_146, hx2_147, hx2_148, hx2_149, hx2_150, hx2_151⟩ := hw_137
                        obtain ⟨hMU3, hre3⟩ := mgo_step (x := ((j2 36 78)).toInt.toNat) hO_j2 hMU2 (by omega) (by omega) hmv (mxE_of (i := j2) (u := im_138) ⟨(hfr_142 36 17 (by omega)), fun a h1 h2 => funext fun b9 => (hfr_142 a b9 (by omega))⟩ (hfr_142 36 33 (by omega)) (hfr_142 36 67 (by omega)) (hfr_142 36 77 (by omega)) (funext fun b9 => (hfr_142 400 b9 (by omega))) (funext fun b9 => (hfr_142 420 b9 (by omega))) (funext fun b9 => (hfr_142 416 b9 (by omega))) (funext fun b9 => (hfr_142 417 b9 (by omega)))) hx2_145 hx2_146 hx2_147 hx2_148 hx2_149 hx2_151
                        have htold := hx2_150
                        refine lv_aload_n hx hb dX12_go_91 rfl (lv_at hl 2 rfl) ?_
                        refine lv_aload_n hx hb dX12_go_92 rfl (lv_at hl 2 rfl) ?_
                        refine h_geti (ci := 12) (C := RX12) (F := TX12) (N := 86) hx hb hts in12 hown hK hH (by decide) (rfl : kd 36 = 12) (by decide) rfl 78 (by decide) wd2 (fun _ h9 => h9) (by decide) rfl dX12_go_93 ?_
                        refine sj_i (y := (j2 36 78)) (hfr_142 36 78 (by omega)) ?_
                        refine lv_iconst (v := 1) hx hb dX12_go_96 (by decide) ?_
                        refine lv_iadd hx hb dX12_go_97 ?_
                        obtain ⟨z_152, ez_152, hz_152⟩ := s_add (rfl : (j2 36 78).toInt = _) (show (1 : Int32).toInt = 1 from rfl) (by omega) (by omega)
                        refine sj_i ez_152 ?_
                        refine lv_aload_n hx hb dX12_go_98 rfl (lv_at hl 2 rfl) ?_
                        have bx_153 : (0 : Int) ≤ (i 36 77).toInt ∧ (i 36 77).toInt ≤ 3 := hO 36 77
                        refine h_geti (ci := 12) (C := RX12) (F := TX12) (N := 86) hx hb hts in12 hown hK hH (by decide) (rfl : kd 36 = 12) (by decide) rfl 77 (by decide) wd3 (fun _ h9 => h9) (by decide) rfl dX12_go_99 ?_
                        refine sj_i (y := (i 36 77)) ((hfr_142 36 77 (by omega)).trans ((hfr_j2 36 77 (by omega)).trans ((hfr_j1 36 77 (by omega)).trans (up2_k _ _ (by decide))))) ?_
                        have hmrz_154 := modr (a := z_152.toInt) (w := (i 36 77).toInt) (by omega)
                        refine lv_irem hx hb dX12_go_102 (p_ne (rfl : (i 36 77).toInt = _) (show (0 : Int32).toInt = 0 from rfl) (by omega)) ?_
                        obtain ⟨z_154, ez_154, hz_154⟩ := s_rem2 (rfl : z_152.toInt = _) (rfl : (i 36 77).toInt = _) (by omega) (by omega)
                        refine sj_i ez_154 ?_
                        have hO_155 := okp hO_143 (n := 36) (k := 78) (v := z_154) (show (0 : Int) ≤ (z_154 : Int32).toInt ∧ (z_154 : Int32).toInt ≤ 2 from ⟨by omega, by omega⟩)
                        refine h_puti (ty := .int) (ci := 12) (C := RX12) (F := TX12) (N := 86) hx hb hts in12 tyX12 tyX12_ok nmX12 hown hK hH hS (by decide) (rfl : kd 36 = 12) (by decide) rfl 78 (by decide) wd2 (fun _ h9 => h9) rfl (by decide +kernel) rfl rfl (by decide) rfl dX12_go_103 (fun H locs hH hS => ?_)
                        obtain ⟨z_156, ez_156, hz_156⟩ := s_add (rfl : t.toInt = _) (show (1 : Int32).toInt = 1 from rfl) (by omega) (by omega)
                        refine lv_iinc (v := z_156) (lv' := [(2, .int z_156), (3, .int f), (0, .ref (g 36)), (1, .int x)]) hx hb dX12_go_106 hl (k := 1) rfl ez_156 (by decide) rfl (fun ls hl => ?_)
                        refine lv_aload_n hx hb dX12_go_109 rfl (lv_at hl 2 rfl) ?_
                        have hp_157 : ((up2 im_138 36 78 z_154) 36 81).toInt = ((im_138 36 81) : Int32).toInt := congrArg Int32.toInt ((up2_k _ _ (by decide)))
                        have hp_158 : ((up2 im_138 36 78 z_154) 36 76).toInt = ((j1 36 76) : Int32).toInt := congrArg Int32.toInt (((up2_k _ _ (by decide)).trans ((hfr_142 36 76 (by omega)).trans (hfr_j2 36 76 (by omega)))))
                        refine x_callv (va_runV (As := []) (rest := []) ⟨hx, hb, hml, hown, hts⟩ (mv_settle2 l D g ka ad (up2 im_138 36 78 z_154) r Lm_139 dm_140  hO_155 hR H.size (by first | omega | decide) (by omega)) (cwV 0 hts gX12_go_X12_settle rfl rfl rfl (by decide +kernel) ⟨(Nat.le_of_ble_eq_true rfl), (Nat.le_of_ble_eq_true rfl)⟩) (x_preV (q := (RX12, TX12, 86)) hH hK (q_obj (by decide) (rfl : kd 36 = 12) (by decide)) rfl gxb (gxw hE hS (x_F hH hS hA))) rfl rfl hl.1 rfl (lv_room (Nat.le_of_ble_eq_true rfl)) dX12_go_110 ⟨(Nat.le_of_ble_eq_true rfl), (Nat.le_of_ble_eq_true rfl)⟩) hH hS hA rfl rfl (fun im_161 H locs hw_160 hH hS => ?_)
                        have hH : sj_H D A (hwc g ka im_161 r Lm_139 dm_140) H := hH
                        obtain ⟨hO_163, hfr_162, hx2_164, hx2_165, hx2_166⟩ := hw_160
                        have hts9 := hx2_165
                        have hsm6 := MU_same (mxE_of (i := im_138) (u := (up2 im_138 36 78 z_154)) ⟨(up2_o _ _ (by omega)), fun a h1 h2 => funext fun b9 => (up2_o _ _ (by omega))⟩ (up2_o _ _ (by omega)) (up2_o _ _ (by omega)) (up2_o _ _ (by omega)) (funext fun b9 => (up2_o _ _ (by omega))) (funext fun b9 => (up2_o _ _ (by omega))) (funext fun b9 => (up2_o _ _ (by omega))) (funext fun b9 => (up2_o _ _ (by omega)))) (up2_o _ _ (by omega)) (funext fun b9 => (up2_o _ _ (by omega))) (funext fun b9 => (up2_o _ _ (by omega))) (funext fun b9 => (up2_o _ _ (by omega))) hMU3
                        have hp_167 : (im_161 36 76).toInt = ((im_161 36 76) : Int32).toInt := rfl
                        have hp_168 : (im_161 36 77).toInt = ((i 36 77) : Int32).toInt := congrArg Int32.toInt (((hfr_162 36 77 (by omega)).trans ((up2_k _ _ (by decide)).trans ((hfr_142 36 77 (by omega)).trans ((hfr_j2 36 77 (by omega)).trans ((hfr_j1 36 77 (by omega)).trans (up2_k _ _ (by decide))))))))
                        have hp_169 : (im_161 36 78).toInt = (z_154 : Int32).toInt := congrArg Int32.toInt (((hfr_162 36 78 (by omega)).trans (up2_at _ _ _ _)))
                        have hq76 : ((up2 im_138 36 78 z_154) 36 76).toInt = ((j1 36 76) : Int32).toInt := congrArg Int32.toInt (((up2_k _ _ (by decide)).trans ((hfr_142 36 76 (by omega)).trans (hfr_j2 36 76 (by omega)))))
                        have hq77 : ((up2 im_138 36 78 z_154) 36 77).toInt = ((i 36 77) : Int32).toInt := congrArg Int32.toInt (((up2_k _ _ (by decide)).trans ((hfr_142 36 77 (by omega)).trans ((hfr_j2 36 77 (by omega)).trans ((hfr_j1 36 77 (by omega)).trans (up2_k _ _ (by decide)))))))
                        obtain ⟨hMI7, hre7, hk7, hp7⟩ := MI_set (i := (up2 im_138 36 78 z_154)) hO_155 rfl (mxE_of (i := (up2 im_138 36 78 z_154)) (u := im_161) ⟨(hfr_162 36 17 (by omega)), fun a h1 h2 => funext fun b9 => (hfr_162 a b9 (by omega))⟩ (hfr_162 36 33 (by omega)) (hfr_162 36 67 (by omega)) (hfr_162 36 77 (by omega)) (funext fun b9 => (hfr_162 400 b9 (by omega))) (funext fun b9 => (hfr_162 420 b9 (by omega))) (funext fun b9 => (hfr_162 416 b9 (by omega))) (funext fun b9 => (hfr_162 417 b9 (by omega)))) (hfr_162 36 79 (by omega)) (funext fun b9 => (hfr_162 427 b9 (by omega))) (funext fun b9 => (hfr_162 428 b9 (by omega))) (funext fun b9 => (hfr_162 429 b9 (by omega))) hsm6.1 (by omega) (by omega) hx2_164
                        have hre9 : mrest im_161 + 1 = mrest j1 := by have := hsm6.2; omega
                        have hGI := go_inv hi_lp_15_3 (by omega) hre9 hk7 (fun q => by omega) (fun q => by omega)
                        have hmx7 : mxE i im_161 := (mxE_of (i := i) (u := im_161) ⟨((hfr_162 36 17 (by omega)).trans ((up2_o _ _ (by omega)).trans ((hfr_142 36 17 (by omega)).trans ((hfr_j2 36 17 (by omega)).trans ((hfr_j1 36 17 (by omega)).trans (up2_o _ _ (by omega))))))), fun a h1 h2 => funext fun b9 => ((hfr_162 a b9 (by omega)).trans ((up2_o _ _ (by omega)).trans ((hfr_142 a b9 (by omega)).trans ((hfr_j2 a b9 (by omega)).trans ((hfr_j1 a b9 (by omega)).trans (up2_o _ _ (by omega)))))))⟩ ((hfr_162 36 33 (by omega)).trans ((up2_o _ _ (by omega)).trans ((hfr_142 36 33 (by omega)).trans ((hfr_j2 36 33 (by omega)).trans ((hfr_j1 36 33 (by omega)).trans (up2_o _ _ (by omega))))))) ((hfr_162 36 67 (by omega)).trans ((up2_o _ _ (by omega)).trans ((hfr_142 36 67 (by omega)).trans ((hfr_j2 36 67 (by omega)).trans ((hfr_j1 36 67 (by omega)).trans (up2_o _ _ (by omega))))))) ((hfr_162 36 77 (by omega)).trans ((up2_o _ _ (by omega)).trans ((hfr_142 36 77 (by omega)).trans ((hfr_j2 36 77 (by omega)).trans ((hfr_j1 36 77 (by omega)).trans (up2_o _ _ (by omega))))))) (funext fun b9 => ((hfr_162 400 b9 (by omega)).trans ((up2_o _ _ (by omega)).trans ((hfr_142 400 b9 (by omega)).trans ((hfr_j2 400 b9 (by omega)).trans ((hfr_j1 400 b9 (by omega)).trans (up2_o _ _ (by omega)))))))) (funext fun b9 => ((hfr_162 420 b9 (by omega)).trans ((up2_o _ _ (by omega)).trans ((hfr_142 420 b9 (by omega)).trans ((hfr_j2 420 b9 (by omega)).trans ((hfr_j1 420 b9 (by omega)).trans (up2_o _ _ (by omega)))))))) (funext fun b9 => ((hfr_162 416 b9 (by omega)).trans ((up2_o _ _ (by omega)).trans ((hfr_142 416 b9 (by omega)).trans ((hfr_j2 416 b9 (by omega)).trans ((hfr_j1 416 b9 (by omega)).trans (up2_o _ _ (by omega)))))))) (funext fun b9 => ((hfr_162 417 b9 (by omega)).trans ((up2_o _ _ (by omega)).trans ((hfr_142 417 b9 (by omega)).trans ((hfr_j2 417 b9 (by omega)).trans ((hfr_j1 417 b9 (by omega)).trans (up2_o _ _ (by omega)))))))))
                        refine lv_goto (tgt := 20) hx hb dX12_go_113 (by decide) ?_
                        have hp_170 : (im_161 36 81).toInt = ((im_161 36 81) : Int32).toInt := rfl
                        have hp_171 : (im_161 36 81).toInt = ((im_161 36 81) : Int32).toInt := rfl
                        have hp_172 : (im_161 36 81).toInt = ((im_161 36 81) : Int32).toInt := rfl
                        have hp_173 : (im_161 36 76).toInt = ((im_161 36 76) : Int32).toInt := rfl
                        exact ih_lp_15 z_156 _ _ _ _ _ ls (by omega) (by omega) (by omega) hMI7 hmx7 (by rw [hz_156]; exact hGI) (by omega) (fun a ha => ((hfd_144 a (by omega)).trans (hfd_d1 a (by omega)))) hO_163 (fun a b ha => ((hfr_162 a b (by omega)).trans ((up2_o _ _ (by omega)).trans ((hfr_142 a b (by omega)).trans ((hfr_j2 a b (by omega)).trans (hfr_j1 a b (by omega))))))) (lv_sub hl [0, 2, 3] rfl) hH hS
                      · skip
                        have h_174 := s_eq (rfl : (j1 36 79).toInt = _) (rfl : (i 36 33).toInt = _) c_131
                        refine lv_aload_n hx hb dX12_go_62 rfl (lv_at hl 2 rfl) ?_
                        refine lv_aload_n hx hb dX12_go_63 rfl (lv_at hl 2 rfl) ?_
                        refine h_geti (ci := 12) (C := RX12) (F := TX12) (N := 86) hx hb hts in12 hown hK hH (by decide) (rfl : kd 36 = 12) (by decide) rfl 78 (by decide) wd2 (fun _ h9 => h9) (by decide) rfl dX12_go_64 ?_
                        refine lv_iconst (v := 1) hx hb dX12_go_67 (by decide) ?_
                        refine lv_iadd hx hb dX12_go_68 ?_
                        obtain ⟨z_175, ez_175, hz_175⟩ := s_add (rfl : (j2 36 78).toInt = _) (show (1 : Int32).toInt = 1 from rfl) (by omega) (by omega)
                        refine sj_i ez_175 ?_
                        refine lv_aload_n hx hb dX12_go_69 rfl (lv_at hl 2 rfl) ?_
                        have bx_176 : (0 : Int) ≤ (i 36 77).toInt ∧ (i 36 77).toInt ≤ 3 := hO 36 77
                        refine h_geti (ci := 12) (C := RX12) (F := TX12) (N := 86) hx hb hts in12 hown hK hH (by decide) (rfl : kd 36 = 12) (by decide) rfl 77 (by decide) wd3 (fun _ h9 => h9) (by decide) rfl dX12_go_70 ?_
                        refine sj_i (y := (i 36 77)) ((hfr_j2 36 77 (by omega)).trans ((hfr_j1 36 77 (by omega)).trans (up2_k _ _ (by decide)))) ?_
                        have hmrz_177 := modr (a := z_175.toInt) (w := (i 36 77).toInt) (by omega)
                        refine lv_irem hx hb dX12_go_73 (p_ne (rfl : (i 36 77).toInt = _) (show (0 : Int32).toInt = 0 from rfl) (by omega)) ?_
                        obtain ⟨z_177, ez_177, hz_177⟩ := s_rem2 (rfl : z_175.toInt = _) (rfl : (i 36 77).toInt = _) (by omega) (by omega)
                        refine sj_i ez_177 ?_
                        have hO_178 := okp hO_j2 (n := 36) (k := 78) (v := z_177) (show (0 : Int) ≤ (z_177 : Int32).toInt ∧ (z_177 : Int32).toInt ≤ 2 from ⟨by omega, by omega⟩)
                        refine h_puti (ty := .int) (ci := 12) (C := RX12) (F := TX12) (N := 86) hx hb hts in12 tyX12 tyX12_ok nmX12 hown hK hH hS (by decide) (rfl : kd 36 = 12) (by decide) rfl 78 (by decide) wd2 (fun _ h9 => h9) rfl (by decide +kernel) rfl rfl (by decide) rfl dX12_go_74 (fun H locs hH hS => ?_)
                        obtain ⟨z_179, ez_179, hz_179⟩ := s_add (rfl : f.toInt = _) (show (1 : Int32).toInt = 1 from rfl) (by omega) (by omega)
                        refine lv_iinc (v := z_179) (lv' := [(3, .int z_179), (2, .int t), (0, .ref (g 36)), (1, .int x)]) hx hb dX12_go_77 hl (k := 0) rfl ez_179 (by decide) rfl (fun ls hl => ?_)
                        refine lv_goto (tgt := 34) hx hb dX12_go_80 (by decide) ?_
                        have hp_180 : ((up2 j2 36 78 z_177) 36 78).toInt = (z_177 : Int32).toInt := congrArg Int32.toInt ((up2_at _ _ _ _))
                        have hp_181 : ((up2 j2 36 78 z_177) 36 78).toInt = (z_177 : Int32).toInt := congrArg Int32.toInt ((up2_at _ _ _ _))
                        have hp_182 : ((up2 j2 36 78 z_177) 36 78).toInt = (z_177 : Int32).toInt := congrArg Int32.toInt ((up2_at _ _ _ _))
                        exact ih_lp_36 z_179 _ _ _ ls (by omega) (by omega) (by omega) (tnI_s hi_lp_36_1 (by omega) (by omega) (by omega) (by rw [hp_181, hz_177, hz_175, hp_34]) (by omega)) (by omega) hO_178 (fun a b ha => ((up2_o _ _ (by omega)).trans (hfr_j2 a b (by omega)))) (lv_sub hl [0, 1, 2, 3] rfl) hH hS
              have hl_183 : (0 : Int32).toInt = 0 := rfl
              exact lp_36 _ 0 _ _ _ ls (Nat.lt_succ_self _) (by omega) (Or.inl (by decide)) (tnI_0 (hO_j1 36 78).1 htw) ⟨(hO_j1 36 78).1, htw⟩ hO_j1 (fun a b ha => rfl) (lv_sub hl [0, 1, 2, 3] rfl) hH hS
      have hl_184 : (0 : Int32).toInt = 0 := rfl
      have hp_185 : ((up2 i 36 0 0) 36 81).toInt = ((i 36 81) : Int32).toInt := congrArg Int32.toInt ((up2_k _ _ (by decide)))
      have hp_186 : ((up2 i 36 0 0) 36 81).toInt = ((i 36 81) : Int32).toInt := congrArg Int32.toInt ((up2_k _ _ (by decide)))
      have hMI0 := MI_same (u := (up2 i 36 0 0)) (mxE_of (i := i) (u := (up2 i 36 0 0)) ⟨(up2_o _ _ (by omega)), fun a h1 h2 => funext fun b9 => (up2_o _ _ (by omega))⟩ (up2_o _ _ (by omega)) (up2_o _ _ (by omega)) (up2_o _ _ (by omega)) (funext fun b9 => (up2_o _ _ (by omega))) (funext fun b9 => (up2_o _ _ (by omega))) (funext fun b9 => (up2_o _ _ (by omega))) (funext fun b9 => (up2_o _ _ (by omega)))) (up2_o _ _ (by omega)) (up2_o _ _ (by omega)) (up2_o _ _ (by omega)) (funext fun b9 => (up2_o _ _ (by omega))) (funext fun b9 => (up2_o _ _ (by omega))) (funext fun b9 => (up2_o _ _ (by omega))) hMI
      have hp_187 : ((up2 i 36 0 0) 36 81).toInt = ((i 36 81) : Int32).toInt := congrArg Int32.toInt ((up2_k _ _ (by decide)))
      have hp_188 : ((up2 i 36 0 0) 36 76).toInt = ((i 36 76) : Int32).toInt := congrArg Int32.toInt ((up2_k _ _ (by decide)))
      exact lp_15 _ 0 _ _ _ _ _ ls (Nat.lt_succ_self _) (by omega) (by omega) hMI0.1 (mxE_of (i := i) (u := (up2 i 36 0 0)) ⟨(up2_o _ _ (by omega)), fun a h1 h2 => funext fun b9 => (up2_o _ _ (by omega))⟩ (up2_o _ _ (by omega)) (up2_o _ _ (by omega)) (up2_o _ _ (by omega)) (funext fun b9 => (up2_o _ _ (by omega))) (funext fun b9 => (up2_o _ _ (by omega))) (funext fun b9 => (up2_o _ _ (by omega))) (funext fun b9 => (up2_o _ _ (by omega)))) (mgo_in (congrArg Int32.toInt ((up2_o _ _ (by omega)))) hMI0.2 hMI) (by omega) (fun a ha => rfl) hO_2 (fun a b ha => rfl) (lv_sub hl [0, 1, 2] rfl) hH hS
    · skip
      have h_189 := s_nle (rfl : x.toInt = _) (show (40 : Int32).toInt = 40 from rfl) c_13
      refine lv_iconst (v := (-1)) hx hb dX12_go_16 (by decide) ?_
      have hMI0 := MI_same (u := (up2 i 36 0 0)) (mxE_of (i := i) (u := (up2 i 36 0 0)) ⟨(up2_o _ _ (by omega)), fun a h1 h2 => funext fun b9 => (up2_o _ _ (by omega))⟩ (up2_o _ _ (by omega)) (up2_o _ _ (by omega)) (up2_o _ _ (by omega)) (funext fun b9 => (up2_o _ _ (by omega))) (funext fun b9 => (up2_o _ _ (by omega))) (funext fun b9 => (up2_o _ _ (by omega))) (funext fun b9 => (up2_o _ _ (by omega)))) (up2_o _ _ (by omega)) (up2_o _ _ (by omega)) (up2_o _ _ (by omega)) (funext fun b9 => (up2_o _ _ (by omega))) (funext fun b9 => (up2_o _ _ (by omega))) (funext fun b9 => (up2_o _ _ (by omega))) hMI
      have hp_190 : ((up2 i 36 0 0) 36 76).toInt = ((i 36 76) : Int32).toInt := congrArg Int32.toInt ((up2_k _ _ (by decide)))
      have hp_191 : ((up2 i 36 0 0) 36 81).toInt = ((i 36 81) : Int32).toInt := congrArg Int32.toInt ((up2_k _ _ (by decide)))
      have hm0r := hMI0.2
      have hlm1 : (-1 : Int32).toInt = -1 := rfl
      have hV_192 : (((x.toInt < 1 ∨ 40 < x.toInt) ∧ ((-1) : Int32).toInt = -1 ∧ ((up2 i 36 0 0) 36 76).toInt = (i 36 76).toInt ∧ mrest (up2 i 36 0 0) = mrest i) ∨ ((1 ≤ x.toInt ∧ x.toInt ≤ 40) ∧ (((i 36 76).toInt = 0 ∧ ((-1) : Int32).toInt = 0 ∧ ((up2 i 36 0 0) 36 76).toInt = 0) ∨ ((i 36 76).toInt = 1 ∧ ((mrest i ≤ x.toInt ∧ ((-1) : Int32).toInt = mrest i ∧ ((up2 i 36 0 0) 36 76).toInt = 0) ∨ (x.toInt < mrest i ∧ ((-1) : Int32).toInt = x.toInt ∧ ((up2 i 36 0 0) 36 76).toInt = 1 ∧ mrest (up2 i 36 0 0) + x.toInt = mrest i)))))) := (Or.inl ⟨by omega, by omega, by omega, hm0r⟩)
      have hV_193 : (((up2 i 36 0 0) 36 81).toInt ≤ (i 36 81).toInt + 80 ∧ -1 ≤ ((-1) : Int32).toInt) := (by omega)
      have hp_194 : ((up2 i 36 0 0) 36 81).toInt = ((i 36 81) : Int32).toInt := congrArg Int32.toInt ((up2_k _ _ (by decide)))
      have hp_195 : ((up2 i 36 0 0) 36 76).toInt = ((i 36 76) : Int32).toInt := congrArg Int32.toInt ((up2_k _ _ (by decide)))
      have hV_196 : ((x.toInt < 1 ∨ 40 < x.toInt) ∧ ((up2 i 36 0 0) 36 81).toInt = (i 36 81).toInt) ∨ ((1 ≤ x.toInt ∧ x.toInt ≤ 40) ∧ ((up2 i 36 0 0) 36 81).toInt + ((up2 i 36 0 0) 36 76).toInt = (i 36 81).toInt + (i 36 76).toInt + ((-1) : Int32).toInt) := (Or.inl ⟨by omega, by omega⟩)
      exact sj_zret hx hb hr hlocks rfl hS ((up2 i 36 0 0), L, d) ⟨hO_2, (fun a b ha => (up2_o _ _ (by omega))), (fun a ha => rfl), hMI0.1, (mxE_of (i := i) (u := (up2 i 36 0 0)) ⟨(up2_o _ _ (by omega)), fun a h1 h2 => funext fun b9 => (up2_o _ _ (by omega))⟩ (up2_o _ _ (by omega)) (up2_o _ _ (by omega)) (up2_o _ _ (by omega)) (funext fun b9 => (up2_o _ _ (by omega))) (funext fun b9 => (up2_o _ _ (by omega))) (funext fun b9 => (up2_o _ _ (by omega))) (funext fun b9 => (up2_o _ _ (by omega)))), hV_192, hV_193, hV_196⟩ hH (sj_Knil hK) (Nat.le_of_ble_eq_true rfl) (Nat.le_of_ble_eq_true rfl) dX12_go_17
