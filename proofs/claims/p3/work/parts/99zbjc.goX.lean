
set_option maxHeartbeats 2000000 in
set_option maxRecDepth 100000 in
theorem kv_goX (l : Launch) (D : va_G) (g : Nat → Nat) (ka : Nat → ClassId) (ad : Nat → Nat) (i : Nat → Nat → Int32) (r : Nat → Nat → Nat) (L : Nat → Nat → Int64) (d : Nat → Nat → UInt64) (x : Int32) (hO : OkI i) (hR : RS r) (sz : Nat) (hPC : PC i r) (hPO : PO i) (hPW : PW i) (hPD : PD i) (hPK : PK i) (hev : (i 23 10).toInt ≤ 1900000000) (hRI : RI i r d) (hPY : PY i) : Met l yX11_go wsX11_go ({ frames := 126, cells := 0, slots := 0, locals := 4973 }) (va_Pc [.ref (g 0), .int x] (sj_B D (hwc g ka i r L d) (hT ka) sz (gx ad (va_A (hwc g ka i r L d) sz)))) (sj_Qi (S := (Nat → Nat → Int32) × (Nat → Nat → Int64) × (Nat → Nat → UInt64)) D (fun v u => OkI u.1 ∧ (∀ a, ¬ ((25 ≤ a ∧ a < 28) ∨ a = 14 ∨ a = 15 ∨ a = 16 ∨ a = 17 ∨ a = 23 ∨ a = 29 ∨ (216 ≤ a ∧ a < 240) ∨ (240 ≤ a ∧ a < 357) ∨ (357 ≤ a ∧ a < 379)) → u.1 a = i a) ∧ (∀ a, ¬ ((25 ≤ a ∧ a < 28)) → u.2.2 a = d a) ∧ PD u.1 ∧ PY u.1 ∧ ((u.1 23 10).toInt ≤ (i 23 10).toInt + 80 ∧ -1 ≤ v.toInt) ∧ (RI u.1 r u.2.2) ∧ (SC i u.1) ∧ ((((x.toInt < 1 ∨ 40 < x.toInt) ∧ v.toInt = -1 ∧ (u.1 23 8).toInt = (i 23 8).toInt ∧ rest u.1 r = rest i r) ∨ ((1 ≤ x.toInt ∧ x.toInt ≤ 40) ∧ (((i 23 8).toInt = 0 ∧ v.toInt = 0 ∧ (u.1 23 8).toInt = 0) ∨ ((i 23 8).toInt = 1 ∧ ((rest i r ≤ x.toInt ∧ v.toInt = rest i r ∧ (u.1 23 8).toInt = 0) ∨ (x.toInt < rest i r ∧ v.toInt = x.toInt ∧ (u.1 23 8).toInt = 1 ∧ rest u.1 r + x.toInt = rest i r))))))) ∧ (((x.toInt < 1 ∨ 40 < x.toInt) ∧ (u.1 23 10).toInt = (i 23 10).toInt) ∨ ((1 ≤ x.toInt ∧ x.toInt ≤ 40) ∧ (u.1 23 10).toInt + (u.1 23 8).toInt = (i 23 10).toInt + (i 23 8).toInt + v.toInt))) (fun u => hwc g ka u.1 r u.2.1 u.2.2) (fun _ => []) (va_A (hwc g ka i r L d) sz)) 0 0 (va_A (hwc g ka i r L d) sz) := by
  refine x_met (Ex := gx ad) (cc := cX11_go) (maxL := 3) (ret := (some .int)) (by decide) rfl (Nat.le_of_ble_eq_true rfl) ?_
  intro p e s m below meth c A ls hx hb hr hml hts hown hlocks hA hS hH hK hE hl
  have hown : s.vm.findClass RX11 = some m.cls := hown
  have in7 : ∀ w ∈ wsX70, w ∈ wsX11_go := (fun _ h => (List.mem_cons_of_mem _ (List.mem_append_left _ (List.mem_append_left _ (List.mem_append_left _ (List.mem_append_left _ (List.mem_append_left _ (List.mem_append_left _ (List.mem_append_left _ (List.mem_append_left _ (List.mem_append_left _ (List.mem_append_left _ (List.mem_append_right _ h)))))))))))))
  have in11 : ∀ w ∈ wsX110, w ∈ wsX11_go := (fun _ h => (List.mem_cons_of_mem _ (List.mem_append_left _ (List.mem_append_left _ (List.mem_append_left _ (List.mem_append_left _ (List.mem_append_left _ (List.mem_append_left _ (List.mem_append_left _ (List.mem_append_left _ (List.mem_append_left _ (List.mem_append_left _ (List.mem_append_left _ (List.mem_append_right _ h))))))))))))))
  have wd0 := hts (.fieldLink RX11 44 "StoryDesk" "run" "LStoryDesk$Run;") (List.mem_cons_of_mem _ (List.mem_append_left _ (List.mem_append_left _ (List.mem_append_left _ (List.mem_append_left _ (List.mem_append_left _ (List.mem_append_left _ (List.mem_append_left _ (List.mem_append_left _ (List.mem_append_left _ (List.mem_append_left _ (List.mem_append_left _ (List.mem_append_left _ (List.mem_append_left _ lm0))))))))))))))
  have wd1 := hts (.fieldLink RX11 88 "StoryDesk$Run" "underWay" "Z") (List.mem_cons_of_mem _ (List.mem_append_left _ (List.mem_append_left _ (List.mem_append_left _ (List.mem_append_left _ (List.mem_append_left _ (List.mem_append_left _ (List.mem_append_left _ (List.mem_append_left _ (List.mem_append_left _ (List.mem_append_left _ (List.mem_append_left _ (List.mem_append_left _ (List.mem_append_left _ lm1))))))))))))))
  have wd2 := hts (.fieldLink RX11 242 "StoryDesk$Run" "workers" "[LStoryDesk$Worker;") (List.mem_cons_of_mem _ (List.mem_append_left _ (List.mem_append_left _ (List.mem_append_left _ (List.mem_append_left _ (List.mem_append_left _ (List.mem_append_left _ (List.mem_append_left _ (List.mem_append_left _ (List.mem_append_left _ (List.mem_append_left _ (List.mem_append_left _ (List.mem_append_left _ (List.mem_append_left _ lm2))))))))))))))
  have hl : lv_has ls 3 [(0, .ref (g 0)), (1, .int x)] := hl
  have hK : va_K D vwCl (hT ka) s := hK
  have hg_1 := s_rng x
  have hzm0 : (0 : Int32).toInt = 0 := rfl
  have hzm1 : (1 : Int32).toInt = 1 := rfl
  have hzm2 : (2 : Int32).toInt = 2 := rfl
  have hzm3 : (3 : Int32).toInt = 3 := rfl
  have hzm4 : (4 : Int32).toInt = 4 := rfl
  have hzm5 : (5 : Int32).toInt = 5 := rfl
  refine lv_iload_n hx hb dX11_go_0 rfl (lv_at hl 1 rfl) ?_
  refine lv_iconst (v := 1) hx hb dX11_go_1 (by decide) ?_
  refine lv_icmp_lt (tgt := 11) hx hb dX11_go_2 (by decide) (fun c_2 => ?_) (fun c_2 => ?_)
  · skip
    have h_3 := s_lt (rfl : x.toInt = _) (show (1 : Int32).toInt = 1 from rfl) c_2
    refine lv_iconst (v := (-1)) hx hb dX11_go_11 (by decide) ?_
    have hlv_4 : ((-1) : Int32).toInt = -1 := rfl
    have hV_5 : ((x.toInt < 1 ∨ 40 < x.toInt) ∧ (i 23 10).toInt = (i 23 10).toInt) ∨ ((1 ≤ x.toInt ∧ x.toInt ≤ 40) ∧ (i 23 10).toInt + (i 23 8).toInt = (i 23 10).toInt + (i 23 8).toInt + ((-1) : Int32).toInt) := (Or.inl ⟨by omega, by omega⟩)
    exact sj_zret hx hb hr hlocks rfl hS (i, L, d) ⟨hO, (fun a ha => rfl), (fun a ha => rfl), hPD, hPY, (by dsimp only; omega), hRI, (SC.refl i), (by dsimp only; omega), hV_5⟩ hH (sj_Knil hK) (Nat.le_of_ble_eq_true rfl) (Nat.le_of_ble_eq_true rfl) dX11_go_12
  · skip
    have h_6 := s_nlt (rfl : x.toInt = _) (show (1 : Int32).toInt = 1 from rfl) c_2
    refine lv_iload_n hx hb dX11_go_5 rfl (lv_at hl 1 rfl) ?_
    refine lv_bipush (v := 40) hx hb dX11_go_6 (by decide) ?_
    refine lv_icmp_le (tgt := 13) hx hb dX11_go_8 (by decide) (fun c_7 => ?_) (fun c_7 => ?_)
    · skip
      have h_8 := s_le (rfl : x.toInt = _) (show (40 : Int32).toInt = 40 from rfl) c_7
      refine lv_iconst (v := 0) hx hb dX11_go_13 (by decide) ?_
      refine lv_istore_n (lv' := [(2, .int 0), (0, .ref (g 0)), (1, .int x)]) hx hb dX11_go_14 rfl hl (by decide) rfl (fun ls hl => ?_)
      -- loop at 15
      have lp_9 : ∀ (fuel_lp_9 : Nat) (t : Int32) (j1 : Nat → Nat → Int32) (Lv_10 : Nat → Nat → Int64) (d1 : Nat → Nat → UInt64) (H : Heap) (locs : List Loc) (ls : Array Slot), (40 - t.toInt).toNat < fuel_lp_9 → (0 : Int) ≤ t.toInt ∧ t.toInt ≤ 40 → (j1 23 10).toInt ≤ (i 23 10).toInt + 2 * t.toInt ∧ t.toInt ≤ x.toInt → RI j1 r d1 → SC i j1 → PD j1 → ((((i 23 8).toInt = 0 ∧ t.toInt = 0 ∧ (j1 23 8).toInt = 0) ∨ ((i 23 8).toInt = 1 ∧ ((j1 23 8).toInt = 1 → (rest j1 r + t.toInt = rest i r ∧ 1 ≤ rest j1 r)) ∧ ((j1 23 8).toInt = 0 → t.toInt = rest i r)))) → PY j1 → (j1 23 10).toInt + (j1 23 8).toInt = (i 23 10).toInt + (i 23 8).toInt + t.toInt → (∀ a, ¬ ((25 ≤ a ∧ a < 28)) → d1 a = d a) → OkI j1 → (∀ a, ¬ ((25 ≤ a ∧ a < 28) ∨ a = 14 ∨ a = 15 ∨ a = 16 ∨ a = 17 ∨ a = 23 ∨ a = 29 ∨ (216 ≤ a ∧ a < 240) ∨ (240 ≤ a ∧ a < 357) ∨ (357 ≤ a ∧ a < 379)) → j1 a = i a) → lv_has ls 3 [(2, .int t), (0, .ref (g 0)), (1, .int x)] → sj_H D A (hwc g ka j1 r Lv_10 d1) H → va_S A s.heap H locs → W p l e (headSpec wsX11_go ({ frames := 126, cells := 0, slots := 0, locals := 4973 })).room s m ([.ref (g 0), .int x] : List Value).toArray below meth c H locs 0 0 (MQ below (sj_Qi (S := (Nat → Nat → Int32) × (Nat → Nat → Int64) × (Nat → Nat → UInt64)) D (fun v u => OkI u.1 ∧ (∀ a, ¬ ((25 ≤ a ∧ a < 28) ∨ a = 14 ∨ a = 15 ∨ a = 16 ∨ a = 17 ∨ a = 23 ∨ a = 29 ∨ (216 ≤ a ∧ a < 240) ∨ (240 ≤ a ∧ a < 357) ∨ (357 ≤ a ∧ a < 379)) → u.1 a = i a) ∧ (∀ a, ¬ ((25 ≤ a ∧ a < 28)) → u.2.2 a = d a) ∧ PD u.1 ∧ PY u.1 ∧ ((u.1 23 10).toInt ≤ (i 23 10).toInt + 80 ∧ -1 ≤ v.toInt) ∧ (RI u.1 r u.2.2) ∧ (SC i u.1) ∧ ((((x.toInt < 1 ∨ 40 < x.toInt) ∧ v.toInt = -1 ∧ (u.1 23 8).toInt = (i 23 8).toInt ∧ rest u.1 r = rest i r) ∨ ((1 ≤ x.toInt ∧ x.toInt ≤ 40) ∧ (((i 23 8).toInt = 0 ∧ v.toInt = 0 ∧ (u.1 23 8).toInt = 0) ∨ ((i 23 8).toInt = 1 ∧ ((rest i r ≤ x.toInt ∧ v.toInt = rest i r ∧ (u.1 23 8).toInt = 0) ∨ (x.toInt < rest i r ∧ v.toInt = x.toInt ∧ (u.1 23 8).toInt = 1 ∧ rest u.1 r + x.toInt = rest i r))))))) ∧ (((x.toInt < 1 ∨ 40 < x.toInt) ∧ (u.1 23 10).toInt = (i 23 10).toInt) ∨ ((1 ≤ x.toInt ∧ x.toInt ≤ 40) ∧ (u.1 23 10).toInt + (u.1 23 8).toInt = (i 23 10).toInt + (i 23 8).toInt + v.toInt))) (fun u => hwc g ka u.1 r u.2.1 u.2.2) (fun _ => []) A) ([.ref (g 0), .int x] : List Value).toArray s 0 0 A) (F0 m 15 ls []) := by
        intro fuel_lp_9
        induction fuel_lp_9 with
        | zero => intros; omega
        | succ fuel_lp_9 ih_lp_9 =>
          intro t j1 Lv_10 d1 H locs ls hm hr_t hi_lp_9_0 hi_lp_9_1 hi_lp_9_2 hi_lp_9_3 hi_lp_9_4 hi_lp_9_5 hi_lp_9_6 hfd_d1 hO_j1 hfr_j1 hl hH hS
          have hi_RI := hi_lp_9_1
          have hi_GI := hi_lp_9_4
          have hi_0 := hi_lp_9_0
          have hSC9 := hi_lp_9_2
          have hbu : (0 : Int) ≤ (j1 23 8).toInt ∧ (j1 23 8).toInt ≤ 1 := hO_j1 23 8
          refine lv_iload_n hx hb dX11_go_15 rfl (lv_at hl 0 rfl) ?_
          refine lv_iload_n hx hb dX11_go_16 rfl (lv_at hl 2 rfl) ?_
          refine lv_icmp_ge (tgt := 62) hx hb dX11_go_17 (by decide) (fun c_11 => ?_) (fun c_11 => ?_)
          · skip
            have h_12 := s_le (rfl : x.toInt = _) (rfl : t.toInt = _) c_11
            refine lv_iload_n hx hb dX11_go_62 rfl (lv_at hl 0 rfl) ?_
            have hw_13 : (j1 13 4).toInt = ((i 13 4) : Int32).toInt := congrArg Int32.toInt ((congrFun (hfr_j1 13 (by omega)) _))
            have hV_14 : ((x.toInt < 1 ∨ 40 < x.toInt) ∧ (j1 23 10).toInt = (i 23 10).toInt) ∨ ((1 ≤ x.toInt ∧ x.toInt ≤ 40) ∧ (j1 23 10).toInt + (j1 23 8).toInt = (i 23 10).toInt + (i 23 8).toInt + (t : Int32).toInt) := (Or.inr ⟨by omega, by omega⟩)
            exact sj_zret hx hb hr hlocks rfl hS (j1, Lv_10, d1) ⟨hO_j1, (fun a ha => (hfr_j1 a (by omega))), (fun a ha => (hfd_d1 a (by omega))), hi_lp_9_3, hi_lp_9_5, (by dsimp only; omega), hi_lp_9_1, hi_lp_9_2, (go_out hi_GI (by omega) hi_0.2 (by omega) (by omega) rfl), hV_14⟩ hH (sj_Knil hK) (Nat.le_of_ble_eq_true rfl) (Nat.le_of_ble_eq_true rfl) dX11_go_63
          · skip
            have h_15 := s_nle (rfl : x.toInt = _) (rfl : t.toInt = _) c_11
            refine lv_aload_n hx hb dX11_go_20 rfl (lv_at hl 1 rfl) ?_
            refine h_getr (ci := 11) (C := RX11) (F := TX11) (N := 14) hx hb hts in11 hown hK hH (by decide) (rfl : kd 0 = 11) (by decide) rfl 4 (by decide) wd0 (fun _ h9 => h9) (by decide) rfl (t := 23) (hR 0 4 rfl) (by decide) dX11_go_21 ?_
            have bx_16 : (0 : Int) ≤ (j1 23 8).toInt ∧ (j1 23 8).toInt ≤ 1 := hO_j1 23 8
            refine h_geti (ci := 7) (C := RX7) (F := TX7) (N := 11) hx hb hts in7 hown hK hH (by decide) (rfl : kd 23 = 7) (by decide) rfl 8 (by decide) wd1 (fun _ h9 => h9) (by decide) rfl dX11_go_24 ?_
            refine lv_if_eq (tgt := 62) hx hb dX11_go_27 (by decide) (fun c_17 => ?_) (fun c_17 => ?_)
            · skip
              have h_18 := s_eq (rfl : (j1 23 8).toInt = _) (show (0 : Int32).toInt = 0 from rfl) c_17
              refine lv_iload_n hx hb dX11_go_62 rfl (lv_at hl 0 rfl) ?_
              have hw_19 : (j1 13 4).toInt = ((i 13 4) : Int32).toInt := congrArg Int32.toInt ((congrFun (hfr_j1 13 (by omega)) _))
              have hV_20 : ((x.toInt < 1 ∨ 40 < x.toInt) ∧ (j1 23 10).toInt = (i 23 10).toInt) ∨ ((1 ≤ x.toInt ∧ x.toInt ≤ 40) ∧ (j1 23 10).toInt + (j1 23 8).toInt = (i 23 10).toInt + (i 23 8).toInt + (t : Int32).toInt) := (Or.inr ⟨by omega, by omega⟩)
              exact sj_zret hx hb hr hlocks rfl hS (j1, Lv_10, d1) ⟨hO_j1, (fun a ha => (hfr_j1 a (by omega))), (fun a ha => (hfd_d1 a (by omega))), hi_lp_9_3, hi_lp_9_5, (by dsimp only; omega), hi_lp_9_1, hi_lp_9_2, (go_out hi_GI (by omega) hi_0.2 (by omega) (by omega) rfl), hV_20⟩ hH (sj_Knil hK) (Nat.le_of_ble_eq_true rfl) (Nat.le_of_ble_eq_true rfl) dX11_go_63
            · skip
              have h_21 := s_ne (rfl : (j1 23 8).toInt = _) (show (0 : Int32).toInt = 0 from rfl) c_17
              refine lv_aload_n hx hb dX11_go_30 rfl (lv_at hl 1 rfl) ?_
              refine lv_aload_n hx hb dX11_go_31 rfl (lv_at hl 1 rfl) ?_
              refine h_getr (ci := 11) (C := RX11) (F := TX11) (N := 14) hx hb hts in11 hown hK hH (by decide) (rfl : kd 0 = 11) (by decide) rfl 4 (by decide) wd0 (fun _ h9 => h9) (by decide) rfl (t := 23) (hR 0 4 rfl) (by decide) dX11_go_32 ?_
              refine h_getr (ci := 7) (C := RX7) (F := TX7) (N := 11) hx hb hts in7 hown hK hH (by decide) (rfl : kd 23 = 7) (by decide) rfl 0 (by decide) wd2 (fun _ h9 => h9) (by decide) rfl (t := 24) (hR 23 0 rfl) (by decide) dX11_go_35 ?_
              refine lv_aload_n hx hb dX11_go_38 rfl (lv_at hl 1 rfl) ?_
              refine h_getr (ci := 11) (C := RX11) (F := TX11) (N := 14) hx hb hts in11 hown hK hH (by decide) (rfl : kd 0 = 11) (by decide) rfl 4 (by decide) wd0 (fun _ h9 => h9) (by decide) rfl (t := 23) (hR 0 4 rfl) (by decide) dX11_go_39 ?_
              have hw_22 : (j1 13 4).toInt = ((i 13 4) : Int32).toInt := congrArg Int32.toInt ((congrFun (hfr_j1 13 (by omega)) _))
              obtain ⟨hu8, hRU, hlt⟩ := hi_RI.resolve_left (fun q => by have := q.1; omega)
              have hms : (40 - (t.toInt + 1)).toNat < fuel_lp_9 := by omega
              have hr9 : (0 : Int) ≤ t.toInt + 1 ∧ t.toInt + 1 ≤ 40 := by omega
              have hr8 : t.toInt + 1 ≤ x.toInt := by omega
              have hR1 := hRU.1
              have hb4 : (0 : Int) ≤ (j1 23 4).toInt ∧ (j1 23 4).toInt ≤ 24 := hO_j1 23 4
              have ha0 := act1_or j1 0
              have hs0 : (j1 25 1).toInt = (j1 (25 + 1 * 0) 1).toInt := rfl
              have hz0 := hRU.2.2.2.2 0 (by omega)
              have ha1 := act1_or j1 1
              have hs1 : (j1 26 1).toInt = (j1 (25 + 1 * 1) 1).toInt := rfl
              have hz1 := hRU.2.2.2.2 1 (by omega)
              have ha2 := act1_or j1 2
              have hs2 : (j1 27 1).toInt = (j1 (25 + 1 * 2) 1).toInt := rfl
              have hz2 := hRU.2.2.2.2 2 (by omega)
              have hact : act j1 = act1 j1 0 + act1 j1 1 + act1 j1 2 := rfl
              refine x_calli (va_runV (As := []) (rest := [.ref (g 24), .ref (g 0)]) ⟨hx, hb, hml, hown, hts⟩ (k_takeTurn l D g ka ad j1 r Lv_10 d1  hO_j1 hR H.size (by first | omega | decide) (by first | omega | decide)) (cwV 0 hts gX11_go_X7_takeTurn rfl rfl rfl (by decide +kernel) ⟨(Nat.le_of_ble_eq_true rfl), (Nat.le_of_ble_eq_true rfl)⟩) (x_preV (q := (RX7, TX7, 11)) hH hK (q_obj (by decide) (rfl : kd 23 = 7) (by decide)) rfl gxb (gxw hE hS (x_F hH hS hA))) rfl rfl hl.1 rfl (lv_room (Nat.le_of_ble_eq_true rfl)) dX11_go_42 ⟨(Nat.le_of_ble_eq_true rfl), (Nat.le_of_ble_eq_true rfl)⟩) hH hS hA rfl rfl (fun r_23 im_25 H locs hw_24 hH hS => ?_)
              have hH : sj_H D A (hwc g ka im_25 r Lv_10 d1) H := hH
              obtain ⟨hO_27, hfr_26, hr_28, he_29⟩ := hw_24
              have hr_28 : (0 : Int) ≤ r_23.toInt ∧ r_23.toInt ≤ 2 := hr_28
              obtain ⟨j_30, ej_30, hj_30⟩ : ∃ j : Nat, (r_23).toNatClampNeg = j ∧ (j : Int) = r_23.toInt := ⟨_, rfl, by rw [s_cl (rfl : r_23.toInt = _)]; omega⟩
              have lj_30 : j_30 < 3 := by omega
              refine h_qald hx hb hK hH (by decide) (rfl : kd 24 = 28) (by decide) rfl (s_vin (N := 3) (rfl : r_23.toInt = _) (rfl : ln 24 = 3) (by omega) (by omega)) (t := (25 + 1 * j_30)) (by rw [ej_30]; exact (hR 24 j_30 rfl)) (lt_nK (by omega)) dX11_go_45 ?_
              have hw_31 : (im_25 13 4).toInt = ((i 13 4) : Int32).toInt := congrArg Int32.toInt (((congrFun (hfr_26 13 (by omega)) _).trans (congrFun (hfr_j1 13 (by omega)) _)))
              have hPCj : PC j1 r := (PC_fr hPC (fun a ha => (hfr_j1 a (by omega))) (fun _ _ _ => rfl))
              have hSC1 : SC j1 im_25 := ⟨(hfr_26 33 (by omega)), congrArg Int32.toInt (congrFun (hfr_26 0 (by omega)) 11), tgE.of (fun a ha => (hfr_26 a (by omega))), fun c9 hc9 => congrFun ((hfr_26 (216 + 1 * c9) (by omega))) 3, fun a ha => (hfr_26 a (by omega))⟩
              have hws : ∀ a : Nat, a < 3 → im_25 (25 + 1 * a) = j1 (25 + 1 * a) := fun a ha => (hfr_26 (25 + 1 * a) (by omega))
              have hRU1 : RU im_25 r d1 := RU_same hO_j1 hPCj hRU hSC1 (hfr_26 28 (by omega)) (by omega) (by omega) (by omega) (by omega) (by omega) (by omega) hws
              have hre1 : rest im_25 r = rest j1 r := rest_same hO_j1 hPCj hRU hSC1 (hfr_26 28 (by omega)) (by omega) (by omega) hws
              have hst : (im_25 (25 + 1 * j_30) 1).toInt < 0 → (im_25 23 5).toInt < (im_25 23 4).toInt := by
                  intro q
                  rw [hws j_30 (by omega)] at q
                  rcases (show j_30 = 0 ∨ j_30 = 1 ∨ j_30 = 2 by omega) with e9 | e9 | e9 <;> rw [e9] at q <;> omega
              refine x_callv (va_runV (As := [.ref (g (25 + 1 * j_30))]) (rest := []) ⟨hx, hb, hml, hown, hts⟩ (k_moveX l D g ka ad im_25 r Lv_10 d1 j_30 hO_27 hR H.size (by first | omega | decide) (PC_fr hPC (fun a ha => ((hfr_26 a (by omega)).trans (hfr_j1 a (by omega)))) (fun _ _ _ => rfl)) (PO_fr hPO (fun a ha => ((hfr_26 a (by omega)).trans (hfr_j1 a (by omega))))) (PW_fr hPW (fun a ha => ((hfr_26 a (by omega)).trans (hfr_j1 a (by omega))))) (PD_fr hO_j1 hi_lp_9_3 (fun a ha => (hfr_26 a (by omega)))) (PK.same hO hPK (hSC9.2.2.1.trans (tgE.of (fun a ha => (hfr_26 a (by omega))))) (congrArg Int32.toInt (((congrFun (hfr_26 0 (by omega)) _).trans (congrFun (hfr_j1 0 (by omega)) _))))) hRU1.2.1 (by first | omega | decide) (hRU1.2.2.1 j_30 (by omega)) (hRU1.2.2.2.1 j_30 (by omega)) (by first | omega | decide) hst (by first | omega | decide) (PY_fr hi_lp_9_5 (fun a ha => (hfr_26 a (by omega))))) (cwV 1 hts gX11_go_X11_move rfl rfl rfl (by decide +kernel) ⟨(Nat.le_of_ble_eq_true rfl), (Nat.le_of_ble_eq_true rfl)⟩) (x_preV (q := (RX11, TX11, 14)) hH hK (q_obj (by decide) (rfl : kd 0 = 11) (by decide)) rfl gxb (gxw hE hS (x_F hH hS hA))) rfl rfl hl.1 rfl (lv_room (Nat.le_of_ble_eq_true rfl)) dX11_go_46 ⟨(Nat.le_of_ble_eq_true rfl), (Nat.le_of_ble_eq_true rfl)⟩) hH hS hA rfl rfl (fun u_37 H locs hw_33 hH hS => ?_)
              obtain ⟨im_34, Lm_35, dm_36⟩ := u_37
              try dsimp only at hw_33
              have hH : sj_H D A (hwc g ka im_34 r Lm_35 dm_36) H := hH
              obtain ⟨hO_39, hfr_38, hfd_40, hk_41, hk_42, he_43, hx2_44, hx2_45, hx2_46, hx2_47⟩ := hw_33
              have hPC1 : PC im_25 r := (PC_fr hPC (fun a ha => ((hfr_26 a (by omega)).trans (hfr_j1 a (by omega)))) (fun _ _ _ => rfl))
              have hgs := go_step (d := d1) (d' := dm_36) hO_27 hPC1 hRU1 hx2_45 (w := j_30) (by omega) (by omega) (hfr_38 28 (by omega)) (by omega) (by omega) (by omega) (congrArg (fun f => (f 4).toInt) (hfr_38 13 (by omega))) (fun a ha hn => hfr_38 (25 + 1 * a) (by omega)) hfd_40 (by omega) hx2_46 hx2_47 hx2_44
              obtain ⟨hRU2, hre2⟩ := hgs
              have hPC2 : PC im_34 r := (PC_fr hPC (fun a ha => ((hfr_38 a (by omega)).trans ((hfr_26 a (by omega)).trans (hfr_j1 a (by omega))))) (fun _ _ _ => rfl))
              refine lv_aload_n hx hb dX11_go_49 rfl (lv_at hl 1 rfl) ?_
              refine h_getr (ci := 11) (C := RX11) (F := TX11) (N := 14) hx hb hts in11 hown hK hH (by decide) (rfl : kd 0 = 11) (by decide) rfl 4 (by decide) wd0 (fun _ h9 => h9) (by decide) rfl (t := 23) (hR 0 4 rfl) (by decide) dX11_go_50 ?_
              have hw_48 : (im_34 13 4).toInt = ((i 13 4) : Int32).toInt := congrArg Int32.toInt (((congrFun (hfr_38 13 (by omega)) _).trans ((congrFun (hfr_26 13 (by omega)) _).trans (congrFun (hfr_j1 13 (by omega)) _))))
              refine x_callv (va_runV (As := []) (rest := []) ⟨hx, hb, hml, hown, hts⟩ (k_endIf l D g ka ad im_34 r Lm_35 dm_36  hO_39 hR H.size (by first | omega | decide)) (cwV 0 hts gX11_go_X7_endIfNothingIsLeft rfl rfl rfl (by decide +kernel) ⟨(Nat.le_of_ble_eq_true rfl), (Nat.le_of_ble_eq_true rfl)⟩) (x_preV (q := (RX7, TX7, 11)) hH hK (q_obj (by decide) (rfl : kd 23 = 7) (by decide)) rfl gxb (gxw hE hS (x_F hH hS hA))) rfl rfl hl.1 rfl (lv_room (Nat.le_of_ble_eq_true rfl)) dX11_go_53 ⟨(Nat.le_of_ble_eq_true rfl), (Nat.le_of_ble_eq_true rfl)⟩) hH hS hA rfl rfl (fun im_51 H locs hw_50 hH hS => ?_)
              have hH : sj_H D A (hwc g ka im_51 r Lm_35 dm_36) H := hH
              obtain ⟨hO_53, hfr_52, he_54⟩ := hw_50
              have hw_55 : (im_51 13 4).toInt = ((i 13 4) : Int32).toInt := congrArg Int32.toInt (((congrFun (hfr_52 13 (by omega)) _).trans ((congrFun (hfr_38 13 (by omega)) _).trans ((congrFun (hfr_26 13 (by omega)) _).trans (congrFun (hfr_j1 13 (by omega)) _)))))
              have hRf := hRU2.1
              have hSC3 : SC im_34 im_51 := ⟨(hfr_52 33 (by omega)), congrArg Int32.toInt (congrFun (hfr_52 0 (by omega)) 11), tgE.of (fun a ha => (hfr_52 a (by omega))), fun c9 hc9 => congrFun ((hfr_52 (216 + 1 * c9) (by omega))) 3, fun a ha => (hfr_52 a (by omega))⟩
              have hws3 : ∀ a : Nat, a < 3 → im_51 (25 + 1 * a) = im_34 (25 + 1 * a) := fun a ha => (hfr_52 (25 + 1 * a) (by omega))
              have hRU3 : RU im_51 r dm_36 := RU_same hO_39 hPC2 hRU2 hSC3 (hfr_52 28 (by omega)) (by omega) (by omega) (by omega) (by omega) (by omega) (by omega) hws3
              have hre3 : rest im_51 r = rest im_34 r := rest_same hO_39 hPC2 hRU2 hSC3 (hfr_52 28 (by omega)) (by omega) (by omega) hws3
              have hPC3 : PC im_51 r := (PC_fr hPC (fun a ha => ((hfr_52 a (by omega)).trans ((hfr_38 a (by omega)).trans ((hfr_26 a (by omega)).trans (hfr_j1 a (by omega)))))) (fun _ _ _ => rfl))
              have hge := go_end hO_53 hPC3 hRU3
              have hg0 : (im_51 23 4).toInt ≤ (im_51 23 6).toInt → rest im_51 r = 0 := fun q => (hge.1 q).2
              have hg1 := hge.2
              have hRI3 : RI im_51 r dm_36 := by
                  by_cases q : (im_51 23 6).toInt < (im_51 23 4).toInt
                  · exact Or.inr ⟨by omega, hRU3, q⟩
                  · exact Or.inl ⟨by omega, (hge.1 (by omega)).1⟩
              have hk8 : ((im_51 23 6).toInt < (im_51 23 4).toInt ∧ (im_51 23 8).toInt = 1) ∨ ((im_51 23 4).toInt ≤ (im_51 23 6).toInt ∧ (im_51 23 8).toInt = 0) := he_54.1.elim (fun q => Or.inl ⟨by omega, by omega⟩) (fun q => Or.inr ⟨by omega, by omega⟩)
              have hev9 : (im_51 23 10).toInt ≤ (im_34 23 10).toInt + 1 := he_54.1.elim (fun q => by omega) (fun q => by omega)
              have hre9 : rest im_51 r + 1 = rest j1 r := by omega
              have hGI := go_inv hi_GI hu8 hre9 hk8 hg0 hg1
              have hSC9b := hSC9.trans (hSC1.trans (hx2_45.trans hSC3))
              obtain ⟨z_56, ez_56, hz_56⟩ := s_add (rfl : t.toInt = _) (show (1 : Int32).toInt = 1 from rfl) (by omega) (by omega)
              refine lv_iinc (v := z_56) (lv' := [(2, .int z_56), (0, .ref (g 0)), (1, .int x)]) hx hb dX11_go_56 hl (k := 0) rfl ez_56 (by decide) rfl (fun ls hl => ?_)
              refine lv_goto (tgt := 15) hx hb dX11_go_59 (by decide) ?_
              exact ih_lp_9 z_56 _ _ _ _ _ ls (by rw [hz_56]; exact hms) (by rw [hz_56]; exact hr9) ⟨by omega, by rw [hz_56]; exact hr8⟩ hRI3 hSC9b (PD_fr hO_39 hk_41 (fun a ha => (hfr_52 a (by omega)))) (by rw [hz_56]; exact hGI) (PY_fr hk_42 (fun a ha => (hfr_52 a (by omega)))) (by omega) (fun a ha => ((hfd_40 a (by omega)).trans (hfd_d1 a (by omega)))) hO_53 (fun a ha => ((hfr_52 a (by omega)).trans ((hfr_38 a (by omega)).trans ((hfr_26 a (by omega)).trans (hfr_j1 a (by omega)))))) (lv_sub hl [0, 1, 2] rfl) hH hS
      have hl_57 : (0 : Int32).toInt = 0 := rfl
      exact lp_9 _ 0 _ _ _ _ _ ls (Nat.lt_succ_self _) (by omega) (by omega) hRI (SC.refl i) hPD (hRI.elim (fun q => Or.inl ⟨q.1, rfl, q.1⟩) (fun q => Or.inr ⟨q.1, fun _ => ⟨Int.add_zero _, (go_end hO hPC q.2.1).2 q.2.2⟩, fun h9 => by have := q.1; omega⟩)) hPY (by omega) (fun a ha => rfl) hO (fun a ha => rfl) (lv_sub hl [0, 1, 2] rfl) hH hS
    · skip
      have h_58 := s_nle (rfl : x.toInt = _) (show (40 : Int32).toInt = 40 from rfl) c_7
      refine lv_iconst (v := (-1)) hx hb dX11_go_11 (by decide) ?_
      have hlv_59 : ((-1) : Int32).toInt = -1 := rfl
      have hV_60 : ((x.toInt < 1 ∨ 40 < x.toInt) ∧ (i 23 10).toInt = (i 23 10).toInt) ∨ ((1 ≤ x.toInt ∧ x.toInt ≤ 40) ∧ (i 23 10).toInt + (i 23 8).toInt = (i 23 10).toInt + (i 23 8).toInt + ((-1) : Int32).toInt) := (Or.inl ⟨by omega, by omega⟩)
      exact sj_zret hx hb hr hlocks rfl hS (i, L, d) ⟨hO, (fun a ha => rfl), (fun a ha => rfl), hPD, hPY, (by dsimp only; omega), hRI, (SC.refl i), (by dsimp only; omega), hV_60⟩ hH (sj_Knil hK) (Nat.le_of_ble_eq_true rfl) (Nat.le_of_ble_eq_true rfl) dX11_go_12
