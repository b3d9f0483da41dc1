/-- the first place from a on, up to b, that is no blank; the place behind the last one -/
def skp (f : Nat → Int32) (a b v : Int) : Prop := a ≤ v ∧ v ≤ b ∧ (∀ k : Nat, a ≤ (k : Int) → (k : Int) < v → (f k).toInt = 32) ∧ (v < b → (f v.toNat).toInt ≠ 32)
def drp (f : Nat → Int32) (a b v : Int) : Prop := a ≤ v ∧ v ≤ b ∧ (∀ k : Nat, v ≤ (k : Int) → (k : Int) < b → (f k).toInt = 32) ∧ (a < v → (f (v - 1).toNat).toInt ≠ 32)
theorem skp_u {f h : Nat → Int32} {a b v w : Int} (ha : 0 ≤ a) (e : ∀ k : Nat, a ≤ (k : Int) → (k : Int) < b → (f k).toInt = (h k).toInt) (g1 : skp f a b v) (g2 : skp h a b w) : v = w := by
  obtain ⟨p1, p2, p3, p4⟩ := g1
  obtain ⟨q1, q2, q3, q4⟩ := g2
  rcases (show v < w ∨ v = w ∨ w < v by omega) with h9 | h9 | h9
  · have := q3 v.toNat (by omega) (by omega)
    have h8 := p4 (by omega)
    rw [e v.toNat (by omega) (by omega)] at h8
    exact absurd this h8
  · exact h9
  · have := p3 w.toNat (by omega) (by omega)
    have h8 := q4 (by omega)
    rw [← e w.toNat (by omega) (by omega)] at h8
    exact absurd this h8
theorem drp_u {f h : Nat → Int32} {a b v w : Int} (ha : 0 ≤ a) (e : ∀ k : Nat, a ≤ (k : Int) → (k : Int) < b → (f k).toInt = (h k).toInt) (g1 : drp f a b v) (g2 : drp h a b w) : v = w := by
  obtain ⟨p1, p2, p3, p4⟩ := g1
  obtain ⟨q1, q2, q3, q4⟩ := g2
  rcases (show v < w ∨ v = w ∨ w < v by omega) with h9 | h9 | h9
  · have := p3 (w - 1).toNat (by omega) (by omega)
    have h8 := q4 (by omega)
    rw [← e (w - 1).toNat (by omega) (by omega)] at h8
    exact absurd this h8
  · exact h9
  · have := q3 (v - 1).toNat (by omega) (by omega)
    have h8 := p4 (by omega)
    rw [e (v - 1).toNat (by omega) (by omega)] at h8
    exact absurd this h8
theorem dX5_skipBlanks_0 : decode cX5_skipBlanks 0 = .ok (.iload_n 1, 1) := by decide +kernel
theorem dX5_skipBlanks_1 : decode cX5_skipBlanks 1 = .ok (.istore_n 3, 1) := by decide +kernel
theorem dX5_skipBlanks_2 : decode cX5_skipBlanks 2 = .ok (.iload_n 3, 1) := by decide +kernel
theorem dX5_skipBlanks_3 : decode cX5_skipBlanks 3 = .ok (.iload_n 2, 1) := by decide +kernel
theorem dX5_skipBlanks_4 : decode cX5_skipBlanks 4 = .ok (.if_icmp .ge 22, 3) := by decide +kernel
theorem dX5_skipBlanks_26 : decode cX5_skipBlanks 26 = .ok (.iload_n 3, 1) := by decide +kernel
theorem dX5_skipBlanks_27 : decode cX5_skipBlanks 27 = .ok (.ireturn, 1) := by decide +kernel
theorem dX5_skipBlanks_7 : decode cX5_skipBlanks 7 = .ok (.aload_n 0, 1) := by decide +kernel
theorem dX5_skipBlanks_8 : decode cX5_skipBlanks 8 = .ok (.getfield 16, 3) := by decide +kernel
theorem dX5_skipBlanks_11 : decode cX5_skipBlanks 11 = .ok (.iload_n 3, 1) := by decide +kernel
theorem dX5_skipBlanks_12 : decode cX5_skipBlanks 12 = .ok (.invokevirtual 116, 3) := by decide +kernel
theorem dX5_skipBlanks_15 : decode cX5_skipBlanks 15 = .ok (.bipush 32, 2) := by decide +kernel
theorem dX5_skipBlanks_17 : decode cX5_skipBlanks 17 = .ok (.if_icmp .ne 9, 3) := by decide +kernel
theorem dX5_skipBlanks_20 : decode cX5_skipBlanks 20 = .ok (.iinc 3 1, 3) := by decide +kernel
theorem dX5_skipBlanks_23 : decode cX5_skipBlanks 23 = .ok (.goto (-21), 3) := by decide +kernel
theorem dX5_dropBlanks_0 : decode cX5_dropBlanks 0 = .ok (.iload_n 2, 1) := by decide +kernel
theorem dX5_dropBlanks_1 : decode cX5_dropBlanks 1 = .ok (.istore_n 3, 1) := by decide +kernel
theorem dX5_dropBlanks_2 : decode cX5_dropBlanks 2 = .ok (.iload_n 3, 1) := by decide +kernel
theorem dX5_dropBlanks_3 : decode cX5_dropBlanks 3 = .ok (.iload_n 1, 1) := by decide +kernel
theorem dX5_dropBlanks_4 : decode cX5_dropBlanks 4 = .ok (.if_icmp .le 24, 3) := by decide +kernel
theorem dX5_dropBlanks_28 : decode cX5_dropBlanks 28 = .ok (.iload_n 3, 1) := by decide +kernel
theorem dX5_dropBlanks_29 : decode cX5_dropBlanks 29 = .ok (.ireturn, 1) := by decide +kernel
theorem dX5_dropBlanks_7 : decode cX5_dropBlanks 7 = .ok (.aload_n 0, 1) := by decide +kernel
theorem dX5_dropBlanks_8 : decode cX5_dropBlanks 8 = .ok (.getfield 16, 3) := by decide +kernel
theorem dX5_dropBlanks_11 : decode cX5_dropBlanks 11 = .ok (.iload_n 3, 1) := by decide +kernel
theorem dX5_dropBlanks_12 : decode cX5_dropBlanks 12 = .ok (.iconst 1, 1) := by decide +kernel
theorem dX5_dropBlanks_13 : decode cX5_dropBlanks 13 = .ok (.isub, 1) := by decide +kernel
theorem dX5_dropBlanks_14 : decode cX5_dropBlanks 14 = .ok (.invokevirtual 116, 3) := by decide +kernel
theorem dX5_dropBlanks_17 : decode cX5_dropBlanks 17 = .ok (.bipush 32, 2) := by decide +kernel
theorem dX5_dropBlanks_19 : decode cX5_dropBlanks 19 = .ok (.if_icmp .ne 9, 3) := by decide +kernel
theorem dX5_dropBlanks_22 : decode cX5_dropBlanks 22 = .ok (.iinc 3 (-1), 3) := by decide +kernel
theorem dX5_dropBlanks_25 : decode cX5_dropBlanks 25 = .ok (.goto (-23), 3) := by decide +kernel
theorem dX12_begin_0 : decode cX12_begin 0 = .ok (.iload_n 1, 1) := by decide +kernel
theorem dX12_begin_1 : decode cX12_begin 1 = .ok (.istore_n 3, 1) := by decide +kernel
theorem dX12_begin_2 : decode cX12_begin 2 = .ok (.iload_n 3, 1) := by decide +kernel
theorem dX12_begin_3 : decode cX12_begin 3 = .ok (.iload_n 2, 1) := by decide +kernel
theorem dX12_begin_4 : decode cX12_begin 4 = .ok (.if_icmp .ge 17, 3) := by decide +kernel
theorem dX12_begin_21 : decode cX12_begin 21 = .ok (.iload_n 3, 1) := by decide +kernel
theorem dX12_begin_22 : decode cX12_begin 22 = .ok (.ireturn, 1) := by decide +kernel
theorem dX12_begin_7 : decode cX12_begin 7 = .ok (.aload_n 0, 1) := by decide +kernel
theorem dX12_begin_8 : decode cX12_begin 8 = .ok (.iload_n 3, 1) := by decide +kernel
theorem dX12_begin_9 : decode cX12_begin 9 = .ok (.caload, 1) := by decide +kernel
theorem dX12_begin_10 : decode cX12_begin 10 = .ok (.bipush 32, 2) := by decide +kernel
theorem dX12_begin_12 : decode cX12_begin 12 = .ok (.if_icmp .ne 9, 3) := by decide +kernel
theorem dX12_begin_15 : decode cX12_begin 15 = .ok (.iinc 3 1, 3) := by decide +kernel
theorem dX12_begin_18 : decode cX12_begin 18 = .ok (.goto (-16), 3) := by decide +kernel
theorem dX12_end_0 : decode cX12_end 0 = .ok (.iload_n 2, 1) := by decide +kernel
theorem dX12_end_1 : decode cX12_end 1 = .ok (.istore_n 3, 1) := by decide +kernel
theorem dX12_end_2 : decode cX12_end 2 = .ok (.iload_n 3, 1) := by decide +kernel
theorem dX12_end_3 : decode cX12_end 3 = .ok (.iload_n 1, 1) := by decide +kernel
theorem dX12_end_4 : decode cX12_end 4 = .ok (.if_icmp .le 19, 3) := by decide +kernel
theorem dX12_end_23 : decode cX12_end 23 = .ok (.iload_n 3, 1) := by decide +kernel
theorem dX12_end_24 : decode cX12_end 24 = .ok (.ireturn, 1) := by decide +kernel
theorem dX12_end_7 : decode cX12_end 7 = .ok (.aload_n 0, 1) := by decide +kernel
theorem dX12_end_8 : decode cX12_end 8 = .ok (.iload_n 3, 1) := by decide +kernel
theorem dX12_end_9 : decode cX12_end 9 = .ok (.iconst 1, 1) := by decide +kernel
theorem dX12_end_10 : decode cX12_end 10 = .ok (.isub, 1) := by decide +kernel
theorem dX12_end_11 : decode cX12_end 11 = .ok (.caload, 1) := by decide +kernel
theorem dX12_end_12 : decode cX12_end 12 = .ok (.bipush 32, 2) := by decide +kernel
theorem dX12_end_14 : decode cX12_end 14 = .ok (.if_icmp .ne 9, 3) := by decide +kernel
theorem dX12_end_17 : decode cX12_end 17 = .ok (.iinc 3 (-1), 3) := by decide +kernel
theorem dX12_end_20 : decode cX12_end 20 = .ok (.goto (-18), 3) := by decide +kernel
theorem gX5_skipBlanks_X3_at : GoodIn wsX5_skipBlanks (wsV RX5 116 RX3 yX3_at wsX3_at) := goodIn_app (goodIn_sub (List.forall_mem_cons.mpr ⟨(List.mem_cons_of_mem _ (List.mem_append_left _ (List.mem_append_left _ lm1))), List.forall_mem_cons.mpr ⟨(List.mem_cons_of_mem _ (List.mem_append_left _ (List.mem_append_left _ lm2))), List.forall_mem_cons.mpr ⟨(List.mem_cons_of_mem _ (List.mem_append_left _ (List.mem_append_left _ lm3))), List.forall_mem_cons.mpr ⟨(List.mem_cons_of_mem _ (List.mem_append_left _ (List.mem_append_left _ lm4))), (fun _ h => absurd h List.not_mem_nil)⟩⟩⟩⟩) (by decide +kernel)) (goodIn_sub (by unfold wsX3_at; exact List.forall_mem_cons.mpr ⟨(List.mem_cons_of_mem _ (List.mem_append_left _ (List.mem_append_left _ lm5))), List.forall_mem_append.mpr ⟨List.forall_mem_cons.mpr ⟨(List.mem_cons_of_mem _ (List.mem_append_left _ (List.mem_append_left _ lm6))), List.forall_mem_cons.mpr ⟨(List.mem_cons_of_mem _ (List.mem_append_left _ (List.mem_append_left _ lm7))), (fun _ h => absurd h List.not_mem_nil)⟩⟩, (fun _ h => (List.mem_cons_of_mem _ (List.mem_append_right _ h)))⟩⟩) gw_X3_at)
theorem gX5_dropBlanks_X3_at : GoodIn wsX5_dropBlanks (wsV RX5 116 RX3 yX3_at wsX3_at) := goodIn_app (goodIn_sub (List.forall_mem_cons.mpr ⟨(List.mem_cons_of_mem _ (List.mem_append_left _ (List.mem_append_left _ lm1))), List.forall_mem_cons.mpr ⟨(List.mem_cons_of_mem _ (List.mem_append_left _ (List.mem_append_left _ lm2))), List.forall_mem_cons.mpr ⟨(List.mem_cons_of_mem _ (List.mem_append_left _ (List.mem_append_left _ lm3))), List.forall_mem_cons.mpr ⟨(List.mem_cons_of_mem _ (List.mem_append_left _ (List.mem_append_left _ lm4))), (fun _ h => absurd h List.not_mem_nil)⟩⟩⟩⟩) (by decide +kernel)) (goodIn_sub (by unfold wsX3_at; exact List.forall_mem_cons.mpr ⟨(List.mem_cons_of_mem _ (List.mem_append_left _ (List.mem_append_left _ lm5))), List.forall_mem_append.mpr ⟨List.forall_mem_cons.mpr ⟨(List.mem_cons_of_mem _ (List.mem_append_left _ (List.mem_append_left _ lm6))), List.forall_mem_cons.mpr ⟨(List.mem_cons_of_mem _ (List.mem_append_left _ (List.mem_append_left _ lm7))), (fun _ h => absurd h List.not_mem_nil)⟩⟩, (fun _ h => (List.mem_cons_of_mem _ (List.mem_append_right _ h)))⟩⟩) gw_X3_at)
set_option maxHeartbeats 2000000 in
set_option maxRecDepth 100000 in
theorem k_skip (l : Launch) (D : va_G) (g : Nat → Nat) (ka : Nat → ClassId) (ad : Nat → Nat) (i : Nat → Nat → Int32) (r : Nat → Nat → Nat) (L : Nat → Nat → Int64) (d : Nat → Nat → UInt64) (x : Int32) (y : Int32) (hO : OkI i) (hR : RS r) (sz : Nat) (hx0 : 0 ≤ x.toInt) (hxy : x.toInt ≤ y.toInt) (hys : y.toInt ≤ (i 4 1).toInt) (hs4 : (i 4 1).toInt ≤ 480) : Met l yX5_skipBlanks wsX5_skipBlanks ({ frames := 1, cells := 0, slots := 0, locals := 21 }) (va_Pc [.ref (g 3), .int x, .int y] (sj_B D (hwc g ka i r L d) (hT ka) sz (gx ad (va_A (hwc g ka i r L d) sz)))) (sj_Qi (S := Unit) D (fun v u => ((0 : Int) ≤ v.toInt ∧ v.toInt ≤ 480) ∧ (skp (i 5) x.toInt y.toInt v.toInt)) (fun _ => hwc g ka i r L d) (fun _ => []) (va_A (hwc g ka i r L d) sz)) 0 0 (va_A (hwc g ka i r L d) sz) := by
  refine x_met (Ex := gx ad) (cc := cX5_skipBlanks) (maxL := 4) (ret := (some .int)) (by decide) rfl (Nat.le_of_ble_eq_true rfl) ?_
  intro p e s m below meth c A ls hx hb hr hml hts hown hlocks hA hS hH hK hE hl
  have hown : s.vm.findClass RX5 = some m.cls := hown
  have in5 : ∀ w ∈ wsX50, w ∈ wsX5_skipBlanks := (fun _ h => (List.mem_cons_of_mem _ (List.mem_append_left _ (List.mem_append_right _ h))))
  have wd0 := hts (.fieldLink RX5 16 "StoryDesk$Reading" "source" "LStoryDesk$Letters;") (List.mem_cons_of_mem _ (List.mem_append_left _ (List.mem_append_left _ lm0)))
  have hl : lv_has ls 4 [(0, .ref (g 3)), (1, .int x), (2, .int y)] := hl
  have hK : va_K D vwCl (hT ka) s := hK
  have hyy : y.toInt ≤ 480 := by omega
  refine lv_iload_n hx hb dX5_skipBlanks_0 rfl (lv_at hl 1 rfl) ?_
  refine lv_istore_n (lv' := [(3, .int x), (0, .ref (g 3)), (1, .int x), (2, .int y)]) hx hb dX5_skipBlanks_1 rfl hl (by decide) rfl (fun ls hl => ?_)
  -- loop at 2
  have lp_1 : ∀ (fuel_lp_1 : Nat) (f : Int32) (H : Heap) (locs : List Loc) (ls : Array Slot), (y.toInt - f.toInt).toNat < fuel_lp_1 → (0 : Int) ≤ f.toInt ∧ f.toInt ≤ 480 → x.toInt ≤ f.toInt ∧ f.toInt ≤ y.toInt → (∀ k : Nat, x.toInt ≤ (k : Int) → (k : Int) < f.toInt → (i 5 k).toInt = 32) → lv_has ls 4 [(3, .int f), (0, .ref (g 3)), (1, .int x), (2, .int y)] → sj_H D A (hwc g ka i r L d) H → va_S A s.heap H locs → W p l e (headSpec wsX5_skipBlanks ({ frames := 1, cells := 0, slots := 0, locals := 21 })).room s m ([.ref (g 3), .int x, .int y] : List Value).toArray below meth c H locs 0 0 (MQ below (sj_Qi (S := Unit) D (fun v u => ((0 : Int) ≤ v.toInt ∧ v.toInt ≤ 480) ∧ (skp (i 5) x.toInt y.toInt v.toInt)) (fun _ => hwc g ka i r L d) (fun _ => []) A) ([.ref (g 3), .int x, .int y] : List Value).toArray s 0 0 A) (F0 m 2 ls []) := by
    intro fuel_lp_1
    induction fuel_lp_1 with
    | zero => intros; omega
    | succ fuel_lp_1 ih_lp_1 =>
      intro f H locs ls hm hr_f hi_lp_1_0 hi_lp_1_1 hl hH hS
      refine lv_iload_n hx hb dX5_skipBlanks_2 rfl (lv_at hl 0 rfl) ?_
      refine lv_iload_n hx hb dX5_skipBlanks_3 rfl (lv_at hl 3 rfl) ?_
      refine lv_icmp_ge (tgt := 26) hx hb dX5_skipBlanks_4 (by decide) (fun c_2 => ?_) (fun c_2 => ?_)
      · skip
        have h_3 := s_le (rfl : y.toInt = _) (rfl : f.toInt = _) c_2
        refine lv_iload_n hx hb dX5_skipBlanks_26 rfl (lv_at hl 0 rfl) ?_
        exact sj_zret hx hb hr hlocks rfl hS () ⟨⟨by omega, by omega⟩, ⟨by omega, by omega, hi_lp_1_1, fun h => by omega⟩⟩ hH (sj_Knil hK) (Nat.le_of_ble_eq_true rfl) (Nat.le_of_ble_eq_true rfl) dX5_skipBlanks_27
      · skip
        have h_4 := s_nle (rfl : y.toInt = _) (rfl : f.toInt = _) c_2
        refine lv_aload_n hx hb dX5_skipBlanks_7 rfl (lv_at hl 1 rfl) ?_
        refine h_getr (ci := 5) (C := RX5) (F := TX5) (N := 19) hx hb hts in5 hown hK hH (by decide) (rfl : kd 3 = 5) (by decide) rfl 0 (by decide) wd0 (fun _ h9 => h9) (by decide) rfl (t := 4) (hR 3 0 rfl) (by decide) dX5_skipBlanks_8 ?_
        refine lv_iload_n hx hb dX5_skipBlanks_11 rfl (lv_at hl 0 rfl) ?_
        refine x_calli (va_runV (As := [.int f]) (rest := []) ⟨hx, hb, hml, hown, hts⟩ (k_at_source l D g ka ad i r L d f hO hR H.size ) (cwV 1 hts gX5_skipBlanks_X3_at rfl rfl rfl (by decide +kernel) ⟨(Nat.le_of_ble_eq_true rfl), (Nat.le_of_ble_eq_true rfl)⟩) (x_preV (q := (RX3, TX3, 2)) hH hK (q_obj (by decide) (rfl : kd 4 = 3) (by decide)) rfl gxb (gxw hE hS (x_F hH hS hA))) rfl rfl hl.1 rfl (lv_room (Nat.le_of_ble_eq_true rfl)) dX5_skipBlanks_12 ⟨(Nat.le_of_ble_eq_true rfl), (Nat.le_of_ble_eq_true rfl)⟩) hH hS hA rfl rfl (fun r_5 _ H locs hw_6 hH hS => ?_)
        obtain ⟨hr_8, he_9⟩ := hw_6
        have hr_8 : (-1 : Int) ≤ r_5.toInt ∧ r_5.toInt ≤ 65535 := hr_8
        refine lv_bipush (v := 32) hx hb dX5_skipBlanks_15 (by decide) ?_
        refine lv_icmp_ne (tgt := 26) hx hb dX5_skipBlanks_17 (by decide) (fun c_10 => ?_) (fun c_10 => ?_)
        · skip
          have h_11 := s_ne (rfl : r_5.toInt = _) (show (32 : Int32).toInt = 32 from rfl) c_10
          refine lv_iload_n hx hb dX5_skipBlanks_26 rfl (lv_at hl 0 rfl) ?_
          exact sj_zret hx hb hr hlocks rfl hS () ⟨⟨by omega, by omega⟩, ⟨by omega, by omega, hi_lp_1_1, fun h => by omega⟩⟩ hH (sj_Knil hK) (Nat.le_of_ble_eq_true rfl) (Nat.le_of_ble_eq_true rfl) dX5_skipBlanks_27
        · skip
          have h_12 := s_eq (rfl : r_5.toInt = _) (show (32 : Int32).toInt = 32 from rfl) c_10
          obtain ⟨z_13, ez_13, hz_13⟩ := s_add (rfl : f.toInt = _) (show (1 : Int32).toInt = 1 from rfl) (by omega) (by omega)
          refine lv_iinc (v := z_13) (lv' := [(3, .int z_13), (0, .ref (g 3)), (1, .int x), (2, .int y)]) hx hb dX5_skipBlanks_20 hl (k := 0) rfl ez_13 (by decide) rfl (fun ls hl => ?_)
          refine lv_goto (tgt := 2) hx hb dX5_skipBlanks_23 (by decide) ?_
          exact ih_lp_1 z_13 _ _ ls (by omega) (by omega) (by omega) (fun k h1 h2 => by
          by_cases q : (k : Int) < f.toInt
          · exact hi_lp_1_1 k h1 q
          · rw [show k = (f.toInt).toNat by omega]; omega) (lv_sub hl [0, 1, 2, 3] rfl) hH hS
  exact lp_1 _ x _ _ ls (Nat.lt_succ_self _) (by omega) (by omega) (fun k h1 h2 => by exfalso; omega) (lv_sub hl [0, 1, 2, 3] rfl) hH hS
set_option maxHeartbeats 2000000 in
set_option maxRecDepth 100000 in
theorem k_drop (l : Launch) (D : va_G) (g : Nat → Nat) (ka : Nat → ClassId) (ad : Nat → Nat) (i : Nat → Nat → Int32) (r : Nat → Nat → Nat) (L : Nat → Nat → Int64) (d : Nat → Nat → UInt64) (x : Int32) (y : Int32) (hO : OkI i) (hR : RS r) (sz : Nat) (hx0 : 0 ≤ x.toInt) (hxy : x.toInt ≤ y.toInt) (hys : y.toInt ≤ (i 4 1).toInt) (hs4 : (i 4 1).toInt ≤ 480) : Met l yX5_dropBlanks wsX5_dropBlanks ({ frames := 1, cells := 0, slots := 0, locals := 21 }) (va_Pc [.ref (g 3), .int x, .int y] (sj_B D (hwc g ka i r L d) (hT ka) sz (gx ad (va_A (hwc g ka i r L d) sz)))) (sj_Qi (S := Unit) D (fun v u => ((0 : Int) ≤ v.toInt ∧ v.toInt ≤ 480) ∧ (drp (i 5) x.toInt y.toInt v.toInt)) (fun _ => hwc g ka i r L d) (fun _ => []) (va_A (hwc g ka i r L d) sz)) 0 0 (va_A (hwc g ka i r L d) sz) := by
  refine x_met (Ex := gx ad) (cc := cX5_dropBlanks) (maxL := 4) (ret := (some .int)) (by decide) rfl (Nat.le_of_ble_eq_true rfl) ?_
  intro p e s m below meth c A ls hx hb hr hml hts hown hlocks hA hS hH hK hE hl
  have hown : s.vm.findClass RX5 = some m.cls := hown
  have in5 : ∀ w ∈ wsX50, w ∈ wsX5_dropBlanks := (fun _ h => (List.mem_cons_of_mem _ (List.mem_append_left _ (List.mem_append_right _ h))))
  have wd0 := hts (.fieldLink RX5 16 "StoryDesk$Reading" "source" "LStoryDesk$Letters;") (List.mem_cons_of_mem _ (List.mem_append_left _ (List.mem_append_left _ lm0)))
  have hl : lv_has ls 4 [(0, .ref (g 3)), (1, .int x), (2, .int y)] := hl
  have hK : va_K D vwCl (hT ka) s := hK
  have hyy : y.toInt ≤ 480 := by omega
  refine lv_iload_n hx hb dX5_dropBlanks_0 rfl (lv_at hl 2 rfl) ?_
  refine lv_istore_n (lv' := [(3, .int y), (0, .ref (g 3)), (1, .int x), (2, .int y)]) hx hb dX5_dropBlanks_1 rfl hl (by decide) rfl (fun ls hl => ?_)
  -- loop at 2
  have lp_1 : ∀ (fuel_lp_1 : Nat) (f : Int32) (H : Heap) (locs : List Loc) (ls : Array Slot), (f.toInt).toNat < fuel_lp_1 → (0 : Int) ≤ f.toInt ∧ f.toInt ≤ 480 → x.toInt ≤ f.toInt ∧ f.toInt ≤ y.toInt → (∀ k : Nat, f.toInt ≤ (k : Int) → (k : Int) < y.toInt → (i 5 k).toInt = 32) → lv_has ls 4 [(3, .int f), (0, .ref (g 3)), (1, .int x), (2, .int y)] → sj_H D A (hwc g ka i r L d) H → va_S A s.heap H locs → W p l e (headSpec wsX5_dropBlanks ({ frames := 1, cells := 0, slots := 0, locals := 21 })).room s m ([.ref (g 3), .int x, .int y] : List Value).toArray below meth c H locs 0 0 (MQ below (sj_Qi (S := Unit) D (fun v u => ((0 : Int) ≤ v.toInt ∧ v.toInt ≤ 480) ∧ (drp (i 5) x.toInt y.toInt v.toInt)) (fun _ => hwc g ka i r L d) (fun _ => []) A) ([.ref (g 3), .int x, .int y] : List Value).toArray s 0 0 A) (F0 m 2 ls []) := by
    intro fuel_lp_1
    induction fuel_lp_1 with
    | zero => intros; omega
    | succ fuel_lp_1 ih_lp_1 =>
      intro f H locs ls hm hr_f hi_lp_1_0 hi_lp_1_1 hl hH hS
      refine lv_iload_n hx hb dX5_dropBlanks_2 rfl (lv_at hl 0 rfl) ?_
      refine lv_iload_n hx hb dX5_dropBlanks_3 rfl (lv_at hl 2 rfl) ?_
      refine lv_icmp_le (tgt := 28) hx hb dX5_dropBlanks_4 (by decide) (fun c_2 => ?_) (fun c_2 => ?_)
      · skip
        have h_3 := s_le (rfl : f.toInt = _) (rfl : x.toInt = _) c_2
        refine lv_iload_n hx hb dX5_dropBlanks_28 rfl (lv_at hl 0 rfl) ?_
        exact sj_zret hx hb hr hlocks rfl hS () ⟨⟨by omega, by omega⟩, ⟨by omega, by omega, hi_lp_1_1, fun h => by omega⟩⟩ hH (sj_Knil hK) (Nat.le_of_ble_eq_true rfl) (Nat.le_of_ble_eq_true rfl) dX5_dropBlanks_29
      · skip
        have h_4 := s_nle (rfl : f.toInt = _) (rfl : x.toInt = _) c_2
        refine lv_aload_n hx hb dX5_dropBlanks_7 rfl (lv_at hl 1 rfl) ?_
        refine h_getr (ci := 5) (C := RX5) (F := TX5) (N := 19) hx hb hts in5 hown hK hH (by decide) (rfl : kd 3 = 5) (by decide) rfl 0 (by decide) wd0 (fun _ h9 => h9) (by decide) rfl (t := 4) (hR 3 0 rfl) (by decide) dX5_dropBlanks_8 ?_
        refine lv_iload_n hx hb dX5_dropBlanks_11 rfl (lv_at hl 0 rfl) ?_
        refine lv_iconst (v := 1) hx hb dX5_dropBlanks_12 (by decide) ?_
        refine lv_isub hx hb dX5_dropBlanks_13 ?_
        obtain ⟨z_5, ez_5, hz_5⟩ := s_sub (rfl : f.toInt = _) (show (1 : Int32).toInt = 1 from rfl) (by omega) (by omega)
        refine sj_i ez_5 ?_
        refine x_calli (va_runV (As := [.int z_5]) (rest := []) ⟨hx, hb, hml, hown, hts⟩ (k_at_source l D g ka ad i r L d z_5 hO hR H.size ) (cwV 1 hts gX5_dropBlanks_X3_at rfl rfl rfl (by decide +kernel) ⟨(Nat.le_of_ble_eq_true rfl), (Nat.le_of_ble_eq_true rfl)⟩) (x_preV (q := (RX3, TX3, 2)) hH hK (q_obj (by decide) (rfl : kd 4 = 3) (by decide)) rfl gxb (gxw hE hS (x_F hH hS hA))) rfl rfl hl.1 rfl (lv_room (Nat.le_of_ble_eq_true rfl)) dX5_dropBlanks_14 ⟨(Nat.le_of_ble_eq_true rfl), (Nat.le_of_ble_eq_true rfl)⟩) hH hS hA rfl rfl (fun r_6 _ H locs hw_7 hH hS => ?_)
        obtain ⟨hr_9, he_10⟩ := hw_7
        have hr_9 : (-1 : Int) ≤ r_6.toInt ∧ r_6.toInt ≤ 65535 := hr_9
        rw [show z_5.toInt.toNat = (f.toInt - 1).toNat by omega] at he_10
        refine lv_bipush (v := 32) hx hb dX5_dropBlanks_17 (by decide) ?_
        refine lv_icmp_ne (tgt := 28) hx hb dX5_dropBlanks_19 (by decide) (fun c_11 => ?_) (fun c_11 => ?_)
        · skip
          have h_12 := s_ne (rfl : r_6.toInt = _) (show (32 : Int32).toInt = 32 from rfl) c_11
          refine lv_iload_n hx hb dX5_dropBlanks_28 rfl (lv_at hl 0 rfl) ?_
          exact sj_zret hx hb hr hlocks rfl hS () ⟨⟨by omega, by omega⟩, ⟨by omega, by omega, hi_lp_1_1, fun h => by omega⟩⟩ hH (sj_Knil hK) (Nat.le_of_ble_eq_true rfl) (Nat.le_of_ble_eq_true rfl) dX5_dropBlanks_29
        · skip
          have h_13 := s_eq (rfl : r_6.toInt = _) (show (32 : Int32).toInt = 32 from rfl) c_11
          obtain ⟨z_14, ez_14, hz_14⟩ := s_add (rfl : f.toInt = _) (show ((-1) : Int32).toInt = (-1) from rfl) (by omega) (by omega)
          refine lv_iinc (v := z_14) (lv' := [(3, .int z_14), (0, .ref (g 3)), (1, .int x), (2, .int y)]) hx hb dX5_dropBlanks_22 hl (k := 0) rfl ez_14 (by decide) rfl (fun ls hl => ?_)
          refine lv_goto (tgt := 2) hx hb dX5_dropBlanks_25 (by decide) ?_
          exact ih_lp_1 z_14 _ _ ls (by omega) (by omega) (by omega) (fun k h1 h2 => by
          by_cases q : f.toInt ≤ (k : Int)
          · exact hi_lp_1_1 k q h2
          · rw [show k = (f.toInt - 1).toNat by omega]; omega) (lv_sub hl [0, 1, 2, 3] rfl) hH hS
  exact lp_1 _ y _ _ ls (Nat.lt_succ_self _) (by omega) (by omega) (fun k h1 h2 => by exfalso; omega) (lv_sub hl [0, 1, 2, 3] rfl) hH hS
set_option maxHeartbeats 2000000 in
set_option maxRecDepth 100000 in
theorem m_begin_text (l : Launch) (D : va_G) (g : Nat → Nat) (ka : Nat → ClassId) (ad : Nat → Nat) (i : Nat → Nat → Int32) (r : Nat → Nat → Nat) (L : Nat → Nat → Int64) (d : Nat → Nat → UInt64) (x : Int32) (y : Int32) (hO : OkI i) (hR : RS r) (sz : Nat) (hx0 : 0 ≤ x.toInt) (hxy : x.toInt ≤ y.toInt) (hy8 : y.toInt ≤ 480) : Met l yX12_begin wsX12_begin ({ frames := 0, cells := 0, slots := 0, locals := 0 }) (va_Pc [.ref (g 379), .int x, .int y] (sj_B D (hwc g ka i r L d) (hT ka) sz (gx ad (va_A (hwc g ka i r L d) sz)))) (sj_Qi (S := Unit) D (fun v u => ((0 : Int) ≤ v.toInt ∧ v.toInt ≤ 480) ∧ (skp (i 379) x.toInt y.toInt v.toInt)) (fun _ => hwc g ka i r L d) (fun _ => []) (va_A (hwc g ka i r L d) sz)) 0 0 (va_A (hwc g ka i r L d) sz) := by
  refine x_met (Ex := gx ad) (cc := cX12_begin) (maxL := 4) (ret := (some .int)) (by decide) rfl (Nat.le_of_ble_eq_true rfl) ?_
  intro p e s m below meth c A ls hx hb hr hml hts hown hlocks hA hS hH hK hE hl
  have hown : s.vm.findClass RX12 = some m.cls := hown
  have hl : lv_has ls 4 [(0, .ref (g 379)), (1, .int x), (2, .int y)] := hl
  have hK : va_K D vwCl (hT ka) s := hK
  have hyy : y.toInt ≤ 480 := by omega
  refine lv_iload_n hx hb dX12_begin_0 rfl (lv_at hl 1 rfl) ?_
  refine lv_istore_n (lv' := [(3, .int x), (0, .ref (g 379)), (1, .int x), (2, .int y)]) hx hb dX12_begin_1 rfl hl (by decide) rfl (fun ls hl => ?_)
  -- loop at 2
  have lp_1 : ∀ (fuel_lp_1 : Nat) (f : Int32) (H : Heap) (locs : List Loc) (ls : Array Slot), (y.toInt - f.toInt).toNat < fuel_lp_1 → (0 : Int) ≤ f.toInt ∧ f.toInt ≤ 480 → x.toInt ≤ f.toInt ∧ f.toInt ≤ y.toInt → (∀ k : Nat, x.toInt ≤ (k : Int) → (k : Int) < f.toInt → (i 379 k).toInt = 32) → lv_has ls 4 [(3, .int f), (0, .ref (g 379)), (1, .int x), (2, .int y)] → sj_H D A (hwc g ka i r L d) H → va_S A s.heap H locs → W p l e (headSpec wsX12_begin ({ frames := 0, cells := 0, slots := 0, locals := 0 })).room s m ([.ref (g 379), .int x, .int y] : List Value).toArray below meth c H locs 0 0 (MQ below (sj_Qi (S := Unit) D (fun v u => ((0 : Int) ≤ v.toInt ∧ v.toInt ≤ 480) ∧ (skp (i 379) x.toInt y.toInt v.toInt)) (fun _ => hwc g ka i r L d) (fun _ => []) A) ([.ref (g 379), .int x, .int y] : List Value).toArray s 0 0 A) (F0 m 2 ls []) := by
    intro fuel_lp_1
    induction fuel_lp_1 with
    | zero => intros; omega
    | succ fuel_lp_1 ih_lp_1 =>
      intro f H locs ls hm hr_f hi_lp_1_0 hi_lp_1_1 hl hH hS
      refine lv_iload_n hx hb dX12_begin_2 rfl (lv_at hl 0 rfl) ?_
      refine lv_iload_n hx hb dX12_begin_3 rfl (lv_at hl 3 rfl) ?_
      refine lv_icmp_ge (tgt := 21) hx hb dX12_begin_4 (by decide) (fun c_2 => ?_) (fun c_2 => ?_)
      · skip
        have h_3 := s_le (rfl : y.toInt = _) (rfl : f.toInt = _) c_2
        refine lv_iload_n hx hb dX12_begin_21 rfl (lv_at hl 0 rfl) ?_
        exact sj_zret hx hb hr hlocks rfl hS () ⟨⟨by omega, by omega⟩, ⟨by omega, by omega, hi_lp_1_1, fun h => by omega⟩⟩ hH (sj_Knil hK) (Nat.le_of_ble_eq_true rfl) (Nat.le_of_ble_eq_true rfl) dX12_begin_22
      · skip
        have h_4 := s_nle (rfl : y.toInt = _) (rfl : f.toInt = _) c_2
        refine lv_aload_n hx hb dX12_begin_7 rfl (lv_at hl 1 rfl) ?_
        refine lv_iload_n hx hb dX12_begin_8 rfl (lv_at hl 0 rfl) ?_
        have bx_5 : (0 : Int) ≤ (i 379 (f.toInt).toNat).toInt ∧ (i 379 (f.toInt).toNat).toInt ≤ 65535 := hO 379 (f.toInt).toNat
        refine h_cald hx hb hK hH (by decide) (rfl : kd 379 = 14) (s_vin (N := 480) (rfl : f.toInt = _) (rfl : ln 379 = 480) (by omega) (by omega)) dX12_begin_9 ?_
        have ek_6 : f.toNatClampNeg = (f.toInt).toNat := (s_cl (show f.toInt = f.toInt by omega))
        refine sj_i (y := (i 379 (f.toInt).toNat)) (by rw [ek_6]) ?_
        refine lv_bipush (v := 32) hx hb dX12_begin_10 (by decide) ?_
        refine lv_icmp_ne (tgt := 21) hx hb dX12_begin_12 (by decide) (fun c_7 => ?_) (fun c_7 => ?_)
        · skip
          have h_8 := s_ne (rfl : (i 379 (f.toInt).toNat).toInt = _) (show (32 : Int32).toInt = 32 from rfl) c_7
          refine lv_iload_n hx hb dX12_begin_21 rfl (lv_at hl 0 rfl) ?_
          exact sj_zret hx hb hr hlocks rfl hS () ⟨⟨by omega, by omega⟩, ⟨by omega, by omega, hi_lp_1_1, fun h => by omega⟩⟩ hH (sj_Knil hK) (Nat.le_of_ble_eq_true rfl) (Nat.le_of_ble_eq_true rfl) dX12_begin_22
        · skip
          have h_9 := s_eq (rfl : (i 379 (f.toInt).toNat).toInt = _) (show (32 : Int32).toInt = 32 from rfl) c_7
          obtain ⟨z_10, ez_10, hz_10⟩ := s_add (rfl : f.toInt = _) (show (1 : Int32).toInt = 1 from rfl) (by omega) (by omega)
          refine lv_iinc (v := z_10) (lv' := [(3, .int z_10), (0, .ref (g 379)), (1, .int x), (2, .int y)]) hx hb dX12_begin_15 hl (k := 0) rfl ez_10 (by decide) rfl (fun ls hl => ?_)
          refine lv_goto (tgt := 2) hx hb dX12_begin_18 (by decide) ?_
          exact ih_lp_1 z_10 _ _ ls (by omega) (by omega) (by omega) (fun k h1 h2 => by
          by_cases q : (k : Int) < f.toInt
          · exact hi_lp_1_1 k h1 q
          · rw [show k = (f.toInt).toNat by omega]; omega) (lv_sub hl [0, 1, 2, 3] rfl) hH hS
  exact lp_1 _ x _ _ ls (Nat.lt_succ_self _) (by omega) (by omega) (fun k h1 h2 => by exfalso; omega) (lv_sub hl [0, 1, 2, 3] rfl) hH hS
set_option maxHeartbeats 2000000 in
set_option maxRecDepth 100000 in
theorem m_end_text (l : Launch) (D : va_G) (g : Nat → Nat) (ka : Nat → ClassId) (ad : Nat → Nat) (i : Nat → Nat → Int32) (r : Nat → Nat → Nat) (L : Nat → Nat → Int64) (d : Nat → Nat → UInt64) (x : Int32) (y : Int32) (hO : OkI i) (hR : RS r) (sz : Nat) (hx0 : 0 ≤ x.toInt) (hxy : x.toInt ≤ y.toInt) (hy8 : y.toInt ≤ 480) : Met l yX12_end wsX12_end ({ frames := 0, cells := 0, slots := 0, locals := 0 }) (va_Pc [.ref (g 379), .int x, .int y] (sj_B D (hwc g ka i r L d) (hT ka) sz (gx ad (va_A (hwc g ka i r L d) sz)))) (sj_Qi (S := Unit) D (fun v u => ((0 : Int) ≤ v.toInt ∧ v.toInt ≤ 480) ∧ (drp (i 379) x.toInt y.toInt v.toInt)) (fun _ => hwc g ka i r L d) (fun _ => []) (va_A (hwc g ka i r L d) sz)) 0 0 (va_A (hwc g ka i r L d) sz) := by
  refine x_met (Ex := gx ad) (cc := cX12_end) (maxL := 4) (ret := (some .int)) (by decide) rfl (Nat.le_of_ble_eq_true rfl) ?_
  intro p e s m below meth c A ls hx hb hr hml hts hown hlocks hA hS hH hK hE hl
  have hown : s.vm.findClass RX12 = some m.cls := hown
  have hl : lv_has ls 4 [(0, .ref (g 379)), (1, .int x), (2, .int y)] := hl
  have hK : va_K D vwCl (hT ka) s := hK
  have hyy : y.toInt ≤ 480 := by omega
  refine lv_iload_n hx hb dX12_end_0 rfl (lv_at hl 2 rfl) ?_
  refine lv_istore_n (lv' := [(3, .int y), (0, .ref (g 379)), (1, .int x), (2, .int y)]) hx hb dX12_end_1 rfl hl (by decide) rfl (fun ls hl => ?_)
  -- loop at 2
  have lp_1 : ∀ (fuel_lp_1 : Nat) (f : Int32) (H : Heap) (locs : List Loc) (ls : Array Slot), (f.toInt).toNat < fuel_lp_1 → (0 : Int) ≤ f.toInt ∧ f.toInt ≤ 480 → x.toInt ≤ f.toInt ∧ f.toInt ≤ y.toInt → (∀ k : Nat, f.toInt ≤ (k : Int) → (k : Int) < y.toInt → (i 379 k).toInt = 32) → lv_has ls 4 [(3, .int f), (0, .ref (g 379)), (1, .int x), (2, .int y)] → sj_H D A (hwc g ka i r L d) H → va_S A s.heap H locs → W p l e (headSpec wsX12_end ({ frames := 0, cells := 0, slots := 0, locals := 0 })).room s m ([.ref (g 379), .int x, .int y] : List Value).toArray below meth c H locs 0 0 (MQ below (sj_Qi (S := Unit) D (fun v u => ((0 : Int) ≤ v.toInt ∧ v.toInt ≤ 480) ∧ (drp (i 379) x.toInt y.toInt v.toInt)) (fun _ => hwc g ka i r L d) (fun _ => []) A) ([.ref (g 379), .int x, .int y] : List Value).toArray s 0 0 A) (F0 m 2 ls []) := by
    intro fuel_lp_1
    induction fuel_lp_1 with
    | zero => intros; omega
    | succ fuel_lp_1 ih_lp_1 =>
      intro f H locs ls hm hr_f hi_lp_1_0 hi_lp_1_1 hl hH hS
      refine lv_iload_n hx hb dX12_end_2 rfl (lv_at hl 0 rfl) ?_
      refine lv_iload_n hx hb dX12_end_3 rfl (lv_at hl 2 rfl) ?_
      refine lv_icmp_le (tgt := 23) hx hb dX12_end_4 (by decide) (fun c_2 => ?_) (fun c_2 => ?_)
      · skip
        have h_3 := s_le (rfl : f.toInt = _) (rfl : x.toInt = _) c_2
        refine lv_iload_n hx hb dX12_end_23 rfl (lv_at hl 0 rfl) ?_
        exact sj_zret hx hb hr hlocks rfl hS () ⟨⟨by omega, by omega⟩, ⟨by omega, by omega, hi_lp_1_1, fun h => by omega⟩⟩ hH (sj_Knil hK) (Nat.le_of_ble_eq_true rfl) (Nat.le_of_ble_eq_true rfl) dX12_end_24
      · skip
        have h_4 := s_nle (rfl : f.toInt = _) (rfl : x.toInt = _) c_2
        refine lv_aload_n hx hb dX12_end_7 rfl (lv_at hl 1 rfl) ?_
        refine lv_iload_n hx hb dX12_end_8 rfl (lv_at hl 0 rfl) ?_
        refine lv_iconst (v := 1) hx hb dX12_end_9 (by decide) ?_
        refine lv_isub hx hb dX12_end_10 ?_
        obtain ⟨z_5, ez_5, hz_5⟩ := s_sub (rfl : f.toInt = _) (show (1 : Int32).toInt = 1 from rfl) (by omega) (by omega)
        refine sj_i ez_5 ?_
        have bx_6 : (0 : Int) ≤ (i 379 (f.toInt - 1).toNat).toInt ∧ (i 379 (f.toInt - 1).toNat).toInt ≤ 65535 := hO 379 (f.toInt - 1).toNat
        refine h_cald hx hb hK hH (by decide) (rfl : kd 379 = 14) (s_vin (N := 480) (rfl : z_5.toInt = _) (rfl : ln 379 = 480) (by omega) (by omega)) dX12_end_11 ?_
        have ek_7 : z_5.toNatClampNeg = (f.toInt - 1).toNat := (s_cl (show z_5.toInt = f.toInt - 1 by omega))
        refine sj_i (y := (i 379 (f.toInt - 1).toNat)) (by rw [ek_7]) ?_
        refine lv_bipush (v := 32) hx hb dX12_end_12 (by decide) ?_
        refine lv_icmp_ne (tgt := 23) hx hb dX12_end_14 (by decide) (fun c_8 => ?_) (fun c_8 => ?_)
        · skip
          have h_9 := s_ne (rfl : (i 379 (f.toInt - 1).toNat).toInt = _) (show (32 : Int32).toInt = 32 from rfl) c_8
          refine lv_iload_n hx hb dX12_end_23 rfl (lv_at hl 0 rfl) ?_
          exact sj_zret hx hb hr hlocks rfl hS () ⟨⟨by omega, by omega⟩, ⟨by omega, by omega, hi_lp_1_1, fun h => by omega⟩⟩ hH (sj_Knil hK) (Nat.le_of_ble_eq_true rfl) (Nat.le_of_ble_eq_true rfl) dX12_end_24
        · skip
          have h_10 := s_eq (rfl : (i 379 (f.toInt - 1).toNat).toInt = _) (show (32 : Int32).toInt = 32 from rfl) c_8
          obtain ⟨z_11, ez_11, hz_11⟩ := s_add (rfl : f.toInt = _) (show ((-1) : Int32).toInt = (-1) from rfl) (by omega) (by omega)
          refine lv_iinc (v := z_11) (lv' := [(3, .int z_11), (0, .ref (g 379)), (1, .int x), (2, .int y)]) hx hb dX12_end_17 hl (k := 0) rfl ez_11 (by decide) rfl (fun ls hl => ?_)
          refine lv_goto (tgt := 2) hx hb dX12_end_20 (by decide) ?_
          exact ih_lp_1 z_11 _ _ ls (by omega) (by omega) (by omega) (fun k h1 h2 => by
          by_cases q : f.toInt ≤ (k : Int)
          · exact hi_lp_1_1 k q h2
          · rw [show k = (f.toInt - 1).toNat by omega]; omega) (lv_sub hl [0, 1, 2, 3] rfl) hH hS
  exact lp_1 _ y _ _ ls (Nat.lt_succ_self _) (by omega) (by omega) (fun k h1 h2 => by exfalso; omega) (lv_sub hl [0, 1, 2, 3] rfl) hH hS
set_option maxHeartbeats 2000000 in
set_option maxRecDepth 100000 in
theorem m_begin_line (l : Launch) (D : va_G) (g : Nat → Nat) (ka : Nat → ClassId) (ad : Nat → Nat) (i : Nat → Nat → Int32) (r : Nat → Nat → Nat) (L : Nat → Nat → Int64) (d : Nat → Nat → UInt64) (x : Int32) (y : Int32) (hO : OkI i) (hR : RS r) (sz : Nat) (hx0 : 0 ≤ x.toInt) (hxy : x.toInt ≤ y.toInt) (hy8 : y.toInt ≤ 480) : Met l yX12_begin wsX12_begin ({ frames := 0, cells := 0, slots := 0, locals := 0 }) (va_Pc [.ref (g 380), .int x, .int y] (sj_B D (hwc g ka i r L d) (hT ka) sz (gx ad (va_A (hwc g ka i r L d) sz)))) (sj_Qi (S := Unit) D (fun v u => ((0 : Int) ≤ v.toInt ∧ v.toInt ≤ 480) ∧ (skp (i 380) x.toInt y.toInt v.toInt)) (fun _ => hwc g ka i r L d) (fun _ => []) (va_A (hwc g ka i r L d) sz)) 0 0 (va_A (hwc g ka i r L d) sz) := by
  refine x_met (Ex := gx ad) (cc := cX12_begin) (maxL := 4) (ret := (some .int)) (by decide) rfl (Nat.le_of_ble_eq_true rfl) ?_
  intro p e s m below meth c A ls hx hb hr hml hts hown hlocks hA hS hH hK hE hl
  have hown : s.vm.findClass RX12 = some m.cls := hown
  have hl : lv_has ls 4 [(0, .ref (g 380)), (1, .int x), (2, .int y)] := hl
  have hK : va_K D vwCl (hT ka) s := hK
  have hyy : y.toInt ≤ 480 := by omega
  refine lv_iload_n hx hb dX12_begin_0 rfl (lv_at hl 1 rfl) ?_
  refine lv_istore_n (lv' := [(3, .int x), (0, .ref (g 380)), (1, .int x), (2, .int y)]) hx hb dX12_begin_1 rfl hl (by decide) rfl (fun ls hl => ?_)
  -- loop at 2
  have lp_1 : ∀ (fuel_lp_1 : Nat) (f : Int32) (H : Heap) (locs : List Loc) (ls : Array Slot), (y.toInt - f.toInt).toNat < fuel_lp_1 → (0 : Int) ≤ f.toInt ∧ f.toInt ≤ 480 → x.toInt ≤ f.toInt ∧ f.toInt ≤ y.toInt → (∀ k : Nat, x.toInt ≤ (k : Int) → (k : Int) < f.toInt → (i 380 k).toInt = 32) → lv_has ls 4 [(3, .int f), (0, .ref (g 380)), (1, .int x), (2, .int y)] → sj_H D A (hwc g ka i r L d) H → va_S A s.heap H locs → W p l e (headSpec wsX12_begin ({ frames := 0, cells := 0, slots := 0, locals := 0 })).room s m ([.ref (g 380), .int x, .int y] : List Value).toArray below meth c H locs 0 0 (MQ below (sj_Qi (S := Unit) D (fun v u => ((0 : Int) ≤ v.toInt ∧ v.toInt ≤ 480) ∧ (skp (i 380) x.toInt y.toInt v.toInt)) (fun _ => hwc g ka i r L d) (fun _ => []) A) ([.ref (g 380), .int x, .int y] : List Value).toArray s 0 0 A) (F0 m 2 ls []) := by
    intro fuel_lp_1
    induction fuel_lp_1 with
    | zero => intros; omega
    | succ fuel_lp_1 ih_lp_1 =>
      intro f H locs ls hm hr_f hi_lp_1_0 hi_lp_1_1 hl hH hS
      refine lv_iload_n hx hb dX12_begin_2 rfl (lv_at hl 0 rfl) ?_
      refine lv_iload_n hx hb dX12_begin_3 rfl (lv_at hl 3 rfl) ?_
      refine lv_icmp_ge (tgt := 21) hx hb dX12_begin_4 (by decide) (fun c_2 => ?_) (fun c_2 => ?_)
      · skip
        have h_3 := s_le (rfl : y.toInt = _) (rfl : f.toInt = _) c_2
        refine lv_iload_n hx hb dX12_begin_21 rfl (lv_at hl 0 rfl) ?_
        exact sj_zret hx hb hr hlocks rfl hS () ⟨⟨by omega, by omega⟩, ⟨by omega, by omega, hi_lp_1_1, fun h => by omega⟩⟩ hH (sj_Knil hK) (Nat.le_of_ble_eq_true rfl) (Nat.le_of_ble_eq_true rfl) dX12_begin_22
      · skip
        have h_4 := s_nle (rfl : y.toInt = _) (rfl : f.toInt = _) c_2
        refine lv_aload_n hx hb dX12_begin_7 rfl (lv_at hl 1 rfl) ?_
        refine lv_iload_n hx hb dX12_begin_8 rfl (lv_at hl 0 rfl) ?_
        have bx_5 : (0 : Int) ≤ (i 380 (f.toInt).toNat).toInt ∧ (i 380 (f.toInt).toNat).toInt ≤ 65535 := hO 380 (f.toInt).toNat
        refine h_cald hx hb hK hH (by decide) (rfl : kd 380 = 14) (s_vin (N := 480) (rfl : f.toInt = _) (rfl : ln 380 = 480) (by omega) (by omega)) dX12_begin_9 ?_
        have ek_6 : f.toNatClampNeg = (f.toInt).toNat := (s_cl (show f.toInt = f.toInt by omega))
        refine sj_i (y := (i 380 (f.toInt).toNat)) (by rw [ek_6]) ?_
        refine lv_bipush (v := 32) hx hb dX12_begin_10 (by decide) ?_
        refine lv_icmp_ne (tgt := 21) hx hb dX12_begin_12 (by decide) (fun c_7 => ?_) (fun c_7 => ?_)
        · skip
          have h_8 := s_ne (rfl : (i 380 (f.toInt).toNat).toInt = _) (show (32 : Int32).toInt = 32 from rfl) c_7
          refine lv_iload_n hx hb dX12_begin_21 rfl (lv_at hl 0 rfl) ?_
          exact sj_zret hx hb hr hlocks rfl hS () ⟨⟨by omega, by omega⟩, ⟨by omega, by omega, hi_lp_1_1, fun h => by omega⟩⟩ hH (sj_Knil hK) (Nat.le_of_ble_eq_true rfl) (Nat.le_of_ble_eq_true rfl) dX12_begin_22
        · skip
          have h_9 := s_eq (rfl : (i 380 (f.toInt).toNat).toInt = _) (show (32 : Int32).toInt = 32 from rfl) c_7
          obtain ⟨z_10, ez_10, hz_10⟩ := s_add (rfl : f.toInt = _) (show (1 : Int32).toInt = 1 from rfl) (by omega) (by omega)
          refine lv_iinc (v := z_10) (lv' := [(3, .int z_10), (0, .ref (g 380)), (1, .int x), (2, .int y)]) hx hb dX12_begin_15 hl (k := 0) rfl ez_10 (by decide) rfl (fun ls hl => ?_)
          refine lv_goto (tgt := 2) hx hb dX12_begin_18 (by decide) ?_
          exact ih_lp_1 z_10 _ _ ls (by omega) (by omega) (by omega) (fun k h1 h2 => by
          by_cases q : (k : Int) < f.toInt
          · exact hi_lp_1_1 k h1 q
          · rw [show k = (f.toInt).toNat by omega]; omega) (lv_sub hl [0, 1, 2, 3] rfl) hH hS
  exact lp_1 _ x _ _ ls (Nat.lt_succ_self _) (by omega) (by omega) (fun k h1 h2 => by exfalso; omega) (lv_sub hl [0, 1, 2, 3] rfl) hH hS
set_option maxHeartbeats 2000000 in
set_option maxRecDepth 100000 in
theorem m_end_line (l : Launch) (D : va_G) (g : Nat → Nat) (ka : Nat → ClassId) (ad : Nat → Nat) (i : Nat → Nat → Int32) (r : Nat → Nat → Nat) (L : Nat → Nat → Int64) (d : Nat → Nat → UInt64) (x : Int32) (y : Int32) (hO : OkI i) (hR : RS r) (sz : Nat) (hx0 : 0 ≤ x.toInt) (hxy : x.toInt ≤ y.toInt) (hy8 : y.toInt ≤ 480) : Met l yX12_end wsX12_end ({ frames := 0, cells := 0, slots := 0, locals := 0 }) (va_Pc [.ref (g 380), .int x, .int y] (sj_B D (hwc g ka i r L d) (hT ka) sz (gx ad (va_A (hwc g ka i r L d) sz)))) (sj_Qi (S := Unit) D (fun v u => ((0 : Int) ≤ v.toInt ∧ v.toInt ≤ 480) ∧ (drp (i 380) x.toInt y.toInt v.toInt)) (fun _ => hwc g ka i r L d) (fun _ => []) (va_A (hwc g ka i r L d) sz)) 0 0 (va_A (hwc g ka i r L d) sz) := by
  refine x_met (Ex := gx ad) (cc := cX12_end) (maxL := 4) (ret := (some .int)) (by decide) rfl (Nat.le_of_ble_eq_true rfl) ?_
  intro p e s m below meth c A ls hx hb hr hml hts hown hlocks hA hS hH hK hE hl
  have hown : s.vm.findClass RX12 = some m.cls := hown
  have hl : lv_has ls 4 [(0, .ref (g 380)), (1, .int x), (2, .int y)] := hl
  have hK : va_K D vwCl (hT ka) s := hK
  have hyy : y.toInt ≤ 480 := by omega
  refine lv_iload_n hx hb dX12_end_0 rfl (lv_at hl 2 rfl) ?_
  refine lv_istore_n (lv' := [(3, .int y), (0, .ref (g 380)), (1, .int x), (2, .int y)]) hx hb dX12_end_1 rfl hl (by decide) rfl (fun ls hl => ?_)
  -- loop at 2
  have lp_1 : ∀ (fuel_lp_1 : Nat) (f : Int32) (H : Heap) (locs : List Loc) (ls : Array Slot), (f.toInt).toNat < fuel_lp_1 → (0 : Int) ≤ f.toInt ∧ f.toInt ≤ 480 → x.toInt ≤ f.toInt ∧ f.toInt ≤ y.toInt → (∀ k : Nat, f.toInt ≤ (k : Int) → (k : Int) < y.toInt → (i 380 k).toInt = 32) → lv_has ls 4 [(3, .int f), (0, .ref (g 380)), (1, .int x), (2, .int y)] → sj_H D A (hwc g ka i r L d) H → va_S A s.heap H locs → W p l e (headSpec wsX12_end ({ frames := 0, cells := 0, slots := 0, locals := 0 })).room s m ([.ref (g 380), .int x, .int y] : List Value).toArray below meth c H locs 0 0 (MQ below (sj_Qi (S := Unit) D (fun v u => ((0 : Int) ≤ v.toInt ∧ v.toInt ≤ 480) ∧ (drp (i 380) x.toInt y.toInt v.toInt)) (fun _ => hwc g ka i r L d) (fun _ => []) A) ([.ref (g 380), .int x, .int y] : List Value).toArray s 0 0 A) (F0 m 2 ls []) := by
    intro fuel_lp_1
    induction fuel_lp_1 with
    | zero => intros; omega
    | succ fuel_lp_1 ih_lp_1 =>
      intro f H locs ls hm hr_f hi_lp_1_0 hi_lp_1_1 hl hH hS
      refine lv_iload_n hx hb dX12_end_2 rfl (lv_at hl 0 rfl) ?_
      refine lv_iload_n hx hb dX12_end_3 rfl (lv_at hl 2 rfl) ?_
      refine lv_icmp_le (tgt := 23) hx hb dX12_end_4 (by decide) (fun c_2 => ?_) (fun c_2 => ?_)
      · skip
        have h_3 := s_le (rfl : f.toInt = _) (rfl : x.toInt = _) c_2
        refine lv_iload_n hx hb dX12_end_23 rfl (lv_at hl 0 rfl) ?_
        exact sj_zret hx hb hr hlocks rfl hS () ⟨⟨by omega, by omega⟩, ⟨by omega, by omega, hi_lp_1_1, fun h => by omega⟩⟩ hH (sj_Knil hK) (Nat.le_of_ble_eq_true rfl) (Nat.le_of_ble_eq_true rfl) dX12_end_24
      · skip
        have h_4 := s_nle (rfl : f.toInt = _) (rfl : x.toInt = _) c_2
        refine lv_aload_n hx hb dX12_end_7 rfl (lv_at hl 1 rfl) ?_
        refine lv_iload_n hx hb dX12_end_8 rfl (lv_at hl 0 rfl) ?_
        refine lv_iconst (v := 1) hx hb dX12_end_9 (by decide) ?_
        refine lv_isub hx hb dX12_end_10 ?_
        obtain ⟨z_5, ez_5, hz_5⟩ := s_sub (rfl : f.toInt = _) (show (1 : Int32).toInt = 1 from rfl) (by omega) (by omega)
        refine sj_i ez_5 ?_
        have bx_6 : (0 : Int) ≤ (i 380 (f.toInt - 1).toNat).toInt ∧ (i 380 (f.toInt - 1).toNat).toInt ≤ 65535 := hO 380 (f.toInt - 1).toNat
        refine h_cald hx hb hK hH (by decide) (rfl : kd 380 = 14) (s_vin (N := 480) (rfl : z_5.toInt = _) (rfl : ln 380 = 480) (by omega) (by omega)) dX12_end_11 ?_
        have ek_7 : z_5.toNatClampNeg = (f.toInt - 1).toNat := (s_cl (show z_5.toInt = f.toInt - 1 by omega))
        refine sj_i (y := (i 380 (f.toInt - 1).toNat)) (by rw [ek_7]) ?_
        refine lv_bipush (v := 32) hx hb dX12_end_12 (by decide) ?_
        refine lv_icmp_ne (tgt := 23) hx hb dX12_end_14 (by decide) (fun c_8 => ?_) (fun c_8 => ?_)
        · skip
          have h_9 := s_ne (rfl : (i 380 (f.toInt - 1).toNat).toInt = _) (show (32 : Int32).toInt = 32 from rfl) c_8
          refine lv_iload_n hx hb dX12_end_23 rfl (lv_at hl 0 rfl) ?_
          exact sj_zret hx hb hr hlocks rfl hS () ⟨⟨by omega, by omega⟩, ⟨by omega, by omega, hi_lp_1_1, fun h => by omega⟩⟩ hH (sj_Knil hK) (Nat.le_of_ble_eq_true rfl) (Nat.le_of_ble_eq_true rfl) dX12_end_24
        · skip
          have h_10 := s_eq (rfl : (i 380 (f.toInt - 1).toNat).toInt = _) (show (32 : Int32).toInt = 32 from rfl) c_8
          obtain ⟨z_11, ez_11, hz_11⟩ := s_add (rfl : f.toInt = _) (show ((-1) : Int32).toInt = (-1) from rfl) (by omega) (by omega)
          refine lv_iinc (v := z_11) (lv' := [(3, .int z_11), (0, .ref (g 380)), (1, .int x), (2, .int y)]) hx hb dX12_end_17 hl (k := 0) rfl ez_11 (by decide) rfl (fun ls hl => ?_)
          refine lv_goto (tgt := 2) hx hb dX12_end_20 (by decide) ?_
          exact ih_lp_1 z_11 _ _ ls (by omega) (by omega) (by omega) (fun k h1 h2 => by
          by_cases q : f.toInt ≤ (k : Int)
          · exact hi_lp_1_1 k q h2
          · rw [show k = (f.toInt - 1).toNat by omega]; omega) (lv_sub hl [0, 1, 2, 3] rfl) hH hS
  exact lp_1 _ y _ _ ls (Nat.lt_succ_self _) (by omega) (by omega) (fun k h1 h2 => by exfalso; omega) (lv_sub hl [0, 1, 2, 3] rfl) hH hS
