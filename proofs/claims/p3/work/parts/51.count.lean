/-- how many of the first n are w -/
def cnt (f : Nat → Int32) (w : Int) : Nat → Nat
  | 0 => 0
  | n + 1 => cnt f w n + (if (f n).toInt = w then 1 else 0)
theorem cnt_or (f : Nat → Int32) (w : Int) (n : Nat) : ((f n).toInt = w ∧ cnt f w (n + 1) = cnt f w n + 1) ∨ ((f n).toInt ≠ w ∧ cnt f w (n + 1) = cnt f w n) := by
  by_cases h : (f n).toInt = w
  · refine Or.inl ⟨h, ?_⟩
    show cnt f w n + (if (f n).toInt = w then 1 else 0) = _
    rw [if_pos h]
  · refine Or.inr ⟨h, ?_⟩
    show cnt f w n + (if (f n).toInt = w then 1 else 0) = _
    rw [if_neg h]; rfl
theorem cnt_le (f : Nat → Int32) (w : Int) : ∀ n : Nat, cnt f w n ≤ n
  | 0 => Nat.le_refl _
  | n + 1 => by have := cnt_le f w n; have := cnt_or f w n; omega
theorem cnt_up (f : Nat → Int32) (w : Int) {a : Nat} : ∀ {b : Nat}, a ≤ b → cnt f w a ≤ cnt f w b := by
  intro b h
  induction h with
  | refl => exact Nat.le_refl _
  | step _ ih => exact Nat.le_trans ih (Nat.le_add_right _ _)
theorem cnt_two (f : Nat → Int32) {w v : Int} (h : w ≠ v) : ∀ n : Nat, cnt f w n + cnt f v n ≤ n
  | 0 => Nat.le_refl _
  | n + 1 => by have := cnt_two f h n; have := cnt_or f w n; have := cnt_or f v n; omega
theorem cnt_three (f : Nat → Int32) {w v u : Int} (h : w ≠ v) (h2 : w ≠ u) (h3 : v ≠ u) : ∀ n : Nat, cnt f w n + cnt f v n + cnt f u n ≤ n
  | 0 => Nat.le_refl _
  | n + 1 => by have := cnt_three f h h2 h3 n; have := cnt_or f w n; have := cnt_or f v n; have := cnt_or f u n; omega
theorem dX12_count_0 : decode cX12_count 0 = .ok (.iconst 0, 1) := by decide +kernel
theorem dX12_count_1 : decode cX12_count 1 = .ok (.istore_n 3, 1) := by decide +kernel
theorem dX12_count_2 : decode cX12_count 2 = .ok (.iconst 0, 1) := by decide +kernel
theorem dX12_count_3 : decode cX12_count 3 = .ok (.istore 4, 2) := by decide +kernel
theorem dX12_count_5 : decode cX12_count 5 = .ok (.iload 4, 2) := by decide +kernel
theorem dX12_count_7 : decode cX12_count 7 = .ok (.iload_n 1, 1) := by decide +kernel
theorem dX12_count_8 : decode cX12_count 8 = .ok (.if_icmp .ge 25, 3) := by decide +kernel
theorem dX12_count_33 : decode cX12_count 33 = .ok (.iload_n 3, 1) := by decide +kernel
theorem dX12_count_34 : decode cX12_count 34 = .ok (.ireturn, 1) := by decide +kernel
theorem dX12_count_11 : decode cX12_count 11 = .ok (.iload_n 3, 1) := by decide +kernel
theorem dX12_count_12 : decode cX12_count 12 = .ok (.aload_n 0, 1) := by decide +kernel
theorem dX12_count_13 : decode cX12_count 13 = .ok (.iload 4, 2) := by decide +kernel
theorem dX12_count_15 : decode cX12_count 15 = .ok (.iaload, 1) := by decide +kernel
theorem dX12_count_16 : decode cX12_count 16 = .ok (.iload_n 2, 1) := by decide +kernel
theorem dX12_count_17 : decode cX12_count 17 = .ok (.if_icmp .ne 7, 3) := by decide +kernel
theorem dX12_count_24 : decode cX12_count 24 = .ok (.iconst 0, 1) := by decide +kernel
theorem dX12_count_25 : decode cX12_count 25 = .ok (.iadd, 1) := by decide +kernel
theorem dX12_count_26 : decode cX12_count 26 = .ok (.istore_n 3, 1) := by decide +kernel
theorem dX12_count_27 : decode cX12_count 27 = .ok (.iinc 4 1, 3) := by decide +kernel
theorem dX12_count_30 : decode cX12_count 30 = .ok (.goto (-25), 3) := by decide +kernel
theorem dX12_count_20 : decode cX12_count 20 = .ok (.iconst 1, 1) := by decide +kernel
theorem dX12_count_21 : decode cX12_count 21 = .ok (.goto 4, 3) := by decide +kernel
theorem dX12_find_0 : decode cX12_find 0 = .ok (.iconst 0, 1) := by decide +kernel
theorem dX12_find_1 : decode cX12_find 1 = .ok (.istore 4, 2) := by decide +kernel
theorem dX12_find_3 : decode cX12_find 3 = .ok (.iconst 0, 1) := by decide +kernel
theorem dX12_find_4 : decode cX12_find 4 = .ok (.istore 5, 2) := by decide +kernel
theorem dX12_find_6 : decode cX12_find 6 = .ok (.iload 5, 2) := by decide +kernel
theorem dX12_find_8 : decode cX12_find 8 = .ok (.iload_n 1, 1) := by decide +kernel
theorem dX12_find_9 : decode cX12_find 9 = .ok (.if_icmp .ge 44, 3) := by decide +kernel
theorem dX12_find_53 : decode cX12_find 53 = .ok (.iconst (-1), 1) := by decide +kernel
theorem dX12_find_54 : decode cX12_find 54 = .ok (.ireturn, 1) := by decide +kernel
theorem dX12_find_12 : decode cX12_find 12 = .ok (.aload_n 0, 1) := by decide +kernel
theorem dX12_find_13 : decode cX12_find 13 = .ok (.iload 5, 2) := by decide +kernel
theorem dX12_find_15 : decode cX12_find 15 = .ok (.iaload, 1) := by decide +kernel
theorem dX12_find_16 : decode cX12_find 16 = .ok (.iload_n 2, 1) := by decide +kernel
theorem dX12_find_17 : decode cX12_find 17 = .ok (.if_icmp .ne 12, 3) := by decide +kernel
theorem dX12_find_29 : decode cX12_find 29 = .ok (.iload 4, 2) := by decide +kernel
theorem dX12_find_31 : decode cX12_find 31 = .ok (.aload_n 0, 1) := by decide +kernel
theorem dX12_find_32 : decode cX12_find 32 = .ok (.iload 5, 2) := by decide +kernel
theorem dX12_find_34 : decode cX12_find 34 = .ok (.iaload, 1) := by decide +kernel
theorem dX12_find_35 : decode cX12_find 35 = .ok (.iload_n 2, 1) := by decide +kernel
theorem dX12_find_36 : decode cX12_find 36 = .ok (.if_icmp .ne 7, 3) := by decide +kernel
theorem dX12_find_43 : decode cX12_find 43 = .ok (.iconst 0, 1) := by decide +kernel
theorem dX12_find_44 : decode cX12_find 44 = .ok (.iadd, 1) := by decide +kernel
theorem dX12_find_45 : decode cX12_find 45 = .ok (.istore 4, 2) := by decide +kernel
theorem dX12_find_47 : decode cX12_find 47 = .ok (.iinc 5 1, 3) := by decide +kernel
theorem dX12_find_50 : decode cX12_find 50 = .ok (.goto (-44), 3) := by decide +kernel
theorem dX12_find_39 : decode cX12_find 39 = .ok (.iconst 1, 1) := by decide +kernel
theorem dX12_find_40 : decode cX12_find 40 = .ok (.goto 4, 3) := by decide +kernel
theorem dX12_find_20 : decode cX12_find 20 = .ok (.iload 4, 2) := by decide +kernel
theorem dX12_find_22 : decode cX12_find 22 = .ok (.iload_n 3, 1) := by decide +kernel
theorem dX12_find_23 : decode cX12_find 23 = .ok (.if_icmp .ne 6, 3) := by decide +kernel
theorem dX12_find_26 : decode cX12_find 26 = .ok (.iload 5, 2) := by decide +kernel
theorem dX12_find_28 : decode cX12_find 28 = .ok (.ireturn, 1) := by decide +kernel
set_option maxHeartbeats 2000000 in
set_option maxRecDepth 100000 in
theorem m_count_steps (l : Launch) (D : va_G) (g : Nat → Nat) (ka : Nat → ClassId) (ad : Nat → Nat) (i : Nat → Nat → Int32) (r : Nat → Nat → Nat) (L : Nat → Nat → Int64) (d : Nat → Nat → UInt64) (x : Int32) (y : Int32) (hO : OkI i) (hR : RS r) (sz : Nat) (hx0 : 0 ≤ x.toInt) (hx1 : x.toInt ≤ 30) : Met l yX12_count wsX12_count ({ frames := 0, cells := 0, slots := 0, locals := 0 }) (va_Pc [.ref (g 386), .int x, .int y] (sj_B D (hwc g ka i r L d) (hT ka) sz (gx ad (va_A (hwc g ka i r L d) sz)))) (sj_Qi (S := Unit) D (fun v u => ((0 : Int) ≤ v.toInt ∧ v.toInt ≤ 30) ∧ (v.toInt = (cnt (i 386) y.toInt x.toInt.toNat : Int))) (fun _ => hwc g ka i r L d) (fun _ => []) (va_A (hwc g ka i r L d) sz)) 0 0 (va_A (hwc g ka i r L d) sz) := by
  refine x_met (Ex := gx ad) (cc := cX12_count) (maxL := 5) (ret := (some .int)) (by decide) rfl (Nat.le_of_ble_eq_true rfl) ?_
  intro p e s m below meth c A ls hx hb hr hml hts hown hlocks hA hS hH hK hE hl
  have hown : s.vm.findClass RX12 = some m.cls := hown
  have hl : lv_has ls 5 [(0, .ref (g 386)), (1, .int x), (2, .int y)] := hl
  have hK : va_K D vwCl (hT ka) s := hK
  have hg_1 := s_rng y
  refine lv_iconst (v := 0) hx hb dX12_count_0 (by decide) ?_
  refine lv_istore_n (lv' := [(3, .int 0), (0, .ref (g 386)), (1, .int x), (2, .int y)]) hx hb dX12_count_1 rfl hl (by decide) rfl (fun ls hl => ?_)
  refine lv_iconst (v := 0) hx hb dX12_count_2 (by decide) ?_
  refine lv_istore (lv' := [(4, .int 0), (3, .int 0), (0, .ref (g 386)), (1, .int x), (2, .int y)]) hx hb dX12_count_3 hl (by decide) rfl (fun ls hl => ?_)
  -- loop at 5
  have lp_2 : ∀ (fuel_lp_2 : Nat) (t : Int32) (f : Int32) (H : Heap) (locs : List Loc) (ls : Array Slot), (30 - f.toInt).toNat < fuel_lp_2 → (0 : Int) ≤ t.toInt ∧ t.toInt ≤ 30 → (0 : Int) ≤ f.toInt ∧ f.toInt ≤ 30 → t.toInt ≤ f.toInt ∧ f.toInt ≤ x.toInt → t.toInt = (cnt (i 386) y.toInt (f.toInt).toNat : Int) → lv_has ls 5 [(4, .int f), (3, .int t), (0, .ref (g 386)), (1, .int x), (2, .int y)] → sj_H D A (hwc g ka i r L d) H → va_S A s.heap H locs → W p l e (headSpec wsX12_count ({ frames := 0, cells := 0, slots := 0, locals := 0 })).room s m ([.ref (g 386), .int x, .int y] : List Value).toArray below meth c H locs 0 0 (MQ below (sj_Qi (S := Unit) D (fun v u => ((0 : Int) ≤ v.toInt ∧ v.toInt ≤ 30) ∧ (v.toInt = (cnt (i 386) y.toInt x.toInt.toNat : Int))) (fun _ => hwc g ka i r L d) (fun _ => []) A) ([.ref (g 386), .int x, .int y] : List Value).toArray s 0 0 A) (F0 m 5 ls []) := by
    intro fuel_lp_2
    induction fuel_lp_2 with
    | zero => intros; omega
    | succ fuel_lp_2 ih_lp_2 =>
      intro t f H locs ls hm hr_t hr_f hi_lp_2_0 hi_lp_2_1 hl hH hS
      refine lv_iload hx hb dX12_count_5 (lv_at hl 0 rfl) ?_
      refine lv_iload_n hx hb dX12_count_7 rfl (lv_at hl 3 rfl) ?_
      refine lv_icmp_ge (tgt := 33) hx hb dX12_count_8 (by decide) (fun c_3 => ?_) (fun c_3 => ?_)
      · skip
        have h_4 := s_le (rfl : x.toInt = _) (rfl : f.toInt = _) c_3
        refine lv_iload_n hx hb dX12_count_33 rfl (lv_at hl 1 rfl) ?_
        exact sj_zret hx hb hr hlocks rfl hS () ⟨⟨by omega, by omega⟩, (by rw [show x.toInt.toNat = (f.toInt).toNat by omega]; omega)⟩ hH (sj_Knil hK) (Nat.le_of_ble_eq_true rfl) (Nat.le_of_ble_eq_true rfl) dX12_count_34
      · skip
        have h_5 := s_nle (rfl : x.toInt = _) (rfl : f.toInt = _) c_3
        refine lv_iload_n hx hb dX12_count_11 rfl (lv_at hl 1 rfl) ?_
        refine lv_aload_n hx hb dX12_count_12 rfl (lv_at hl 2 rfl) ?_
        refine lv_iload hx hb dX12_count_13 (lv_at hl 0 rfl) ?_
        have hc_6 := cnt_or (i 386) y.toInt (f.toInt).toNat
        refine h_iald hx hb hK hH (by decide) (rfl : kd 386 = 13) (s_vin (N := 30) (rfl : f.toInt = _) (rfl : ln 386 = 30) (by omega) (by omega)) dX12_count_15 ?_
        have ek_7 : f.toNatClampNeg = (f.toInt).toNat := (s_cl (show f.toInt = f.toInt by omega))
        refine sj_i (y := (i 386 (f.toInt).toNat)) (by rw [ek_7]) ?_
        refine lv_iload_n hx hb dX12_count_16 rfl (lv_at hl 4 rfl) ?_
        refine lv_icmp_ne (tgt := 24) hx hb dX12_count_17 (by decide) (fun c_8 => ?_) (fun c_8 => ?_)
        · skip
          have h_9 := s_ne (rfl : (i 386 (f.toInt).toNat).toInt = _) (rfl : y.toInt = _) c_8
          refine lv_iconst (v := 0) hx hb dX12_count_24 (by decide) ?_
          refine lv_iadd hx hb dX12_count_25 ?_
          obtain ⟨z_10, ez_10, hz_10⟩ := s_add (rfl : t.toInt = _) (show (0 : Int32).toInt = 0 from rfl) (by omega) (by omega)
          refine sj_i ez_10 ?_
          refine lv_istore_n (lv' := [(3, .int z_10), (4, .int f), (0, .ref (g 386)), (1, .int x), (2, .int y)]) hx hb dX12_count_26 rfl hl (by decide) rfl (fun ls hl => ?_)
          obtain ⟨z_11, ez_11, hz_11⟩ := s_add (rfl : f.toInt = _) (show (1 : Int32).toInt = 1 from rfl) (by omega) (by omega)
          refine lv_iinc (v := z_11) (lv' := [(4, .int z_11), (3, .int z_10), (0, .ref (g 386)), (1, .int x), (2, .int y)]) hx hb dX12_count_27 hl (k := 1) rfl ez_11 (by decide) rfl (fun ls hl => ?_)
          refine lv_goto (tgt := 5) hx hb dX12_count_30 (by decide) ?_
          exact ih_lp_2 z_10 z_11 _ _ ls (by omega) (by omega) (by omega) (by omega) (by rw [show (z_11).toInt.toNat = (f.toInt).toNat + 1 by omega]; omega) (lv_sub hl [0, 1, 2, 3, 4] rfl) hH hS
        · skip
          have h_12 := s_eq (rfl : (i 386 (f.toInt).toNat).toInt = _) (rfl : y.toInt = _) c_8
          refine lv_iconst (v := 1) hx hb dX12_count_20 (by decide) ?_
          refine lv_goto (tgt := 25) hx hb dX12_count_21 (by decide) ?_
          refine lv_iadd hx hb dX12_count_25 ?_
          obtain ⟨z_13, ez_13, hz_13⟩ := s_add (rfl : t.toInt = _) (show (1 : Int32).toInt = 1 from rfl) (by omega) (by omega)
          refine sj_i ez_13 ?_
          refine lv_istore_n (lv' := [(3, .int z_13), (4, .int f), (0, .ref (g 386)), (1, .int x), (2, .int y)]) hx hb dX12_count_26 rfl hl (by decide) rfl (fun ls hl => ?_)
          obtain ⟨z_14, ez_14, hz_14⟩ := s_add (rfl : f.toInt = _) (show (1 : Int32).toInt = 1 from rfl) (by omega) (by omega)
          refine lv_iinc (v := z_14) (lv' := [(4, .int z_14), (3, .int z_13), (0, .ref (g 386)), (1, .int x), (2, .int y)]) hx hb dX12_count_27 hl (k := 1) rfl ez_14 (by decide) rfl (fun ls hl => ?_)
          refine lv_goto (tgt := 5) hx hb dX12_count_30 (by decide) ?_
          exact ih_lp_2 z_13 z_14 _ _ ls (by omega) (by omega) (by omega) (by omega) (by rw [show (z_14).toInt.toNat = (f.toInt).toNat + 1 by omega]; omega) (lv_sub hl [0, 1, 2, 3, 4] rfl) hH hS
  have hl_15 : (0 : Int32).toInt = 0 := rfl
  have hl_16 : (0 : Int32).toInt = 0 := rfl
  exact lp_2 _ 0 0 _ _ ls (Nat.lt_succ_self _) (by omega) (by omega) (by omega) rfl (lv_sub hl [0, 1, 2, 3, 4] rfl) hH hS
set_option maxHeartbeats 2000000 in
set_option maxRecDepth 100000 in
theorem m_find_steps (l : Launch) (D : va_G) (g : Nat → Nat) (ka : Nat → ClassId) (ad : Nat → Nat) (i : Nat → Nat → Int32) (r : Nat → Nat → Nat) (L : Nat → Nat → Int64) (d : Nat → Nat → UInt64) (x : Int32) (y : Int32) (z : Int32) (hO : OkI i) (hR : RS r) (sz : Nat) (hx0 : 0 ≤ x.toInt) (hx1 : x.toInt ≤ 30) (hz0 : 0 ≤ z.toInt) : Met l yX12_find wsX12_find ({ frames := 0, cells := 0, slots := 0, locals := 0 }) (va_Pc [.ref (g 386), .int x, .int y, .int z] (sj_B D (hwc g ka i r L d) (hT ka) sz (gx ad (va_A (hwc g ka i r L d) sz)))) (sj_Qi (S := Unit) D (fun v u => ((-1 : Int) ≤ v.toInt ∧ v.toInt ≤ 29) ∧ ((v.toInt = -1 ∧ (cnt (i 386) y.toInt x.toInt.toNat : Int) ≤ z.toInt) ∨ (0 ≤ v.toInt ∧ v.toInt < x.toInt ∧ (i 386 v.toInt.toNat).toInt = y.toInt ∧ (cnt (i 386) y.toInt v.toInt.toNat : Int) = z.toInt))) (fun _ => hwc g ka i r L d) (fun _ => []) (va_A (hwc g ka i r L d) sz)) 0 0 (va_A (hwc g ka i r L d) sz) := by
  refine x_met (Ex := gx ad) (cc := cX12_find) (maxL := 6) (ret := (some .int)) (by decide) rfl (Nat.le_of_ble_eq_true rfl) ?_
  intro p e s m below meth c A ls hx hb hr hml hts hown hlocks hA hS hH hK hE hl
  have hown : s.vm.findClass RX12 = some m.cls := hown
  have hl : lv_has ls 6 [(0, .ref (g 386)), (1, .int x), (2, .int y), (3, .int z)] := hl
  have hK : va_K D vwCl (hT ka) s := hK
  have hg_1 := s_rng y
  refine lv_iconst (v := 0) hx hb dX12_find_0 (by decide) ?_
  refine lv_istore (lv' := [(4, .int 0), (0, .ref (g 386)), (1, .int x), (2, .int y), (3, .int z)]) hx hb dX12_find_1 hl (by decide) rfl (fun ls hl => ?_)
  refine lv_iconst (v := 0) hx hb dX12_find_3 (by decide) ?_
  refine lv_istore (lv' := [(5, .int 0), (4, .int 0), (0, .ref (g 386)), (1, .int x), (2, .int y), (3, .int z)]) hx hb dX12_find_4 hl (by decide) rfl (fun ls hl => ?_)
  -- loop at 6
  have lp_2 : ∀ (fuel_lp_2 : Nat) (t : Int32) (f : Int32) (H : Heap) (locs : List Loc) (ls : Array Slot), (30 - f.toInt).toNat < fuel_lp_2 → (0 : Int) ≤ t.toInt ∧ t.toInt ≤ 30 → (0 : Int) ≤ f.toInt ∧ f.toInt ≤ 30 → t.toInt ≤ f.toInt ∧ f.toInt ≤ x.toInt ∧ t.toInt ≤ z.toInt → t.toInt = (cnt (i 386) y.toInt (f.toInt).toNat : Int) → lv_has ls 6 [(5, .int f), (4, .int t), (0, .ref (g 386)), (1, .int x), (2, .int y), (3, .int z)] → sj_H D A (hwc g ka i r L d) H → va_S A s.heap H locs → W p l e (headSpec wsX12_find ({ frames := 0, cells := 0, slots := 0, locals := 0 })).room s m ([.ref (g 386), .int x, .int y, .int z] : List Value).toArray below meth c H locs 0 0 (MQ below (sj_Qi (S := Unit) D (fun v u => ((-1 : Int) ≤ v.toInt ∧ v.toInt ≤ 29) ∧ ((v.toInt = -1 ∧ (cnt (i 386) y.toInt x.toInt.toNat : Int) ≤ z.toInt) ∨ (0 ≤ v.toInt ∧ v.toInt < x.toInt ∧ (i 386 v.toInt.toNat).toInt = y.toInt ∧ (cnt (i 386) y.toInt v.toInt.toNat : Int) = z.toInt))) (fun _ => hwc g ka i r L d) (fun _ => []) A) ([.ref (g 386), .int x, .int y, .int z] : List Value).toArray s 0 0 A) (F0 m 6 ls []) := by
    intro fuel_lp_2
    induction fuel_lp_2 with
    | zero => intros; omega
    | succ fuel_lp_2 ih_lp_2 =>
      intro t f H locs ls hm hr_t hr_f hi_lp_2_0 hi_lp_2_1 hl hH hS
      refine lv_iload hx hb dX12_find_6 (lv_at hl 0 rfl) ?_
      refine lv_iload_n hx hb dX12_find_8 rfl (lv_at hl 3 rfl) ?_
      refine lv_icmp_ge (tgt := 53) hx hb dX12_find_9 (by decide) (fun c_3 => ?_) (fun c_3 => ?_)
      · skip
        have h_4 := s_le (rfl : x.toInt = _) (rfl : f.toInt = _) c_3
        refine lv_iconst (v := (-1)) hx hb dX12_find_53 (by decide) ?_
        have hlv_5 : ((-1) : Int32).toInt = -1 := rfl
        exact sj_zret hx hb hr hlocks rfl hS () ⟨⟨by decide, by decide⟩, (Or.inl ⟨by omega, by rw [show x.toInt.toNat = (f.toInt).toNat by omega]; omega⟩)⟩ hH (sj_Knil hK) (Nat.le_of_ble_eq_true rfl) (Nat.le_of_ble_eq_true rfl) dX12_find_54
      · skip
        have h_6 := s_nle (rfl : x.toInt = _) (rfl : f.toInt = _) c_3
        refine lv_aload_n hx hb dX12_find_12 rfl (lv_at hl 2 rfl) ?_
        refine lv_iload hx hb dX12_find_13 (lv_at hl 0 rfl) ?_
        have hc_7 := cnt_or (i 386) y.toInt (f.toInt).toNat
        refine h_iald hx hb hK hH (by decide) (rfl : kd 386 = 13) (s_vin (N := 30) (rfl : f.toInt = _) (rfl : ln 386 = 30) (by omega) (by omega)) dX12_find_15 ?_
        have ek_8 : f.toNatClampNeg = (f.toInt).toNat := (s_cl (show f.toInt = f.toInt by omega))
        refine sj_i (y := (i 386 (f.toInt).toNat)) (by rw [ek_8]) ?_
        refine lv_iload_n hx hb dX12_find_16 rfl (lv_at hl 4 rfl) ?_
        refine lv_icmp_ne (tgt := 29) hx hb dX12_find_17 (by decide) (fun c_9 => ?_) (fun c_9 => ?_)
        · skip
          have h_10 := s_ne (rfl : (i 386 (f.toInt).toNat).toInt = _) (rfl : y.toInt = _) c_9
          refine lv_iload hx hb dX12_find_29 (lv_at hl 1 rfl) ?_
          refine lv_aload_n hx hb dX12_find_31 rfl (lv_at hl 2 rfl) ?_
          refine lv_iload hx hb dX12_find_32 (lv_at hl 0 rfl) ?_
          have hc_11 := cnt_or (i 386) y.toInt (f.toInt).toNat
          refine h_iald hx hb hK hH (by decide) (rfl : kd 386 = 13) (s_vin (N := 30) (rfl : f.toInt = _) (rfl : ln 386 = 30) (by omega) (by omega)) dX12_find_34 ?_
          have ek_12 : f.toNatClampNeg = (f.toInt).toNat := (s_cl (show f.toInt = f.toInt by omega))
          refine sj_i (y := (i 386 (f.toInt).toNat)) (by rw [ek_12]) ?_
          refine lv_iload_n hx hb dX12_find_35 rfl (lv_at hl 4 rfl) ?_
          refine lv_icmp_ne (tgt := 43) hx hb dX12_find_36 (by decide) (fun c_13 => ?_) (fun c_13 => ?_)
          · skip
            have h_14 := s_ne (rfl : (i 386 (f.toInt).toNat).toInt = _) (rfl : y.toInt = _) c_13
            refine lv_iconst (v := 0) hx hb dX12_find_43 (by decide) ?_
            refine lv_iadd hx hb dX12_find_44 ?_
            obtain ⟨z_15, ez_15, hz_15⟩ := s_add (rfl : t.toInt = _) (show (0 : Int32).toInt = 0 from rfl) (by omega) (by omega)
            refine sj_i ez_15 ?_
            refine lv_istore (lv' := [(4, .int z_15), (5, .int f), (0, .ref (g 386)), (1, .int x), (2, .int y), (3, .int z)]) hx hb dX12_find_45 hl (by decide) rfl (fun ls hl => ?_)
            obtain ⟨z_16, ez_16, hz_16⟩ := s_add (rfl : f.toInt = _) (show (1 : Int32).toInt = 1 from rfl) (by omega) (by omega)
            refine lv_iinc (v := z_16) (lv' := [(5, .int z_16), (4, .int z_15), (0, .ref (g 386)), (1, .int x), (2, .int y), (3, .int z)]) hx hb dX12_find_47 hl (k := 1) rfl ez_16 (by decide) rfl (fun ls hl => ?_)
            refine lv_goto (tgt := 6) hx hb dX12_find_50 (by decide) ?_
            exact ih_lp_2 z_15 z_16 _ _ ls (by omega) (by omega) (by omega) (by omega) (by rw [show (z_16).toInt.toNat = (f.toInt).toNat + 1 by omega]; omega) (lv_sub hl [0, 1, 2, 3, 4, 5] rfl) hH hS
          · skip
            have h_17 := s_eq (rfl : (i 386 (f.toInt).toNat).toInt = _) (rfl : y.toInt = _) c_13
            refine lv_iconst (v := 1) hx hb dX12_find_39 (by decide) ?_
            refine lv_goto (tgt := 44) hx hb dX12_find_40 (by decide) ?_
            refine lv_iadd hx hb dX12_find_44 ?_
            obtain ⟨z_18, ez_18, hz_18⟩ := s_add (rfl : t.toInt = _) (show (1 : Int32).toInt = 1 from rfl) (by omega) (by omega)
            refine sj_i ez_18 ?_
            refine lv_istore (lv' := [(4, .int z_18), (5, .int f), (0, .ref (g 386)), (1, .int x), (2, .int y), (3, .int z)]) hx hb dX12_find_45 hl (by decide) rfl (fun ls hl => ?_)
            obtain ⟨z_19, ez_19, hz_19⟩ := s_add (rfl : f.toInt = _) (show (1 : Int32).toInt = 1 from rfl) (by omega) (by omega)
            refine lv_iinc (v := z_19) (lv' := [(5, .int z_19), (4, .int z_18), (0, .ref (g 386)), (1, .int x), (2, .int y), (3, .int z)]) hx hb dX12_find_47 hl (k := 1) rfl ez_19 (by decide) rfl (fun ls hl => ?_)
            refine lv_goto (tgt := 6) hx hb dX12_find_50 (by decide) ?_
            exact ih_lp_2 z_18 z_19 _ _ ls (by omega) (by omega) (by omega) (by omega) (by rw [show (z_19).toInt.toNat = (f.toInt).toNat + 1 by omega]; omega) (lv_sub hl [0, 1, 2, 3, 4, 5] rfl) hH hS
        · skip
          have h_20 := s_eq (rfl : (i 386 (f.toInt).toNat).toInt = _) (rfl : y.toInt = _) c_9
          refine lv_iload hx hb dX12_find_20 (lv_at hl 1 rfl) ?_
          refine lv_iload_n hx hb dX12_find_22 rfl (lv_at hl 5 rfl) ?_
          refine lv_icmp_ne (tgt := 29) hx hb dX12_find_23 (by decide) (fun c_21 => ?_) (fun c_21 => ?_)
          · skip
            have h_22 := s_ne (rfl : t.toInt = _) (rfl : z.toInt = _) c_21
            refine lv_iload hx hb dX12_find_29 (lv_at hl 1 rfl) ?_
            refine lv_aload_n hx hb dX12_find_31 rfl (lv_at hl 2 rfl) ?_
            refine lv_iload hx hb dX12_find_32 (lv_at hl 0 rfl) ?_
            have hc_23 := cnt_or (i 386) y.toInt (f.toInt).toNat
            refine h_iald hx hb hK hH (by decide) (rfl : kd 386 = 13) (s_vin (N := 30) (rfl : f.toInt = _) (rfl : ln 386 = 30) (by omega) (by omega)) dX12_find_34 ?_
            have ek_24 : f.toNatClampNeg = (f.toInt).toNat := (s_cl (show f.toInt = f.toInt by omega))
            refine sj_i (y := (i 386 (f.toInt).toNat)) (by rw [ek_24]) ?_
            refine lv_iload_n hx hb dX12_find_35 rfl (lv_at hl 4 rfl) ?_
            refine lv_icmp_ne (tgt := 43) hx hb dX12_find_36 (by decide) (fun c_25 => ?_) (fun c_25 => ?_)
            · skip
              have h_26 := s_ne (rfl : (i 386 (f.toInt).toNat).toInt = _) (rfl : y.toInt = _) c_25
              refine lv_iconst (v := 0) hx hb dX12_find_43 (by decide) ?_
              refine lv_iadd hx hb dX12_find_44 ?_
              obtain ⟨z_27, ez_27, hz_27⟩ := s_add (rfl : t.toInt = _) (show (0 : Int32).toInt = 0 from rfl) (by omega) (by omega)
              refine sj_i ez_27 ?_
              refine lv_istore (lv' := [(4, .int z_27), (5, .int f), (0, .ref (g 386)), (1, .int x), (2, .int y), (3, .int z)]) hx hb dX12_find_45 hl (by decide) rfl (fun ls hl => ?_)
              obtain ⟨z_28, ez_28, hz_28⟩ := s_add (rfl : f.toInt = _) (show (1 : Int32).toInt = 1 from rfl) (by omega) (by omega)
              refine lv_iinc (v := z_28) (lv' := [(5, .int z_28), (4, .int z_27), (0, .ref (g 386)), (1, .int x), (2, .int y), (3, .int z)]) hx hb dX12_find_47 hl (k := 1) rfl ez_28 (by decide) rfl (fun ls hl => ?_)
              refine lv_goto (tgt := 6) hx hb dX12_find_50 (by decide) ?_
              exact ih_lp_2 z_27 z_28 _ _ ls (by omega) (by omega) (by omega) (by omega) (by rw [show (z_28).toInt.toNat = (f.toInt).toNat + 1 by omega]; omega) (lv_sub hl [0, 1, 2, 3, 4, 5] rfl) hH hS
            · skip
              have h_29 := s_eq (rfl : (i 386 (f.toInt).toNat).toInt = _) (rfl : y.toInt = _) c_25
              refine lv_iconst (v := 1) hx hb dX12_find_39 (by decide) ?_
              refine lv_goto (tgt := 44) hx hb dX12_find_40 (by decide) ?_
              refine lv_iadd hx hb dX12_find_44 ?_
              obtain ⟨z_30, ez_30, hz_30⟩ := s_add (rfl : t.toInt = _) (show (1 : Int32).toInt = 1 from rfl) (by omega) (by omega)
              refine sj_i ez_30 ?_
              refine lv_istore (lv' := [(4, .int z_30), (5, .int f), (0, .ref (g 386)), (1, .int x), (2, .int y), (3, .int z)]) hx hb dX12_find_45 hl (by decide) rfl (fun ls hl => ?_)
              obtain ⟨z_31, ez_31, hz_31⟩ := s_add (rfl : f.toInt = _) (show (1 : Int32).toInt = 1 from rfl) (by omega) (by omega)
              refine lv_iinc (v := z_31) (lv' := [(5, .int z_31), (4, .int z_30), (0, .ref (g 386)), (1, .int x), (2, .int y), (3, .int z)]) hx hb dX12_find_47 hl (k := 1) rfl ez_31 (by decide) rfl (fun ls hl => ?_)
              refine lv_goto (tgt := 6) hx hb dX12_find_50 (by decide) ?_
              exact ih_lp_2 z_30 z_31 _ _ ls (by omega) (by omega) (by omega) (by omega) (by rw [show (z_31).toInt.toNat = (f.toInt).toNat + 1 by omega]; omega) (lv_sub hl [0, 1, 2, 3, 4, 5] rfl) hH hS
          · skip
            have h_32 := s_eq (rfl : t.toInt = _) (rfl : z.toInt = _) c_21
            refine lv_iload hx hb dX12_find_26 (lv_at hl 0 rfl) ?_
            exact sj_zret hx hb hr hlocks rfl hS () ⟨⟨by omega, by omega⟩, (Or.inr ⟨by omega, by omega, by omega, by omega⟩)⟩ hH (sj_Knil hK) (Nat.le_of_ble_eq_true rfl) (Nat.le_of_ble_eq_true rfl) dX12_find_28
  have hl_33 : (0 : Int32).toInt = 0 := rfl
  have hl_34 : (0 : Int32).toInt = 0 := rfl
  exact lp_2 _ 0 0 _ _ ls (Nat.lt_succ_self _) (by omega) (by omega) (by omega) rfl (lv_sub hl [0, 1, 2, 3, 4, 5] rfl) hH hS
set_option maxHeartbeats 2000000 in
set_option maxRecDepth 100000 in
theorem m_count_rows (l : Launch) (D : va_G) (g : Nat → Nat) (ka : Nat → ClassId) (ad : Nat → Nat) (i : Nat → Nat → Int32) (r : Nat → Nat → Nat) (L : Nat → Nat → Int64) (d : Nat → Nat → UInt64) (x : Int32) (y : Int32) (hO : OkI i) (hR : RS r) (sz : Nat) (hx0 : 0 ≤ x.toInt) (hx1 : x.toInt ≤ 40) : Met l yX12_count wsX12_count ({ frames := 0, cells := 0, slots := 0, locals := 0 }) (va_Pc [.ref (g 392), .int x, .int y] (sj_B D (hwc g ka i r L d) (hT ka) sz (gx ad (va_A (hwc g ka i r L d) sz)))) (sj_Qi (S := Unit) D (fun v u => ((0 : Int) ≤ v.toInt ∧ v.toInt ≤ 40) ∧ (v.toInt = (cnt (i 392) y.toInt x.toInt.toNat : Int))) (fun _ => hwc g ka i r L d) (fun _ => []) (va_A (hwc g ka i r L d) sz)) 0 0 (va_A (hwc g ka i r L d) sz) := by
  refine x_met (Ex := gx ad) (cc := cX12_count) (maxL := 5) (ret := (some .int)) (by decide) rfl (Nat.le_of_ble_eq_true rfl) ?_
  intro p e s m below meth c A ls hx hb hr hml hts hown hlocks hA hS hH hK hE hl
  have hown : s.vm.findClass RX12 = some m.cls := hown
  have hl : lv_has ls 5 [(0, .ref (g 392)), (1, .int x), (2, .int y)] := hl
  have hK : va_K D vwCl (hT ka) s := hK
  have hg_1 := s_rng y
  refine lv_iconst (v := 0) hx hb dX12_count_0 (by decide) ?_
  refine lv_istore_n (lv' := [(3, .int 0), (0, .ref (g 392)), (1, .int x), (2, .int y)]) hx hb dX12_count_1 rfl hl (by decide) rfl (fun ls hl => ?_)
  refine lv_iconst (v := 0) hx hb dX12_count_2 (by decide) ?_
  refine lv_istore (lv' := [(4, .int 0), (3, .int 0), (0, .ref (g 392)), (1, .int x), (2, .int y)]) hx hb dX12_count_3 hl (by decide) rfl (fun ls hl => ?_)
  -- loop at 5
  have lp_2 : ∀ (fuel_lp_2 : Nat) (t : Int32) (f : Int32) (H : Heap) (locs : List Loc) (ls : Array Slot), (40 - f.toInt).toNat < fuel_lp_2 → (0 : Int) ≤ t.toInt ∧ t.toInt ≤ 40 → (0 : Int) ≤ f.toInt ∧ f.toInt ≤ 40 → t.toInt ≤ f.toInt ∧ f.toInt ≤ x.toInt → t.toInt = (cnt (i 392) y.toInt (f.toInt).toNat : Int) → lv_has ls 5 [(4, .int f), (3, .int t), (0, .ref (g 392)), (1, .int x), (2, .int y)] → sj_H D A (hwc g ka i r L d) H → va_S A s.heap H locs → W p l e (headSpec wsX12_count ({ frames := 0, cells := 0, slots := 0, locals := 0 })).room s m ([.ref (g 392), .int x, .int y] : List Value).toArray below meth c H locs 0 0 (MQ below (sj_Qi (S := Unit) D (fun v u => ((0 : Int) ≤ v.toInt ∧ v.toInt ≤ 40) ∧ (v.toInt = (cnt (i 392) y.toInt x.toInt.toNat : Int))) (fun _ => hwc g ka i r L d) (fun _ => []) A) ([.ref (g 392), .int x, .int y] : List Value).toArray s 0 0 A) (F0 m 5 ls []) := by
    intro fuel_lp_2
    induction fuel_lp_2 with
    | zero => intros; omega
    | succ fuel_lp_2 ih_lp_2 =>
      intro t f H locs ls hm hr_t hr_f hi_lp_2_0 hi_lp_2_1 hl hH hS
      refine lv_iload hx hb dX12_count_5 (lv_at hl 0 rfl) ?_
      refine lv_iload_n hx hb dX12_count_7 rfl (lv_at hl 3 rfl) ?_
      refine lv_icmp_ge (tgt := 33) hx hb dX12_count_8 (by decide) (fun c_3 => ?_) (fun c_3 => ?_)
      · skip
        have h_4 := s_le (rfl : x.toInt = _) (rfl : f.toInt = _) c_3
        refine lv_iload_n hx hb dX12_count_33 rfl (lv_at hl 1 rfl) ?_
        exact sj_zret hx hb hr hlocks rfl hS () ⟨⟨by omega, by omega⟩, (by rw [show x.toInt.toNat = (f.toInt).toNat by omega]; omega)⟩ hH (sj_Knil hK) (Nat.le_of_ble_eq_true rfl) (Nat.le_of_ble_eq_true rfl) dX12_count_34
      · skip
        have h_5 := s_nle (rfl : x.toInt = _) (rfl : f.toInt = _) c_3
        refine lv_iload_n hx hb dX12_count_11 rfl (lv_at hl 1 rfl) ?_
        refine lv_aload_n hx hb dX12_count_12 rfl (lv_at hl 2 rfl) ?_
        refine lv_iload hx hb dX12_count_13 (lv_at hl 0 rfl) ?_
        have hc_6 := cnt_or (i 392) y.toInt (f.toInt).toNat
        refine h_iald hx hb hK hH (by decide) (rfl : kd 392 = 13) (s_vin (N := 40) (rfl : f.toInt = _) (rfl : ln 392 = 40) (by omega) (by omega)) dX12_count_15 ?_
        have ek_7 : f.toNatClampNeg = (f.toInt).toNat := (s_cl (show f.toInt = f.toInt by omega))
        refine sj_i (y := (i 392 (f.toInt).toNat)) (by rw [ek_7]) ?_
        refine lv_iload_n hx hb dX12_count_16 rfl (lv_at hl 4 rfl) ?_
        refine lv_icmp_ne (tgt := 24) hx hb dX12_count_17 (by decide) (fun c_8 => ?_) (fun c_8 => ?_)
        · skip
          have h_9 := s_ne (rfl : (i 392 (f.toInt).toNat).toInt = _) (rfl : y.toInt = _) c_8
          refine lv_iconst (v := 0) hx hb dX12_count_24 (by decide) ?_
          refine lv_iadd hx hb dX12_count_25 ?_
          obtain ⟨z_10, ez_10, hz_10⟩ := s_add (rfl : t.toInt = _) (show (0 : Int32).toInt = 0 from rfl) (by omega) (by omega)
          refine sj_i ez_10 ?_
          refine lv_istore_n (lv' := [(3, .int z_10), (4, .int f), (0, .ref (g 392)), (1, .int x), (2, .int y)]) hx hb dX12_count_26 rfl hl (by decide) rfl (fun ls hl => ?_)
          obtain ⟨z_11, ez_11, hz_11⟩ := s_add (rfl : f.toInt = _) (show (1 : Int32).toInt = 1 from rfl) (by omega) (by omega)
          refine lv_iinc (v := z_11) (lv' := [(4, .int z_11), (3, .int z_10), (0, .ref (g 392)), (1, .int x), (2, .int y)]) hx hb dX12_count_27 hl (k := 1) rfl ez_11 (by decide) rfl (fun ls hl => ?_)
          refine lv_goto (tgt := 5) hx hb dX12_count_30 (by decide) ?_
          exact ih_lp_2 z_10 z_11 _ _ ls (by omega) (by omega) (by omega) (by omega) (by rw [show (z_11).toInt.toNat = (f.toInt).toNat + 1 by omega]; omega) (lv_sub hl [0, 1, 2, 3, 4] rfl) hH hS
        · skip
          have h_12 := s_eq (rfl : (i 392 (f.toInt).toNat).toInt = _) (rfl : y.toInt = _) c_8
          refine lv_iconst (v := 1) hx hb dX12_count_20 (by decide) ?_
          refine lv_goto (tgt := 25) hx hb dX12_count_21 (by decide) ?_
          refine lv_iadd hx hb dX12_count_25 ?_
          obtain ⟨z_13, ez_13, hz_13⟩ := s_add (rfl : t.toInt = _) (show (1 : Int32).toInt = 1 from rfl) (by omega) (by omega)
          refine sj_i ez_13 ?_
          refine lv_istore_n (lv' := [(3, .int z_13), (4, .int f), (0, .ref (g 392)), (1, .int x), (2, .int y)]) hx hb dX12_count_26 rfl hl (by decide) rfl (fun ls hl => ?_)
          obtain ⟨z_14, ez_14, hz_14⟩ := s_add (rfl : f.toInt = _) (show (1 : Int32).toInt = 1 from rfl) (by omega) (by omega)
          refine lv_iinc (v := z_14) (lv' := [(4, .int z_14), (3, .int z_13), (0, .ref (g 392)), (1, .int x), (2, .int y)]) hx hb dX12_count_27 hl (k := 1) rfl ez_14 (by decide) rfl (fun ls hl => ?_)
          refine lv_goto (tgt := 5) hx hb dX12_count_30 (by decide) ?_
          exact ih_lp_2 z_13 z_14 _ _ ls (by omega) (by omega) (by omega) (by omega) (by rw [show (z_14).toInt.toNat = (f.toInt).toNat + 1 by omega]; omega) (lv_sub hl [0, 1, 2, 3, 4] rfl) hH hS
  have hl_15 : (0 : Int32).toInt = 0 := rfl
  have hl_16 : (0 : Int32).toInt = 0 := rfl
  exact lp_2 _ 0 0 _ _ ls (Nat.lt_succ_self _) (by omega) (by omega) (by omega) rfl (lv_sub hl [0, 1, 2, 3, 4] rfl) hH hS
set_option maxHeartbeats 2000000 in
set_option maxRecDepth 100000 in
theorem m_find_rows (l : Launch) (D : va_G) (g : Nat → Nat) (ka : Nat → ClassId) (ad : Nat → Nat) (i : Nat → Nat → Int32) (r : Nat → Nat → Nat) (L : Nat → Nat → Int64) (d : Nat → Nat → UInt64) (x : Int32) (y : Int32) (z : Int32) (hO : OkI i) (hR : RS r) (sz : Nat) (hx0 : 0 ≤ x.toInt) (hx1 : x.toInt ≤ 40) (hz0 : 0 ≤ z.toInt) : Met l yX12_find wsX12_find ({ frames := 0, cells := 0, slots := 0, locals := 0 }) (va_Pc [.ref (g 392), .int x, .int y, .int z] (sj_B D (hwc g ka i r L d) (hT ka) sz (gx ad (va_A (hwc g ka i r L d) sz)))) (sj_Qi (S := Unit) D (fun v u => ((-1 : Int) ≤ v.toInt ∧ v.toInt ≤ 39) ∧ ((v.toInt = -1 ∧ (cnt (i 392) y.toInt x.toInt.toNat : Int) ≤ z.toInt) ∨ (0 ≤ v.toInt ∧ v.toInt < x.toInt ∧ (i 392 v.toInt.toNat).toInt = y.toInt ∧ (cnt (i 392) y.toInt v.toInt.toNat : Int) = z.toInt))) (fun _ => hwc g ka i r L d) (fun _ => []) (va_A (hwc g ka i r L d) sz)) 0 0 (va_A (hwc g ka i r L d) sz) := by
  refine x_met (Ex := gx ad) (cc := cX12_find) (maxL := 6) (ret := (some .int)) (by decide) rfl (Nat.le_of_ble_eq_true rfl) ?_
  intro p e s m below meth c A ls hx hb hr hml hts hown hlocks hA hS hH hK hE hl
  have hown : s.vm.findClass RX12 = some m.cls := hown
  have hl : lv_has ls 6 [(0, .ref (g 392)), (1, .int x), (2, .int y), (3, .int z)] := hl
  have hK : va_K D vwCl (hT ka) s := hK
  have hg_1 := s_rng y
  refine lv_iconst (v := 0) hx hb dX12_find_0 (by decide) ?_
  refine lv_istore (lv' := [(4, .int 0), (0, .ref (g 392)), (1, .int x), (2, .int y), (3, .int z)]) hx hb dX12_find_1 hl (by decide) rfl (fun ls hl => ?_)
  refine lv_iconst (v := 0) hx hb dX12_find_3 (by decide) ?_
  refine lv_istore (lv' := [(5, .int 0), (4, .int 0), (0, .ref (g 392)), (1, .int x), (2, .int y), (3, .int z)]) hx hb dX12_find_4 hl (by decide) rfl (fun ls hl => ?_)
  -- loop at 6
  have lp_2 : ∀ (fuel_lp_2 : Nat) (t : Int32) (f : Int32) (H : Heap) (locs : List Loc) (ls : Array Slot), (40 - f.toInt).toNat < fuel_lp_2 → (0 : Int) ≤ t.toInt ∧ t.toInt ≤ 40 → (0 : Int) ≤ f.toInt ∧ f.toInt ≤ 40 → t.toInt ≤ f.toInt ∧ f.toInt ≤ x.toInt ∧ t.toInt ≤ z.toInt → t.toInt = (cnt (i 392) y.toInt (f.toInt).toNat : Int) → lv_has ls 6 [(5, .int f), (4, .int t), (0, .ref (g 392)), (1, .int x), (2, .int y), (3, .int z)] → sj_H D A (hwc g ka i r L d) H → va_S A s.heap H locs → W p l e (headSpec wsX12_find ({ frames := 0, cells := 0, slots := 0, locals := 0 })).room s m ([.ref (g 392), .int x, .int y, .int z] : List Value).toArray below meth c H locs 0 0 (MQ below (sj_Qi (S := Unit) D (fun v u => ((-1 : Int) ≤ v.toInt ∧ v.toInt ≤ 39) ∧ ((v.toInt = -1 ∧ (cnt (i 392) y.toInt x.toInt.toNat : Int) ≤ z.toInt) ∨ (0 ≤ v.toInt ∧ v.toInt < x.toInt ∧ (i 392 v.toInt.toNat).toInt = y.toInt ∧ (cnt (i 392) y.toInt v.toInt.toNat : Int) = z.toInt))) (fun _ => hwc g ka i r L d) (fun _ => []) A) ([.ref (g 392), .int x, .int y, .int z] : List Value).toArray s 0 0 A) (F0 m 6 ls []) := by
    intro fuel_lp_2
    induction fuel_lp_2 with
    | zero => intros; omega
    | succ fuel_lp_2 ih_lp_2 =>
      intro t f H locs ls hm hr_t hr_f hi_lp_2_0 hi_lp_2_1 hl hH hS
      refine lv_iload hx hb dX12_find_6 (lv_at hl 0 rfl) ?_
      refine lv_iload_n hx hb dX12_find_8 rfl (lv_at hl 3 rfl) ?_
      refine lv_icmp_ge (tgt := 53) hx hb dX12_find_9 (by decide) (fun c_3 => ?_) (fun c_3 => ?_)
      · skip
        have h_4 := s_le (rfl : x.toInt = _) (rfl : f.toInt = _) c_3
        refine lv_iconst (v := (-1)) hx hb dX12_find_53 (by decide) ?_
        have hlv_5 : ((-1) : Int32).toInt = -1 := rfl
        exact sj_zret hx hb hr hlocks rfl hS () ⟨⟨by decide, by decide⟩, (Or.inl ⟨by omega, by rw [show x.toInt.toNat = (f.toInt).toNat by omega]; omega⟩)⟩ hH (sj_Knil hK) (Nat.le_of_ble_eq_true rfl) (Nat.le_of_ble_eq_true rfl) dX12_find_54
      · skip
        have h_6 := s_nle (rfl : x.toInt = _) (rfl : f.toInt = _) c_3
        refine lv_aload_n hx hb dX12_find_12 rfl (lv_at hl 2 rfl) ?_
        refine lv_iload hx hb dX12_find_13 (lv_at hl 0 rfl) ?_
        have hc_7 := cnt_or (i 392) y.toInt (f.toInt).toNat
        refine h_iald hx hb hK hH (by decide) (rfl : kd 392 = 13) (s_vin (N := 40) (rfl : f.toInt = _) (rfl : ln 392 = 40) (by omega) (by omega)) dX12_find_15 ?_
        have ek_8 : f.toNatClampNeg = (f.toInt).toNat := (s_cl (show f.toInt = f.toInt by omega))
        refine sj_i (y := (i 392 (f.toInt).toNat)) (by rw [ek_8]) ?_
        refine lv_iload_n hx hb dX12_find_16 rfl (lv_at hl 4 rfl) ?_
        refine lv_icmp_ne (tgt := 29) hx hb dX12_find_17 (by decide) (fun c_9 => ?_) (fun c_9 => ?_)
        · skip
          have h_10 := s_ne (rfl : (i 392 (f.toInt).toNat).toInt = _) (rfl : y.toInt = _) c_9
          refine lv_iload hx hb dX12_find_29 (lv_at hl 1 rfl) ?_
          refine lv_aload_n hx hb dX12_find_31 rfl (lv_at hl 2 rfl) ?_
          refine lv_iload hx hb dX12_find_32 (lv_at hl 0 rfl) ?_
          have hc_11 := cnt_or (i 392) y.toInt (f.toInt).toNat
          refine h_iald hx hb hK hH (by decide) (rfl : kd 392 = 13) (s_vin (N := 40) (rfl : f.toInt = _) (rfl : ln 392 = 40) (by omega) (by omega)) dX12_find_34 ?_
          have ek_12 : f.toNatClampNeg = (f.toInt).toNat := (s_cl (show f.toInt = f.toInt by omega))
          refine sj_i (y := (i 392 (f.toInt).toNat)) (by rw [ek_12]) ?_
          refine lv_iload_n hx hb dX12_find_35 rfl (lv_at hl 4 rfl) ?_
          refine lv_icmp_ne (tgt := 43) hx hb dX12_find_36 (by decide) (fun c_13 => ?_) (fun c_13 => ?_)
          · skip
            have h_14 := s_ne (rfl : (i 392 (f.toInt).toNat).toInt = _) (rfl : y.toInt = _) c_13
            refine lv_iconst (v := 0) hx hb dX12_find_43 (by decide) ?_
            refine lv_iadd hx hb dX12_find_44 ?_
            obtain ⟨z_15, ez_15, hz_15⟩ := s_add (rfl : t.toInt = _) (show (0 : Int32).toInt = 0 from rfl) (by omega) (by omega)
            refine sj_i ez_15 ?_
            refine lv_istore (lv' := [(4, .int z_15), (5, .int f), (0, .ref (g 392)), (1, .int x), (2, .int y), (3, .int z)]) hx hb dX12_find_45 hl (by decide) rfl (fun ls hl => ?_)
            obtain ⟨z_16, ez_16, hz_16⟩ := s_add (rfl : f.toInt = _) (show (1 : Int32).toInt = 1 from rfl) (by omega) (by omega)
            refine lv_iinc (v := z_16) (lv' := [(5, .int z_16), (4, .int z_15), (0, .ref (g 392)), (1, .int x), (2, .int y), (3, .int z)]) hx hb dX12_find_47 hl (k := 1) rfl ez_16 (by decide) rfl (fun ls hl => ?_)
            refine lv_goto (tgt := 6) hx hb dX12_find_50 (by decide) ?_
            exact ih_lp_2 z_15 z_16 _ _ ls (by omega) (by omega) (by omega) (by omega) (by rw [show (z_16).toInt.toNat = (f.toInt).toNat + 1 by omega]; omega) (lv_sub hl [0, 1, 2, 3, 4, 5] rfl) hH hS
          · skip
            have h_17 := s_eq (rfl : (i 392 (f.toInt).toNat).toInt = _) (rfl : y.toInt = _) c_13
            refine lv_iconst (v := 1) hx hb dX12_find_39 (by decide) ?_
            refine lv_goto (tgt := 44) hx hb dX12_find_40 (by decide) ?_
            refine lv_iadd hx hb dX12_find_44 ?_
            obtain ⟨z_18, ez_18, hz_18⟩ := s_add (rfl : t.toInt = _) (show (1 : Int32).toInt = 1 from rfl) (by omega) (by omega)
            refine sj_i ez_18 ?_
            refine lv_istore (lv' := [(4, .int z_18), (5, .int f), (0, .ref (g 392)), (1, .int x), (2, .int y), (3, .int z)]) hx hb dX12_find_45 hl (by decide) rfl (fun ls hl => ?_)
            obtain ⟨z_19, ez_19, hz_19⟩ := s_add (rfl : f.toInt = _) (show (1 : Int32).toInt = 1 from rfl) (by omega) (by omega)
            refine lv_iinc (v := z_19) (lv' := [(5, .int z_19), (4, .int z_18), (0, .ref (g 392)), (1, .int x), (2, .int y), (3, .int z)]) hx hb dX12_find_47 hl (k := 1) rfl ez_19 (by decide) rfl (fun ls hl => ?_)
            refine lv_goto (tgt := 6) hx hb dX12_find_50 (by decide) ?_
            exact ih_lp_2 z_18 z_19 _ _ ls (by omega) (by omega) (by omega) (by omega) (by rw [show (z_19).toInt.toNat = (f.toInt).toNat + 1 by omega]; omega) (lv_sub hl [0, 1, 2, 3, 4, 5] rfl) hH hS
        · skip
          have h_20 := s_eq (rfl : (i 392 (f.toInt).toNat).toInt = _) (rfl : y.toInt = _) c_9
          refine lv_iload hx hb dX12_find_20 (lv_at hl 1 rfl) ?_
          refine lv_iload_n hx hb dX12_find_22 rfl (lv_at hl 5 rfl) ?_
          refine lv_icmp_ne (tgt := 29) hx hb dX12_find_23 (by decide) (fun c_21 => ?_) (fun c_21 => ?_)
          · skip
            have h_22 := s_ne (rfl : t.toInt = _) (rfl : z.toInt = _) c_21
            refine lv_iload hx hb dX12_find_29 (lv_at hl 1 rfl) ?_
            refine lv_aload_n hx hb dX12_find_31 rfl (lv_at hl 2 rfl) ?_
            refine lv_iload hx hb dX12_find_32 (lv_at hl 0 rfl) ?_
            have hc_23 := cnt_or (i 392) y.toInt (f.toInt).toNat
            refine h_iald hx hb hK hH (by decide) (rfl : kd 392 = 13) (s_vin (N := 40) (rfl : f.toInt = _) (rfl : ln 392 = 40) (by omega) (by omega)) dX12_find_34 ?_
            have ek_24 : f.toNatClampNeg = (f.toInt).toNat := (s_cl (show f.toInt = f.toInt by omega))
            refine sj_i (y := (i 392 (f.toInt).toNat)) (by rw [ek_24]) ?_
            refine lv_iload_n hx hb dX12_find_35 rfl (lv_at hl 4 rfl) ?_
            refine lv_icmp_ne (tgt := 43) hx hb dX12_find_36 (by decide) (fun c_25 => ?_) (fun c_25 => ?_)
            · skip
              have h_26 := s_ne (rfl : (i 392 (f.toInt).toNat).toInt = _) (rfl : y.toInt = _) c_25
              refine lv_iconst (v := 0) hx hb dX12_find_43 (by decide) ?_
              refine lv_iadd hx hb dX12_find_44 ?_
              obtain ⟨z_27, ez_27, hz_27⟩ := s_add (rfl : t.toInt = _) (show (0 : Int32).toInt = 0 from rfl) (by omega) (by omega)
              refine sj_i ez_27 ?_
              refine lv_istore (lv' := [(4, .int z_27), (5, .int f), (0, .ref (g 392)), (1, .int x), (2, .int y), (3, .int z)]) hx hb dX12_find_45 hl (by decide) rfl (fun ls hl => ?_)
              obtain ⟨z_28, ez_28, hz_28⟩ := s_add (rfl : f.toInt = _) (show (1 : Int32).toInt = 1 from rfl) (by omega) (by omega)
              refine lv_iinc (v := z_28) (lv' := [(5, .int z_28), (4, .int z_27), (0, .ref (g 392)), (1, .int x), (2, .int y), (3, .int z)]) hx hb dX12_find_47 hl (k := 1) rfl ez_28 (by decide) rfl (fun ls hl => ?_)
              refine lv_goto (tgt := 6) hx hb dX12_find_50 (by decide) ?_
              exact ih_lp_2 z_27 z_28 _ _ ls (by omega) (by omega) (by omega) (by omega) (by rw [show (z_28).toInt.toNat = (f.toInt).toNat + 1 by omega]; omega) (lv_sub hl [0, 1, 2, 3, 4, 5] rfl) hH hS
            · skip
              have h_29 := s_eq (rfl : (i 392 (f.toInt).toNat).toInt = _) (rfl : y.toInt = _) c_25
              refine lv_iconst (v := 1) hx hb dX12_find_39 (by decide) ?_
              refine lv_goto (tgt := 44) hx hb dX12_find_40 (by decide) ?_
              refine lv_iadd hx hb dX12_find_44 ?_
              obtain ⟨z_30, ez_30, hz_30⟩ := s_add (rfl : t.toInt = _) (show (1 : Int32).toInt = 1 from rfl) (by omega) (by omega)
              refine sj_i ez_30 ?_
              refine lv_istore (lv' := [(4, .int z_30), (5, .int f), (0, .ref (g 392)), (1, .int x), (2, .int y), (3, .int z)]) hx hb dX12_find_45 hl (by decide) rfl (fun ls hl => ?_)
              obtain ⟨z_31, ez_31, hz_31⟩ := s_add (rfl : f.toInt = _) (show (1 : Int32).toInt = 1 from rfl) (by omega) (by omega)
              refine lv_iinc (v := z_31) (lv' := [(5, .int z_31), (4, .int z_30), (0, .ref (g 392)), (1, .int x), (2, .int y), (3, .int z)]) hx hb dX12_find_47 hl (k := 1) rfl ez_31 (by decide) rfl (fun ls hl => ?_)
              refine lv_goto (tgt := 6) hx hb dX12_find_50 (by decide) ?_
              exact ih_lp_2 z_30 z_31 _ _ ls (by omega) (by omega) (by omega) (by omega) (by rw [show (z_31).toInt.toNat = (f.toInt).toNat + 1 by omega]; omega) (lv_sub hl [0, 1, 2, 3, 4, 5] rfl) hH hS
          · skip
            have h_32 := s_eq (rfl : t.toInt = _) (rfl : z.toInt = _) c_21
            refine lv_iload hx hb dX12_find_26 (lv_at hl 0 rfl) ?_
            exact sj_zret hx hb hr hlocks rfl hS () ⟨⟨by omega, by omega⟩, (Or.inr ⟨by omega, by omega, by omega, by omega⟩)⟩ hH (sj_Knil hK) (Nat.le_of_ble_eq_true rfl) (Nat.le_of_ble_eq_true rfl) dX12_find_28
  have hl_33 : (0 : Int32).toInt = 0 := rfl
  have hl_34 : (0 : Int32).toInt = 0 := rfl
  exact lp_2 _ 0 0 _ _ ls (Nat.lt_succ_self _) (by omega) (by omega) (by omega) rfl (lv_sub hl [0, 1, 2, 3, 4, 5] rfl) hH hS
