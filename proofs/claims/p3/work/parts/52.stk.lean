/-- the two stacks of the reference, as lists -/
def stkV (f : Nat → Int32) : Nat → List Bool
  | 0 => []
  | n + 1 => decide ((f n).toInt = 1) :: stkV f n
def stkS (f : Nat → Int32) : Nat → List Int
  | 0 => []
  | n + 1 => (f n).toInt :: stkS f n
theorem stkV_upd {f : Nat → Int32} {m : Nat} {v : Int32} : ∀ k : Nat, k ≤ m → stkV (upd f m v) k = stkV f k
  | 0, _ => rfl
  | k + 1, h => by
    show decide ((upd f m v k).toInt = 1) :: stkV (upd f m v) k = _
    rw [stkV_upd k (by omega), upd_ne (by omega)]; rfl
theorem stkS_upd {f : Nat → Int32} {m : Nat} {v : Int32} : ∀ k : Nat, k ≤ m → stkS (upd f m v) k = stkS f k
  | 0, _ => rfl
  | k + 1, h => by
    show (upd f m v k).toInt :: stkS (upd f m v) k = _
    rw [stkS_upd k (by omega), upd_ne (by omega)]; rfl
theorem i01 {x : Int32} (h : 0 ≤ x.toInt ∧ x.toInt ≤ 1) : x = 0 ∨ x = 1 := by
  rcases (show x.toInt = 0 ∨ x.toInt = 1 by omega) with q | q
  · exact Or.inl (Int32.toInt_inj.mp q)
  · exact Or.inr (Int32.toInt_inj.mp q)
theorem s_and01 {x y z : Int32} (ez : z = x &&& y) (hx : 0 ≤ x.toInt ∧ x.toInt ≤ 1) (hy : 0 ≤ y.toInt ∧ y.toInt ≤ 1) : (0 ≤ z.toInt ∧ z.toInt ≤ 1) ∧ decide (z.toInt = 1) = (decide (x.toInt = 1) && decide (y.toInt = 1)) := by
  rcases i01 hx with rfl | rfl <;> rcases i01 hy with rfl | rfl <;> subst ez <;> decide
theorem s_or01 {x y z : Int32} (ez : z = x ||| y) (hx : 0 ≤ x.toInt ∧ x.toInt ≤ 1) (hy : 0 ≤ y.toInt ∧ y.toInt ≤ 1) : (0 ≤ z.toInt ∧ z.toInt ≤ 1) ∧ decide (z.toInt = 1) = (decide (x.toInt = 1) || decide (y.toInt = 1)) := by
  rcases i01 hx with rfl | rfl <;> rcases i01 hy with rfl | rfl <;> subst ez <;> decide
theorem stk_not {f : Nat → Int32} {n : Nat} {z : Int32} (hz : z.toInt = 1 - (f n).toInt) (h : 0 ≤ (f n).toInt ∧ (f n).toInt ≤ 1) : stkV (upd f n z) (n + 1) = mapp 33 (stkV f (n + 1)) := by
  show decide ((upd f n z n).toInt = 1) :: stkV (upd f n z) n = (!decide ((f n).toInt = 1)) :: stkV f n
  rw [upd_at, stkV_upd n (Nat.le_refl _), hz]
  congr 1
  rcases (show (f n).toInt = 0 ∨ (f n).toInt = 1 by omega) with q | q <;> rw [q] <;> rfl
theorem stk_two {f : Nat → Int32} {n : Nat} {z : Int32} {c : Int} (hc : c ≠ 33) (hz : decide (z.toInt = 1) = (if c = 38 then (decide ((f n).toInt = 1) && decide ((f (n + 1)).toInt = 1)) else (decide ((f n).toInt = 1) || decide ((f (n + 1)).toInt = 1)))) : stkV (upd f n z) (n + 1) = mapp c (stkV f (n + 2)) := by
  show decide ((upd f n z n).toInt = 1) :: stkV (upd f n z) n = mapp c (decide ((f (n + 1)).toInt = 1) :: decide ((f n).toInt = 1) :: stkV f n)
  rw [upd_at, stkV_upd n (Nat.le_refl _), hz]
  simp only [mapp]
  rw [if_neg hc]
theorem dX12_binding_0 : decode cX12_binding 0 = .ok (.iload_n 0, 1) := by decide +kernel
theorem dX12_binding_1 : decode cX12_binding 1 = .ok (.bipush 38, 2) := by decide +kernel
theorem dX12_binding_3 : decode cX12_binding 3 = .ok (.if_icmp .ne 7, 3) := by decide +kernel
theorem dX12_binding_10 : decode cX12_binding 10 = .ok (.iload_n 0, 1) := by decide +kernel
theorem dX12_binding_11 : decode cX12_binding 11 = .ok (.bipush 124, 2) := by decide +kernel
theorem dX12_binding_13 : decode cX12_binding 13 = .ok (.if_icmp .ne 7, 3) := by decide +kernel
theorem dX12_binding_20 : decode cX12_binding 20 = .ok (.iconst 0, 1) := by decide +kernel
theorem dX12_binding_21 : decode cX12_binding 21 = .ok (.ireturn, 1) := by decide +kernel
theorem dX12_binding_16 : decode cX12_binding 16 = .ok (.iconst 1, 1) := by decide +kernel
theorem dX12_binding_17 : decode cX12_binding 17 = .ok (.goto 4, 3) := by decide +kernel
theorem dX12_binding_6 : decode cX12_binding 6 = .ok (.iconst 2, 1) := by decide +kernel
theorem dX12_binding_7 : decode cX12_binding 7 = .ok (.goto 14, 3) := by decide +kernel
theorem dX12_applyTop_0 : decode cX12_applyTop 0 = .ok (.aload_n 0, 1) := by decide +kernel
theorem dX12_applyTop_1 : decode cX12_applyTop 1 = .ok (.getfield 366, 3) := by decide +kernel
theorem dX12_applyTop_4 : decode cX12_applyTop 4 = .ok (.aload_n 0, 1) := by decide +kernel
theorem dX12_applyTop_5 : decode cX12_applyTop 5 = .ok (.getfield 369, 3) := by decide +kernel
theorem dX12_applyTop_8 : decode cX12_applyTop 8 = .ok (.iconst 1, 1) := by decide +kernel
theorem dX12_applyTop_9 : decode cX12_applyTop 9 = .ok (.isub, 1) := by decide +kernel
theorem dX12_applyTop_10 : decode cX12_applyTop 10 = .ok (.caload, 1) := by decide +kernel
theorem dX12_applyTop_11 : decode cX12_applyTop 11 = .ok (.istore_n 1, 1) := by decide +kernel
theorem dX12_applyTop_12 : decode cX12_applyTop 12 = .ok (.aload_n 0, 1) := by decide +kernel
theorem dX12_applyTop_13 : decode cX12_applyTop 13 = .ok (.dup, 1) := by decide +kernel
theorem dX12_applyTop_14 : decode cX12_applyTop 14 = .ok (.getfield 369, 3) := by decide +kernel
theorem dX12_applyTop_17 : decode cX12_applyTop 17 = .ok (.iconst 1, 1) := by decide +kernel
theorem dX12_applyTop_18 : decode cX12_applyTop 18 = .ok (.isub, 1) := by decide +kernel
theorem dX12_applyTop_19 : decode cX12_applyTop 19 = .ok (.putfield 369, 3) := by decide +kernel
theorem dX12_applyTop_22 : decode cX12_applyTop 22 = .ok (.iload_n 1, 1) := by decide +kernel
theorem dX12_applyTop_23 : decode cX12_applyTop 23 = .ok (.bipush 33, 2) := by decide +kernel
theorem dX12_applyTop_25 : decode cX12_applyTop 25 = .ok (.if_icmp .ne 28, 3) := by decide +kernel
theorem dX12_applyTop_53 : decode cX12_applyTop 53 = .ok (.aload_n 0, 1) := by decide +kernel
theorem dX12_applyTop_54 : decode cX12_applyTop 54 = .ok (.dup, 1) := by decide +kernel
theorem dX12_applyTop_55 : decode cX12_applyTop 55 = .ok (.getfield 375, 3) := by decide +kernel
theorem dX12_applyTop_58 : decode cX12_applyTop 58 = .ok (.iconst 1, 1) := by decide +kernel
theorem dX12_applyTop_59 : decode cX12_applyTop 59 = .ok (.isub, 1) := by decide +kernel
theorem dX12_applyTop_60 : decode cX12_applyTop 60 = .ok (.putfield 375, 3) := by decide +kernel
theorem dX12_applyTop_63 : decode cX12_applyTop 63 = .ok (.aload_n 0, 1) := by decide +kernel
theorem dX12_applyTop_64 : decode cX12_applyTop 64 = .ok (.getfield 372, 3) := by decide +kernel
theorem dX12_applyTop_67 : decode cX12_applyTop 67 = .ok (.aload_n 0, 1) := by decide +kernel
theorem dX12_applyTop_68 : decode cX12_applyTop 68 = .ok (.getfield 375, 3) := by decide +kernel
theorem dX12_applyTop_71 : decode cX12_applyTop 71 = .ok (.iconst 1, 1) := by decide +kernel
theorem dX12_applyTop_72 : decode cX12_applyTop 72 = .ok (.isub, 1) := by decide +kernel
theorem dX12_applyTop_73 : decode cX12_applyTop 73 = .ok (.iload_n 1, 1) := by decide +kernel
theorem dX12_applyTop_74 : decode cX12_applyTop 74 = .ok (.bipush 38, 2) := by decide +kernel
theorem dX12_applyTop_76 : decode cX12_applyTop 76 = .ok (.if_icmp .ne 27, 3) := by decide +kernel
theorem dX12_applyTop_103 : decode cX12_applyTop 103 = .ok (.aload_n 0, 1) := by decide +kernel
theorem dX12_applyTop_104 : decode cX12_applyTop 104 = .ok (.getfield 372, 3) := by decide +kernel
theorem dX12_applyTop_107 : decode cX12_applyTop 107 = .ok (.aload_n 0, 1) := by decide +kernel
theorem dX12_applyTop_108 : decode cX12_applyTop 108 = .ok (.getfield 375, 3) := by decide +kernel
theorem dX12_applyTop_111 : decode cX12_applyTop 111 = .ok (.iconst 1, 1) := by decide +kernel
theorem dX12_applyTop_112 : decode cX12_applyTop 112 = .ok (.isub, 1) := by decide +kernel
theorem dX12_applyTop_113 : decode cX12_applyTop 113 = .ok (.iaload, 1) := by decide +kernel
theorem dX12_applyTop_114 : decode cX12_applyTop 114 = .ok (.aload_n 0, 1) := by decide +kernel
theorem dX12_applyTop_115 : decode cX12_applyTop 115 = .ok (.getfield 372, 3) := by decide +kernel
theorem dX12_applyTop_118 : decode cX12_applyTop 118 = .ok (.aload_n 0, 1) := by decide +kernel
theorem dX12_applyTop_119 : decode cX12_applyTop 119 = .ok (.getfield 375, 3) := by decide +kernel
theorem dX12_applyTop_122 : decode cX12_applyTop 122 = .ok (.iaload, 1) := by decide +kernel
theorem dX12_applyTop_123 : decode cX12_applyTop 123 = .ok (.ior, 1) := by decide +kernel
theorem dX12_applyTop_124 : decode cX12_applyTop 124 = .ok (.iastore, 1) := by decide +kernel
theorem dX12_applyTop_125 : decode cX12_applyTop 125 = .ok (.return_, 1) := by decide +kernel
theorem dX12_applyTop_79 : decode cX12_applyTop 79 = .ok (.aload_n 0, 1) := by decide +kernel
theorem dX12_applyTop_80 : decode cX12_applyTop 80 = .ok (.getfield 372, 3) := by decide +kernel
theorem dX12_applyTop_83 : decode cX12_applyTop 83 = .ok (.aload_n 0, 1) := by decide +kernel
theorem dX12_applyTop_84 : decode cX12_applyTop 84 = .ok (.getfield 375, 3) := by decide +kernel
theorem dX12_applyTop_87 : decode cX12_applyTop 87 = .ok (.iconst 1, 1) := by decide +kernel
theorem dX12_applyTop_88 : decode cX12_applyTop 88 = .ok (.isub, 1) := by decide +kernel
theorem dX12_applyTop_89 : decode cX12_applyTop 89 = .ok (.iaload, 1) := by decide +kernel
theorem dX12_applyTop_90 : decode cX12_applyTop 90 = .ok (.aload_n 0, 1) := by decide +kernel
theorem dX12_applyTop_91 : decode cX12_applyTop 91 = .ok (.getfield 372, 3) := by decide +kernel
theorem dX12_applyTop_94 : decode cX12_applyTop 94 = .ok (.aload_n 0, 1) := by decide +kernel
theorem dX12_applyTop_95 : decode cX12_applyTop 95 = .ok (.getfield 375, 3) := by decide +kernel
theorem dX12_applyTop_98 : decode cX12_applyTop 98 = .ok (.iaload, 1) := by decide +kernel
theorem dX12_applyTop_99 : decode cX12_applyTop 99 = .ok (.iand, 1) := by decide +kernel
theorem dX12_applyTop_100 : decode cX12_applyTop 100 = .ok (.goto 24, 3) := by decide +kernel
theorem dX12_applyTop_28 : decode cX12_applyTop 28 = .ok (.aload_n 0, 1) := by decide +kernel
theorem dX12_applyTop_29 : decode cX12_applyTop 29 = .ok (.getfield 372, 3) := by decide +kernel
theorem dX12_applyTop_32 : decode cX12_applyTop 32 = .ok (.aload_n 0, 1) := by decide +kernel
theorem dX12_applyTop_33 : decode cX12_applyTop 33 = .ok (.getfield 375, 3) := by decide +kernel
theorem dX12_applyTop_36 : decode cX12_applyTop 36 = .ok (.iconst 1, 1) := by decide +kernel
theorem dX12_applyTop_37 : decode cX12_applyTop 37 = .ok (.isub, 1) := by decide +kernel
theorem dX12_applyTop_38 : decode cX12_applyTop 38 = .ok (.iconst 1, 1) := by decide +kernel
theorem dX12_applyTop_39 : decode cX12_applyTop 39 = .ok (.aload_n 0, 1) := by decide +kernel
theorem dX12_applyTop_40 : decode cX12_applyTop 40 = .ok (.getfield 372, 3) := by decide +kernel
theorem dX12_applyTop_43 : decode cX12_applyTop 43 = .ok (.aload_n 0, 1) := by decide +kernel
theorem dX12_applyTop_44 : decode cX12_applyTop 44 = .ok (.getfield 375, 3) := by decide +kernel
theorem dX12_applyTop_47 : decode cX12_applyTop 47 = .ok (.iconst 1, 1) := by decide +kernel
theorem dX12_applyTop_48 : decode cX12_applyTop 48 = .ok (.isub, 1) := by decide +kernel
theorem dX12_applyTop_49 : decode cX12_applyTop 49 = .ok (.iaload, 1) := by decide +kernel
theorem dX12_applyTop_50 : decode cX12_applyTop 50 = .ok (.isub, 1) := by decide +kernel
theorem dX12_applyTop_51 : decode cX12_applyTop 51 = .ok (.iastore, 1) := by decide +kernel
theorem dX12_applyTop_52 : decode cX12_applyTop 52 = .ok (.return_, 1) := by decide +kernel
set_option maxHeartbeats 2000000 in
set_option maxRecDepth 100000 in
theorem m_binding (l : Launch) (D : va_G) (g : Nat → Nat) (ka : Nat → ClassId) (ad : Nat → Nat) (i : Nat → Nat → Int32) (r : Nat → Nat → Nat) (L : Nat → Nat → Int64) (d : Nat → Nat → UInt64) (x : Int32) (hO : OkI i) (hR : RS r) (sz : Nat)  : Met l yX12_binding wsX12_binding ({ frames := 0, cells := 0, slots := 0, locals := 0 }) (va_Pc [.int x] (sj_B D (hwc g ka i r L d) (hT ka) sz (gx ad (va_A (hwc g ka i r L d) sz)))) (sj_Qi (S := Unit) D (fun v u => ((0 : Int) ≤ v.toInt ∧ v.toInt ≤ 2) ∧ (v.toInt = bnd x.toInt)) (fun _ => hwc g ka i r L d) (fun _ => []) (va_A (hwc g ka i r L d) sz)) 0 0 (va_A (hwc g ka i r L d) sz) := by
  refine x_met (Ex := gx ad) (cc := cX12_binding) (maxL := 1) (ret := (some .int)) (by decide) rfl (Nat.le_of_ble_eq_true rfl) ?_
  intro p e s m below meth c A ls hx hb hr hml hts hown hlocks hA hS hH hK hE hl
  have hown : s.vm.findClass RX12 = some m.cls := hown
  have hl : lv_has ls 1 [(0, .int x)] := hl
  have hK : va_K D vwCl (hT ka) s := hK
  have hg_1 := s_rng x
  refine lv_iload_n hx hb dX12_binding_0 rfl (lv_at hl 0 rfl) ?_
  refine lv_bipush (v := 38) hx hb dX12_binding_1 (by decide) ?_
  refine lv_icmp_ne (tgt := 10) hx hb dX12_binding_3 (by decide) (fun c_2 => ?_) (fun c_2 => ?_)
  · skip
    have h_3 := s_ne (rfl : x.toInt = _) (show (38 : Int32).toInt = 38 from rfl) c_2
    refine lv_iload_n hx hb dX12_binding_10 rfl (lv_at hl 0 rfl) ?_
    refine lv_bipush (v := 124) hx hb dX12_binding_11 (by decide) ?_
    refine lv_icmp_ne (tgt := 20) hx hb dX12_binding_13 (by decide) (fun c_4 => ?_) (fun c_4 => ?_)
    · skip
      have h_5 := s_ne (rfl : x.toInt = _) (show (124 : Int32).toInt = 124 from rfl) c_4
      refine lv_iconst (v := 0) hx hb dX12_binding_20 (by decide) ?_
      have hlv_6 : (0 : Int32).toInt = 0 := rfl
      exact sj_zret hx hb hr hlocks rfl hS () ⟨⟨by decide, by decide⟩, (by unfold bnd; rw [if_neg (by omega), if_neg (by omega)]; rfl)⟩ hH (sj_Knil hK) (Nat.le_of_ble_eq_true rfl) (Nat.le_of_ble_eq_true rfl) dX12_binding_21
    · skip
      have h_7 := s_eq (rfl : x.toInt = _) (show (124 : Int32).toInt = 124 from rfl) c_4
      refine lv_iconst (v := 1) hx hb dX12_binding_16 (by decide) ?_
      refine lv_goto (tgt := 21) hx hb dX12_binding_17 (by decide) ?_
      have hlv_8 : (1 : Int32).toInt = 1 := rfl
      exact sj_zret hx hb hr hlocks rfl hS () ⟨⟨by decide, by decide⟩, (by unfold bnd; rw [if_neg (by omega), if_pos (by omega)]; rfl)⟩ hH (sj_Knil hK) (Nat.le_of_ble_eq_true rfl) (Nat.le_of_ble_eq_true rfl) dX12_binding_21
  · skip
    have h_9 := s_eq (rfl : x.toInt = _) (show (38 : Int32).toInt = 38 from rfl) c_2
    refine lv_iconst (v := 2) hx hb dX12_binding_6 (by decide) ?_
    refine lv_goto (tgt := 21) hx hb dX12_binding_7 (by decide) ?_
    have hlv_10 : (2 : Int32).toInt = 2 := rfl
    exact sj_zret hx hb hr hlocks rfl hS () ⟨⟨by decide, by decide⟩, (by unfold bnd; rw [if_pos (by omega)]; rfl)⟩ hH (sj_Knil hK) (Nat.le_of_ble_eq_true rfl) (Nat.le_of_ble_eq_true rfl) dX12_binding_21
set_option maxHeartbeats 2000000 in
set_option maxRecDepth 100000 in
theorem m_applyTop (l : Launch) (D : va_G) (g : Nat → Nat) (ka : Nat → ClassId) (ad : Nat → Nat) (i : Nat → Nat → Int32) (r : Nat → Nat → Nat) (L : Nat → Nat → Int64) (d : Nat → Nat → UInt64)  (hO : OkI i) (hR : RS r) (sz : Nat) (hs1 : 1 ≤ (i 36 66).toInt) (hv1 : ((i 419 ((i 36 66).toInt - 1).toNat).toInt = 33 ∧ 1 ≤ (i 36 65).toInt) ∨ ((i 419 ((i 36 66).toInt - 1).toNat).toInt ≠ 33 ∧ 2 ≤ (i 36 65).toInt)) : Met l yX12_applyTop wsX12_applyTop ({ frames := 0, cells := 0, slots := 0, locals := 0 }) (va_Pc [.ref (g 36)] (sj_B D (hwc g ka i r L d) (hT ka) sz (gx ad (va_A (hwc g ka i r L d) sz)))) (sj_Qv (S := (Nat → Nat → Int32)) D (fun u => OkI u ∧ (∀ a b, ¬ ((a = 36 ∧ (b = 65 ∨ b = 66)) ∨ a = 418) → u a b = i a b) ∧ ((u 36 66).toInt = (i 36 66).toInt - 1 ∧ (((i 419 ((i 36 66).toInt - 1).toNat).toInt = 33 ∧ (u 36 65).toInt = (i 36 65).toInt) ∨ ((i 419 ((i 36 66).toInt - 1).toNat).toInt ≠ 33 ∧ (u 36 65).toInt = (i 36 65).toInt - 1))) ∧ (stkV (u 418) (u 36 65).toInt.toNat = mapp (i 419 ((i 36 66).toInt - 1).toNat).toInt (stkV (i 418) (i 36 65).toInt.toNat))) (fun u => hwc g ka u r L d) (fun _ => []) (va_A (hwc g ka i r L d) sz)) 0 0 (va_A (hwc g ka i r L d) sz) := by
  refine x_met (Ex := gx ad) (cc := cX12_applyTop) (maxL := 2) (ret := none) (by decide) rfl (Nat.le_of_ble_eq_true rfl) ?_
  intro p e s m below meth c A ls hx hb hr hml hts hown hlocks hA hS hH hK hE hl
  have hown : s.vm.findClass RX12 = some m.cls := hown
  have in12 : ∀ w ∈ wsX120, w ∈ wsX12_applyTop := (fun _ h => (List.mem_cons_of_mem _ (List.mem_append_right _ h)))
  have wd0 := hts (.fieldLink RX12 366 "StoryDeskModel" "signs" "[C") (List.mem_cons_of_mem _ (List.mem_append_left _ lm0))
  have wd1 := hts (.fieldLink RX12 369 "StoryDeskModel" "signed" "I") (List.mem_cons_of_mem _ (List.mem_append_left _ lm1))
  have wd2 := hts (.fieldLink RX12 375 "StoryDeskModel" "valued" "I") (List.mem_cons_of_mem _ (List.mem_append_left _ lm3))
  have wd3 := hts (.fieldLink RX12 372 "StoryDeskModel" "values" "[I") (List.mem_cons_of_mem _ (List.mem_append_left _ lm2))
  have hl : lv_has ls 2 [(0, .ref (g 36))] := hl
  have hK : va_K D vwCl (hT ka) s := hK
  refine lv_aload_n hx hb dX12_applyTop_0 rfl (lv_at hl 0 rfl) ?_
  refine h_getr (ci := 12) (C := RX12) (F := TX12) (N := 86) hx hb hts in12 hown hK hH (by decide) (rfl : kd 36 = 12) (by decide) rfl 64 (by decide) wd0 (fun _ h9 => h9) (by decide) rfl (t := 419) (hR 36 64 rfl) (by decide) dX12_applyTop_1 ?_
  refine lv_aload_n hx hb dX12_applyTop_4 rfl (lv_at hl 0 rfl) ?_
  have bx_1 : (0 : Int) ≤ (i 36 66).toInt ∧ (i 36 66).toInt ≤ 42 := hO 36 66
  refine h_geti (ci := 12) (C := RX12) (F := TX12) (N := 86) hx hb hts in12 hown hK hH (by decide) (rfl : kd 36 = 12) (by decide) rfl 66 (by decide) wd1 (fun _ h9 => h9) (by decide) rfl dX12_applyTop_5 ?_
  refine lv_iconst (v := 1) hx hb dX12_applyTop_8 (by decide) ?_
  refine lv_isub hx hb dX12_applyTop_9 ?_
  obtain ⟨z_2, ez_2, hz_2⟩ := s_sub (rfl : (i 36 66).toInt = _) (show (1 : Int32).toInt = 1 from rfl) (by omega) (by omega)
  refine sj_i ez_2 ?_
  have bx_3 : (0 : Int) ≤ (i 419 ((i 36 66).toInt - 1).toNat).toInt ∧ (i 419 ((i 36 66).toInt - 1).toNat).toInt ≤ 65535 := hO 419 ((i 36 66).toInt - 1).toNat
  refine h_cald hx hb hK hH (by decide) (rfl : kd 419 = 14) (s_vin (N := 42) (rfl : z_2.toInt = _) (rfl : ln 419 = 42) (by omega) (by omega)) dX12_applyTop_10 ?_
  have ek_4 : z_2.toNatClampNeg = ((i 36 66).toInt - 1).toNat := (s_cl (show z_2.toInt = (i 36 66).toInt - 1 by omega))
  refine sj_i (y := (i 419 ((i 36 66).toInt - 1).toNat)) (by rw [ek_4]) ?_
  refine lv_istore_n (lv' := [(1, .int (i 419 ((i 36 66).toInt - 1).toNat)), (0, .ref (g 36))]) hx hb dX12_applyTop_11 rfl hl (by decide) rfl (fun ls hl => ?_)
  refine lv_aload_n hx hb dX12_applyTop_12 rfl (lv_at hl 1 rfl) ?_
  refine lv_dup hx hb dX12_applyTop_13 rfl ?_
  refine h_geti (ci := 12) (C := RX12) (F := TX12) (N := 86) hx hb hts in12 hown hK hH (by decide) (rfl : kd 36 = 12) (by decide) rfl 66 (by decide) wd1 (fun _ h9 => h9) (by decide) rfl dX12_applyTop_14 ?_
  refine lv_iconst (v := 1) hx hb dX12_applyTop_17 (by decide) ?_
  refine lv_isub hx hb dX12_applyTop_18 ?_
  obtain ⟨z_5, ez_5, hz_5⟩ := s_sub (rfl : (i 36 66).toInt = _) (show (1 : Int32).toInt = 1 from rfl) (by omega) (by omega)
  refine sj_i ez_5 ?_
  have hO_6 := okp hO (n := 36) (k := 66) (v := z_5) (show (0 : Int) ≤ (z_5 : Int32).toInt ∧ (z_5 : Int32).toInt ≤ 42 from ⟨by omega, by omega⟩)
  refine h_puti (ty := .int) (ci := 12) (C := RX12) (F := TX12) (N := 86) hx hb hts in12 tyX12 tyX12_ok nmX12 hown hK hH hS (by decide) (rfl : kd 36 = 12) (by decide) rfl 66 (by decide) wd1 (fun _ h9 => h9) rfl (by decide +kernel) rfl rfl (by decide) rfl dX12_applyTop_19 (fun H locs hH hS => ?_)
  refine lv_iload_n hx hb dX12_applyTop_22 rfl (lv_at hl 0 rfl) ?_
  refine lv_bipush (v := 33) hx hb dX12_applyTop_23 (by decide) ?_
  refine lv_icmp_ne (tgt := 53) hx hb dX12_applyTop_25 (by decide) (fun c_7 => ?_) (fun c_7 => ?_)
  · skip
    have h_8 := s_ne (rfl : (i 419 ((i 36 66).toInt - 1).toNat).toInt = _) (show (33 : Int32).toInt = 33 from rfl) c_7
    refine lv_aload_n hx hb dX12_applyTop_53 rfl (lv_at hl 1 rfl) ?_
    refine lv_dup hx hb dX12_applyTop_54 rfl ?_
    have bx_9 : (0 : Int) ≤ (i 36 65).toInt ∧ (i 36 65).toInt ≤ 42 := hO 36 65
    refine h_geti (ci := 12) (C := RX12) (F := TX12) (N := 86) hx hb hts in12 hown hK hH (by decide) (rfl : kd 36 = 12) (by decide) rfl 65 (by decide) wd2 (fun _ h9 => h9) (by decide) rfl dX12_applyTop_55 ?_
    refine sj_i (y := (i 36 65)) (up2_k _ _ (by decide)) ?_
    refine lv_iconst (v := 1) hx hb dX12_applyTop_58 (by decide) ?_
    refine lv_isub hx hb dX12_applyTop_59 ?_
    obtain ⟨z_10, ez_10, hz_10⟩ := s_sub (rfl : (i 36 65).toInt = _) (show (1 : Int32).toInt = 1 from rfl) (by omega) (by omega)
    refine sj_i ez_10 ?_
    have hO_11 := okp hO_6 (n := 36) (k := 65) (v := z_10) (show (0 : Int) ≤ (z_10 : Int32).toInt ∧ (z_10 : Int32).toInt ≤ 42 from ⟨by omega, by omega⟩)
    refine h_puti (ty := .int) (ci := 12) (C := RX12) (F := TX12) (N := 86) hx hb hts in12 tyX12 tyX12_ok nmX12 hown hK hH hS (by decide) (rfl : kd 36 = 12) (by decide) rfl 65 (by decide) wd2 (fun _ h9 => h9) rfl (by decide +kernel) rfl rfl (by decide) rfl dX12_applyTop_60 (fun H locs hH hS => ?_)
    refine lv_aload_n hx hb dX12_applyTop_63 rfl (lv_at hl 1 rfl) ?_
    refine h_getr (ci := 12) (C := RX12) (F := TX12) (N := 86) hx hb hts in12 hown hK hH (by decide) (rfl : kd 36 = 12) (by decide) rfl 63 (by decide) wd3 (fun _ h9 => h9) (by decide) rfl (t := 418) (hR 36 63 rfl) (by decide) dX12_applyTop_64 ?_
    refine lv_aload_n hx hb dX12_applyTop_67 rfl (lv_at hl 1 rfl) ?_
    refine h_geti (ci := 12) (C := RX12) (F := TX12) (N := 86) hx hb hts in12 hown hK hH (by decide) (rfl : kd 36 = 12) (by decide) rfl 65 (by decide) wd2 (fun _ h9 => h9) (by decide) rfl dX12_applyTop_68 ?_
    refine sj_i (y := z_10) (up2_at _ _ _ _) ?_
    refine lv_iconst (v := 1) hx hb dX12_applyTop_71 (by decide) ?_
    refine lv_isub hx hb dX12_applyTop_72 ?_
    obtain ⟨z_12, ez_12, hz_12⟩ := s_sub (rfl : z_10.toInt = _) (show (1 : Int32).toInt = 1 from rfl) (by omega) (by omega)
    refine sj_i ez_12 ?_
    refine lv_iload_n hx hb dX12_applyTop_73 rfl (lv_at hl 0 rfl) ?_
    refine lv_bipush (v := 38) hx hb dX12_applyTop_74 (by decide) ?_
    refine lv_icmp_ne (tgt := 103) hx hb dX12_applyTop_76 (by decide) (fun c_13 => ?_) (fun c_13 => ?_)
    · skip
      have h_14 := s_ne (rfl : (i 419 ((i 36 66).toInt - 1).toNat).toInt = _) (show (38 : Int32).toInt = 38 from rfl) c_13
      refine lv_aload_n hx hb dX12_applyTop_103 rfl (lv_at hl 1 rfl) ?_
      refine h_getr (ci := 12) (C := RX12) (F := TX12) (N := 86) hx hb hts in12 hown hK hH (by decide) (rfl : kd 36 = 12) (by decide) rfl 63 (by decide) wd3 (fun _ h9 => h9) (by decide) rfl (t := 418) (hR 36 63 rfl) (by decide) dX12_applyTop_104 ?_
      refine lv_aload_n hx hb dX12_applyTop_107 rfl (lv_at hl 1 rfl) ?_
      refine h_geti (ci := 12) (C := RX12) (F := TX12) (N := 86) hx hb hts in12 hown hK hH (by decide) (rfl : kd 36 = 12) (by decide) rfl 65 (by decide) wd2 (fun _ h9 => h9) (by decide) rfl dX12_applyTop_108 ?_
      refine sj_i (y := z_10) (up2_at _ _ _ _) ?_
      refine lv_iconst (v := 1) hx hb dX12_applyTop_111 (by decide) ?_
      refine lv_isub hx hb dX12_applyTop_112 ?_
      obtain ⟨z_15, ez_15, hz_15⟩ := s_sub (rfl : z_10.toInt = _) (show (1 : Int32).toInt = 1 from rfl) (by omega) (by omega)
      refine sj_i ez_15 ?_
      have bx_16 : (0 : Int) ≤ (i 418 ((i 36 65).toInt - 2).toNat).toInt ∧ (i 418 ((i 36 65).toInt - 2).toNat).toInt ≤ 1 := hO 418 ((i 36 65).toInt - 2).toNat
      refine h_iald hx hb hK hH (by decide) (rfl : kd 418 = 13) (s_vin (N := 42) (rfl : z_15.toInt = _) (rfl : ln 418 = 42) (by omega) (by omega)) dX12_applyTop_113 ?_
      have ek_17 : z_15.toNatClampNeg = ((i 36 65).toInt - 2).toNat := (s_cl (show z_15.toInt = (i 36 65).toInt - 2 by omega))
      refine sj_i (y := (i 418 ((i 36 65).toInt - 2).toNat)) (by rw [ek_17]; exact ((congrFun (up2_n _ _ (by decide)) _).trans (congrFun (up2_n _ _ (by decide)) _))) ?_
      refine lv_aload_n hx hb dX12_applyTop_114 rfl (lv_at hl 1 rfl) ?_
      refine h_getr (ci := 12) (C := RX12) (F := TX12) (N := 86) hx hb hts in12 hown hK hH (by decide) (rfl : kd 36 = 12) (by decide) rfl 63 (by decide) wd3 (fun _ h9 => h9) (by decide) rfl (t := 418) (hR 36 63 rfl) (by decide) dX12_applyTop_115 ?_
      refine lv_aload_n hx hb dX12_applyTop_118 rfl (lv_at hl 1 rfl) ?_
      refine h_geti (ci := 12) (C := RX12) (F := TX12) (N := 86) hx hb hts in12 hown hK hH (by decide) (rfl : kd 36 = 12) (by decide) rfl 65 (by decide) wd2 (fun _ h9 => h9) (by decide) rfl dX12_applyTop_119 ?_
      refine sj_i (y := z_10) (up2_at _ _ _ _) ?_
      have bx_18 : (0 : Int) ≤ (i 418 ((i 36 65).toInt - 1).toNat).toInt ∧ (i 418 ((i 36 65).toInt - 1).toNat).toInt ≤ 1 := hO 418 ((i 36 65).toInt - 1).toNat
      refine h_iald hx hb hK hH (by decide) (rfl : kd 418 = 13) (s_vin (N := 42) (rfl : z_10.toInt = _) (rfl : ln 418 = 42) (by omega) (by omega)) dX12_applyTop_122 ?_
      have ek_19 : z_10.toNatClampNeg = ((i 36 65).toInt - 1).toNat := (s_cl (show z_10.toInt = (i 36 65).toInt - 1 by omega))
      refine sj_i (y := (i 418 ((i 36 65).toInt - 1).toNat)) (by rw [ek_19]; exact ((congrFun (up2_n _ _ (by decide)) _).trans (congrFun (up2_n _ _ (by decide)) _))) ?_
      refine lv_ior hx hb dX12_applyTop_123 ?_
      refine lv_topi (fun z_20 ez_20 => ?_)
      have hz_20 := s_or01 ez_20 ⟨by omega, by omega⟩ ⟨by omega, by omega⟩
      have hz_20r := hz_20.1
      have hO_21 := okp hO_11 (n := 418) (k := ((i 36 65).toInt - 2).toNat) (v := z_20) (show (0 : Int) ≤ (z_20 : Int32).toInt ∧ (z_20 : Int32).toInt ≤ 1 from ⟨by omega, by omega⟩)
      refine h_iast hx hb hK hH hS (by decide) (rfl : kd 418 = 13) (s_vin (N := 42) (rfl : z_12.toInt = _) (rfl : ln 418 = 42) (by omega) (by omega)) dX12_applyTop_124 (fun H locs hH hS => ?_)
      rw [s_cl (show z_12.toInt = (i 36 65).toInt - 2 by omega)] at hH
      have hq_22 : (up2 (up2 (up2 i 36 66 z_5) 36 65 z_10) 418 ((i 36 65).toInt - 2).toNat z_20) 36 65 = z_10 := ((congrFun (up2_n _ _ (by decide)) _).trans (up2_at _ _ _ _))
      have hq_22i := congrArg Int32.toInt hq_22
      have hq_23 : (up2 (up2 (up2 i 36 66 z_5) 36 65 z_10) 418 ((i 36 65).toInt - 2).toNat z_20) 36 66 = z_5 := ((congrFun (up2_n _ _ (by decide)) _).trans ((up2_k _ _ (by decide)).trans (up2_at _ _ _ _)))
      have hq_23i := congrArg Int32.toInt hq_23
      have hv5 : ((up2 (up2 (up2 i 36 66 z_5) 36 65 z_10) 418 ((i 36 65).toInt - 2).toNat z_20) 36 65).toInt = (z_10 : Int32).toInt := congrArg Int32.toInt (((congrFun (up2_n _ _ (by decide)) _).trans (up2_at _ _ _ _)))
      have hrw : (up2 (up2 (up2 i 36 66 z_5) 36 65 z_10) 418 ((i 36 65).toInt - 2).toNat z_20) 418 = upd (i 418) ((i 36 65).toInt - 2).toNat z_20 := ((up2_r _ _ _ _).trans (congrArg (fun f => upd f ((i 36 65).toInt - 2).toNat z_20) ((up2_n _ _ (by decide)).trans (up2_n _ _ (by decide)))))
      exact sj_vret hx hb hr hlocks hS (up2 (up2 (up2 i 36 66 z_5) 36 65 z_10) 418 ((i 36 65).toInt - 2).toNat z_20) ⟨hO_21, (fun a b ha => ((up2_o _ _ (by omega)).trans ((up2_o _ _ (by omega)).trans (up2_o _ _ (by omega))))), ⟨by omega, by omega⟩, (by
      have hk1 : ((i 36 65).toInt - 2).toNat = ((i 36 65).toInt - 2).toNat := by omega
      rw [hrw, hk1, show ((up2 (up2 (up2 i 36 66 z_5) 36 65 z_10) 418 ((i 36 65).toInt - 2).toNat z_20) 36 65).toInt.toNat = ((i 36 65).toInt - 2).toNat + 1 by omega, show (i 36 65).toInt.toNat = ((i 36 65).toInt - 2).toNat + 2 by omega]
      refine stk_two (by omega) ?_
      first
        | (rw [if_pos (by omega), hz_20.2, show ((i 36 65).toInt - 2).toNat + 1 = ((i 36 65).toInt - 1).toNat by omega])
        | (rw [if_neg (by omega), hz_20.2, show ((i 36 65).toInt - 2).toNat + 1 = ((i 36 65).toInt - 1).toNat by omega]))⟩ hH (sj_Knil hK) (Nat.le_of_ble_eq_true rfl) (Nat.le_of_ble_eq_true rfl) dX12_applyTop_125
    · skip
      have h_24 := s_eq (rfl : (i 419 ((i 36 66).toInt - 1).toNat).toInt = _) (show (38 : Int32).toInt = 38 from rfl) c_13
      refine lv_aload_n hx hb dX12_applyTop_79 rfl (lv_at hl 1 rfl) ?_
      refine h_getr (ci := 12) (C := RX12) (F := TX12) (N := 86) hx hb hts in12 hown hK hH (by decide) (rfl : kd 36 = 12) (by decide) rfl 63 (by decide) wd3 (fun _ h9 => h9) (by decide) rfl (t := 418) (hR 36 63 rfl) (by decide) dX12_applyTop_80 ?_
      refine lv_aload_n hx hb dX12_applyTop_83 rfl (lv_at hl 1 rfl) ?_
      refine h_geti (ci := 12) (C := RX12) (F := TX12) (N := 86) hx hb hts in12 hown hK hH (by decide) (rfl : kd 36 = 12) (by decide) rfl 65 (by decide) wd2 (fun _ h9 => h9) (by decide) rfl dX12_applyTop_84 ?_
      refine sj_i (y := z_10) (up2_at _ _ _ _) ?_
      refine lv_iconst (v := 1) hx hb dX12_applyTop_87 (by decide) ?_
      refine lv_isub hx hb dX12_applyTop_88 ?_
      obtain ⟨z_25, ez_25, hz_25⟩ := s_sub (rfl : z_10.toInt = _) (show (1 : Int32).toInt = 1 from rfl) (by omega) (by omega)
      refine sj_i ez_25 ?_
      have bx_26 : (0 : Int) ≤ (i 418 ((i 36 65).toInt - 2).toNat).toInt ∧ (i 418 ((i 36 65).toInt - 2).toNat).toInt ≤ 1 := hO 418 ((i 36 65).toInt - 2).toNat
      refine h_iald hx hb hK hH (by decide) (rfl : kd 418 = 13) (s_vin (N := 42) (rfl : z_25.toInt = _) (rfl : ln 418 = 42) (by omega) (by omega)) dX12_applyTop_89 ?_
      have ek_27 : z_25.toNatClampNeg = ((i 36 65).toInt - 2).toNat := (s_cl (show z_25.toInt = (i 36 65).toInt - 2 by omega))
      refine sj_i (y := (i 418 ((i 36 65).toInt - 2).toNat)) (by rw [ek_27]; exact ((congrFun (up2_n _ _ (by decide)) _).trans (congrFun (up2_n _ _ (by decide)) _))) ?_
      refine lv_aload_n hx hb dX12_applyTop_90 rfl (lv_at hl 1 rfl) ?_
      refine h_getr (ci := 12) (C := RX12) (F := TX12) (N := 86) hx hb hts in12 hown hK hH (by decide) (rfl : kd 36 = 12) (by decide) rfl 63 (by decide) wd3 (fun _ h9 => h9) (by decide) rfl (t := 418) (hR 36 63 rfl) (by decide) dX12_applyTop_91 ?_
      refine lv_aload_n hx hb dX12_applyTop_94 rfl (lv_at hl 1 rfl) ?_
      refine h_geti (ci := 12) (C := RX12) (F := TX12) (N := 86) hx hb hts in12 hown hK hH (by decide) (rfl : kd 36 = 12) (by decide) rfl 65 (by decide) wd2 (fun _ h9 => h9) (by decide) rfl dX12_applyTop_95 ?_
      refine sj_i (y := z_10) (up2_at _ _ _ _) ?_
      have bx_28 : (0 : Int) ≤ (i 418 ((i 36 65).toInt - 1).toNat).toInt ∧ (i 418 ((i 36 65).toInt - 1).toNat).toInt ≤ 1 := hO 418 ((i 36 65).toInt - 1).toNat
      refine h_iald hx hb hK hH (by decide) (rfl : kd 418 = 13) (s_vin (N := 42) (rfl : z_10.toInt = _) (rfl : ln 418 = 42) (by omega) (by omega)) dX12_applyTop_98 ?_
      have ek_29 : z_10.toNatClampNeg = ((i 36 65).toInt - 1).toNat := (s_cl (show z_10.toInt = (i 36 65).toInt - 1 by omega))
      refine sj_i (y := (i 418 ((i 36 65).toInt - 1).toNat)) (by rw [ek_29]; exact ((congrFun (up2_n _ _ (by decide)) _).trans (congrFun (up2_n _ _ (by decide)) _))) ?_
      refine lv_iand hx hb dX12_applyTop_99 ?_
      refine lv_topi (fun z_30 ez_30 => ?_)
      have hz_30 := s_and01 ez_30 ⟨by omega, by omega⟩ ⟨by omega, by omega⟩
      have hz_30r := hz_30.1
      refine lv_goto (tgt := 124) hx hb dX12_applyTop_100 (by decide) ?_
      have hO_31 := okp hO_11 (n := 418) (k := ((i 36 65).toInt - 2).toNat) (v := z_30) (show (0 : Int) ≤ (z_30 : Int32).toInt ∧ (z_30 : Int32).toInt ≤ 1 from ⟨by omega, by omega⟩)
      refine h_iast hx hb hK hH hS (by decide) (rfl : kd 418 = 13) (s_vin (N := 42) (rfl : z_12.toInt = _) (rfl : ln 418 = 42) (by omega) (by omega)) dX12_applyTop_124 (fun H locs hH hS => ?_)
      rw [s_cl (show z_12.toInt = (i 36 65).toInt - 2 by omega)] at hH
      have hq_32 : (up2 (up2 (up2 i 36 66 z_5) 36 65 z_10) 418 ((i 36 65).toInt - 2).toNat z_30) 36 65 = z_10 := ((congrFun (up2_n _ _ (by decide)) _).trans (up2_at _ _ _ _))
      have hq_32i := congrArg Int32.toInt hq_32
      have hq_33 : (up2 (up2 (up2 i 36 66 z_5) 36 65 z_10) 418 ((i 36 65).toInt - 2).toNat z_30) 36 66 = z_5 := ((congrFun (up2_n _ _ (by decide)) _).trans ((up2_k _ _ (by decide)).trans (up2_at _ _ _ _)))
      have hq_33i := congrArg Int32.toInt hq_33
      have hv5 : ((up2 (up2 (up2 i 36 66 z_5) 36 65 z_10) 418 ((i 36 65).toInt - 2).toNat z_30) 36 65).toInt = (z_10 : Int32).toInt := congrArg Int32.toInt (((congrFun (up2_n _ _ (by decide)) _).trans (up2_at _ _ _ _)))
      have hrw : (up2 (up2 (up2 i 36 66 z_5) 36 65 z_10) 418 ((i 36 65).toInt - 2).toNat z_30) 418 = upd (i 418) ((i 36 65).toInt - 2).toNat z_30 := ((up2_r _ _ _ _).trans (congrArg (fun f => upd f ((i 36 65).toInt - 2).toNat z_30) ((up2_n _ _ (by decide)).trans (up2_n _ _ (by decide)))))
      exact sj_vret hx hb hr hlocks hS (up2 (up2 (up2 i 36 66 z_5) 36 65 z_10) 418 ((i 36 65).toInt - 2).toNat z_30) ⟨hO_31, (fun a b ha => ((up2_o _ _ (by omega)).trans ((up2_o _ _ (by omega)).trans (up2_o _ _ (by omega))))), ⟨by omega, by omega⟩, (by
      have hk1 : ((i 36 65).toInt - 2).toNat = ((i 36 65).toInt - 2).toNat := by omega
      rw [hrw, hk1, show ((up2 (up2 (up2 i 36 66 z_5) 36 65 z_10) 418 ((i 36 65).toInt - 2).toNat z_30) 36 65).toInt.toNat = ((i 36 65).toInt - 2).toNat + 1 by omega, show (i 36 65).toInt.toNat = ((i 36 65).toInt - 2).toNat + 2 by omega]
      refine stk_two (by omega) ?_
      first
        | (rw [if_pos (by omega), hz_30.2, show ((i 36 65).toInt - 2).toNat + 1 = ((i 36 65).toInt - 1).toNat by omega])
        | (rw [if_neg (by omega), hz_30.2, show ((i 36 65).toInt - 2).toNat + 1 = ((i 36 65).toInt - 1).toNat by omega]))⟩ hH (sj_Knil hK) (Nat.le_of_ble_eq_true rfl) (Nat.le_of_ble_eq_true rfl) dX12_applyTop_125
  · skip
    have h_34 := s_eq (rfl : (i 419 ((i 36 66).toInt - 1).toNat).toInt = _) (show (33 : Int32).toInt = 33 from rfl) c_7
    refine lv_aload_n hx hb dX12_applyTop_28 rfl (lv_at hl 1 rfl) ?_
    refine h_getr (ci := 12) (C := RX12) (F := TX12) (N := 86) hx hb hts in12 hown hK hH (by decide) (rfl : kd 36 = 12) (by decide) rfl 63 (by decide) wd3 (fun _ h9 => h9) (by decide) rfl (t := 418) (hR 36 63 rfl) (by decide) dX12_applyTop_29 ?_
    refine lv_aload_n hx hb dX12_applyTop_32 rfl (lv_at hl 1 rfl) ?_
    have bx_35 : (0 : Int) ≤ (i 36 65).toInt ∧ (i 36 65).toInt ≤ 42 := hO 36 65
    refine h_geti (ci := 12) (C := RX12) (F := TX12) (N := 86) hx hb hts in12 hown hK hH (by decide) (rfl : kd 36 = 12) (by decide) rfl 65 (by decide) wd2 (fun _ h9 => h9) (by decide) rfl dX12_applyTop_33 ?_
    refine sj_i (y := (i 36 65)) (up2_k _ _ (by decide)) ?_
    refine lv_iconst (v := 1) hx hb dX12_applyTop_36 (by decide) ?_
    refine lv_isub hx hb dX12_applyTop_37 ?_
    obtain ⟨z_36, ez_36, hz_36⟩ := s_sub (rfl : (i 36 65).toInt = _) (show (1 : Int32).toInt = 1 from rfl) (by omega) (by omega)
    refine sj_i ez_36 ?_
    refine lv_iconst (v := 1) hx hb dX12_applyTop_38 (by decide) ?_
    refine lv_aload_n hx hb dX12_applyTop_39 rfl (lv_at hl 1 rfl) ?_
    refine h_getr (ci := 12) (C := RX12) (F := TX12) (N := 86) hx hb hts in12 hown hK hH (by decide) (rfl : kd 36 = 12) (by decide) rfl 63 (by decide) wd3 (fun _ h9 => h9) (by decide) rfl (t := 418) (hR 36 63 rfl) (by decide) dX12_applyTop_40 ?_
    refine lv_aload_n hx hb dX12_applyTop_43 rfl (lv_at hl 1 rfl) ?_
    refine h_geti (ci := 12) (C := RX12) (F := TX12) (N := 86) hx hb hts in12 hown hK hH (by decide) (rfl : kd 36 = 12) (by decide) rfl 65 (by decide) wd2 (fun _ h9 => h9) (by decide) rfl dX12_applyTop_44 ?_
    refine sj_i (y := (i 36 65)) (up2_k _ _ (by decide)) ?_
    refine lv_iconst (v := 1) hx hb dX12_applyTop_47 (by decide) ?_
    refine lv_isub hx hb dX12_applyTop_48 ?_
    obtain ⟨z_37, ez_37, hz_37⟩ := s_sub (rfl : (i 36 65).toInt = _) (show (1 : Int32).toInt = 1 from rfl) (by omega) (by omega)
    refine sj_i ez_37 ?_
    have bx_38 : (0 : Int) ≤ (i 418 ((i 36 65).toInt - 1).toNat).toInt ∧ (i 418 ((i 36 65).toInt - 1).toNat).toInt ≤ 1 := hO 418 ((i 36 65).toInt - 1).toNat
    refine h_iald hx hb hK hH (by decide) (rfl : kd 418 = 13) (s_vin (N := 42) (rfl : z_37.toInt = _) (rfl : ln 418 = 42) (by omega) (by omega)) dX12_applyTop_49 ?_
    have ek_39 : z_37.toNatClampNeg = ((i 36 65).toInt - 1).toNat := (s_cl (show z_37.toInt = (i 36 65).toInt - 1 by omega))
    refine sj_i (y := (i 418 ((i 36 65).toInt - 1).toNat)) (by rw [ek_39]; exact (congrFun (up2_n _ _ (by decide)) _)) ?_
    refine lv_isub hx hb dX12_applyTop_50 ?_
    obtain ⟨z_40, ez_40, hz_40⟩ := s_sub (show (1 : Int32).toInt = 1 from rfl) (rfl : (i 418 ((i 36 65).toInt - 1).toNat).toInt = _) (by omega) (by omega)
    refine sj_i ez_40 ?_
    have hO_41 := okp hO_6 (n := 418) (k := ((i 36 65).toInt - 1).toNat) (v := z_40) (show (0 : Int) ≤ (z_40 : Int32).toInt ∧ (z_40 : Int32).toInt ≤ 1 from ⟨by omega, by omega⟩)
    refine h_iast hx hb hK hH hS (by decide) (rfl : kd 418 = 13) (s_vin (N := 42) (rfl : z_36.toInt = _) (rfl : ln 418 = 42) (by omega) (by omega)) dX12_applyTop_51 (fun H locs hH hS => ?_)
    rw [s_cl (show z_36.toInt = (i 36 65).toInt - 1 by omega)] at hH
    have hq_42 : (up2 (up2 i 36 66 z_5) 418 ((i 36 65).toInt - 1).toNat z_40) 36 65 = (i 36 65) := ((congrFun (up2_n _ _ (by decide)) _).trans (up2_k _ _ (by decide)))
    have hq_42i := congrArg Int32.toInt hq_42
    have hq_43 : (up2 (up2 i 36 66 z_5) 418 ((i 36 65).toInt - 1).toNat z_40) 36 66 = z_5 := ((congrFun (up2_n _ _ (by decide)) _).trans (up2_at _ _ _ _))
    have hq_43i := congrArg Int32.toInt hq_43
    have hv5 : ((up2 (up2 i 36 66 z_5) 418 ((i 36 65).toInt - 1).toNat z_40) 36 65).toInt = ((i 36 65) : Int32).toInt := congrArg Int32.toInt (((congrFun (up2_n _ _ (by decide)) _).trans (up2_k _ _ (by decide))))
    have hrw : (up2 (up2 i 36 66 z_5) 418 ((i 36 65).toInt - 1).toNat z_40) 418 = upd (i 418) ((i 36 65).toInt - 1).toNat z_40 := ((up2_r _ _ _ _).trans (congrArg (fun f => upd f ((i 36 65).toInt - 1).toNat z_40) (up2_n _ _ (by decide))))
    exact sj_vret hx hb hr hlocks hS (up2 (up2 i 36 66 z_5) 418 ((i 36 65).toInt - 1).toNat z_40) ⟨hO_41, (fun a b ha => ((up2_o _ _ (by omega)).trans (up2_o _ _ (by omega)))), ⟨by omega, by omega⟩, (by
      rw [hrw, show ((up2 (up2 i 36 66 z_5) 418 ((i 36 65).toInt - 1).toNat z_40) 36 65).toInt.toNat = ((i 36 65).toInt - 1).toNat + 1 by omega, show (i 36 65).toInt.toNat = ((i 36 65).toInt - 1).toNat + 1 by omega, show (i 419 ((i 36 66).toInt - 1).toNat).toInt = 33 by omega]
      exact stk_not (by omega) ⟨by omega, by omega⟩)⟩ hH (sj_Knil hK) (Nat.le_of_ble_eq_true rfl) (Nat.le_of_ble_eq_true rfl) dX12_applyTop_52
