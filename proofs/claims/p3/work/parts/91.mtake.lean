theorem dX12_special_0 : decode cX12_special 0 = .ok (.iload_n 0, 1) := by decide +kernel
theorem dX12_special_1 : decode cX12_special 1 = .ok (.bipush 123, 2) := by decide +kernel
theorem dX12_special_3 : decode cX12_special 3 = .ok (.if_icmp .eq 33, 3) := by decide +kernel
theorem dX12_special_36 : decode cX12_special 36 = .ok (.iconst 1, 1) := by decide +kernel
theorem dX12_special_37 : decode cX12_special 37 = .ok (.goto 4, 3) := by decide +kernel
theorem dX12_special_41 : decode cX12_special 41 = .ok (.ireturn, 1) := by decide +kernel
theorem dX12_special_6 : decode cX12_special 6 = .ok (.iload_n 0, 1) := by decide +kernel
theorem dX12_special_7 : decode cX12_special 7 = .ok (.bipush 125, 2) := by decide +kernel
theorem dX12_special_9 : decode cX12_special 9 = .ok (.if_icmp .eq 27, 3) := by decide +kernel
theorem dX12_special_12 : decode cX12_special 12 = .ok (.iload_n 0, 1) := by decide +kernel
theorem dX12_special_13 : decode cX12_special 13 = .ok (.bipush 40, 2) := by decide +kernel
theorem dX12_special_15 : decode cX12_special 15 = .ok (.if_icmp .eq 21, 3) := by decide +kernel
theorem dX12_special_18 : decode cX12_special 18 = .ok (.iload_n 0, 1) := by decide +kernel
theorem dX12_special_19 : decode cX12_special 19 = .ok (.bipush 41, 2) := by decide +kernel
theorem dX12_special_21 : decode cX12_special 21 = .ok (.if_icmp .eq 15, 3) := by decide +kernel
theorem dX12_special_24 : decode cX12_special 24 = .ok (.iload_n 0, 1) := by decide +kernel
theorem dX12_special_25 : decode cX12_special 25 = .ok (.bipush 47, 2) := by decide +kernel
theorem dX12_special_27 : decode cX12_special 27 = .ok (.if_icmp .eq 9, 3) := by decide +kernel
theorem dX12_special_30 : decode cX12_special 30 = .ok (.iload_n 0, 1) := by decide +kernel
theorem dX12_special_31 : decode cX12_special 31 = .ok (.bipush 32, 2) := by decide +kernel
theorem dX12_special_33 : decode cX12_special 33 = .ok (.if_icmp .ne 7, 3) := by decide +kernel
theorem dX12_special_40 : decode cX12_special 40 = .ok (.iconst 0, 1) := by decide +kernel
theorem dX12_addPart_0 : decode cX12_addPart 0 = .ok (.aload_n 0, 1) := by decide +kernel
theorem dX12_addPart_1 : decode cX12_addPart 1 = .ok (.getfield 245, 3) := by decide +kernel
theorem dX12_addPart_4 : decode cX12_addPart 4 = .ok (.aload_n 0, 1) := by decide +kernel
theorem dX12_addPart_5 : decode cX12_addPart 5 = .ok (.getfield 248, 3) := by decide +kernel
theorem dX12_addPart_8 : decode cX12_addPart 8 = .ok (.iload_n 1, 1) := by decide +kernel
theorem dX12_addPart_9 : decode cX12_addPart 9 = .ok (.iastore, 1) := by decide +kernel
theorem dX12_addPart_10 : decode cX12_addPart 10 = .ok (.aload_n 0, 1) := by decide +kernel
theorem dX12_addPart_11 : decode cX12_addPart 11 = .ok (.getfield 251, 3) := by decide +kernel
theorem dX12_addPart_14 : decode cX12_addPart 14 = .ok (.aload_n 0, 1) := by decide +kernel
theorem dX12_addPart_15 : decode cX12_addPart 15 = .ok (.getfield 248, 3) := by decide +kernel
theorem dX12_addPart_18 : decode cX12_addPart 18 = .ok (.iload_n 2, 1) := by decide +kernel
theorem dX12_addPart_19 : decode cX12_addPart 19 = .ok (.iastore, 1) := by decide +kernel
theorem dX12_addPart_20 : decode cX12_addPart 20 = .ok (.aload_n 0, 1) := by decide +kernel
theorem dX12_addPart_21 : decode cX12_addPart 21 = .ok (.getfield 254, 3) := by decide +kernel
theorem dX12_addPart_24 : decode cX12_addPart 24 = .ok (.aload_n 0, 1) := by decide +kernel
theorem dX12_addPart_25 : decode cX12_addPart 25 = .ok (.getfield 248, 3) := by decide +kernel
theorem dX12_addPart_28 : decode cX12_addPart 28 = .ok (.iload_n 3, 1) := by decide +kernel
theorem dX12_addPart_29 : decode cX12_addPart 29 = .ok (.iastore, 1) := by decide +kernel
theorem dX12_addPart_30 : decode cX12_addPart 30 = .ok (.aload_n 0, 1) := by decide +kernel
theorem dX12_addPart_31 : decode cX12_addPart 31 = .ok (.dup, 1) := by decide +kernel
theorem dX12_addPart_32 : decode cX12_addPart 32 = .ok (.getfield 248, 3) := by decide +kernel
theorem dX12_addPart_35 : decode cX12_addPart 35 = .ok (.iconst 1, 1) := by decide +kernel
theorem dX12_addPart_36 : decode cX12_addPart 36 = .ok (.iadd, 1) := by decide +kernel
theorem dX12_addPart_37 : decode cX12_addPart 37 = .ok (.putfield 248, 3) := by decide +kernel
theorem dX12_addPart_40 : decode cX12_addPart 40 = .ok (.return_, 1) := by decide +kernel
theorem dX12_openText_0 : decode cX12_openText 0 = .ok (.aload_n 0, 1) := by decide +kernel
theorem dX12_openText_1 : decode cX12_openText 1 = .ok (.getfield 257, 3) := by decide +kernel
theorem dX12_openText_4 : decode cX12_openText 4 = .ok (.aload_n 0, 1) := by decide +kernel
theorem dX12_openText_5 : decode cX12_openText 5 = .ok (.getfield 260, 3) := by decide +kernel
theorem dX12_openText_8 : decode cX12_openText 8 = .ok (.aload_n 0, 1) := by decide +kernel
theorem dX12_openText_9 : decode cX12_openText 9 = .ok (.getfield 263, 3) := by decide +kernel
theorem dX12_openText_12 : decode cX12_openText 12 = .ok (.iastore, 1) := by decide +kernel
theorem dX12_openText_13 : decode cX12_openText 13 = .ok (.aload_n 0, 1) := by decide +kernel
theorem dX12_openText_14 : decode cX12_openText 14 = .ok (.getfield 266, 3) := by decide +kernel
theorem dX12_openText_17 : decode cX12_openText 17 = .ok (.aload_n 0, 1) := by decide +kernel
theorem dX12_openText_18 : decode cX12_openText 18 = .ok (.getfield 260, 3) := by decide +kernel
theorem dX12_openText_21 : decode cX12_openText 21 = .ok (.iconst 0, 1) := by decide +kernel
theorem dX12_openText_22 : decode cX12_openText 22 = .ok (.iastore, 1) := by decide +kernel
theorem dX12_openText_23 : decode cX12_openText 23 = .ok (.aload_n 0, 1) := by decide +kernel
theorem dX12_openText_24 : decode cX12_openText 24 = .ok (.dup, 1) := by decide +kernel
theorem dX12_openText_25 : decode cX12_openText 25 = .ok (.getfield 260, 3) := by decide +kernel
theorem dX12_openText_28 : decode cX12_openText 28 = .ok (.iconst 1, 1) := by decide +kernel
theorem dX12_openText_29 : decode cX12_openText 29 = .ok (.iadd, 1) := by decide +kernel
theorem dX12_openText_30 : decode cX12_openText 30 = .ok (.putfield 260, 3) := by decide +kernel
theorem dX12_openText_33 : decode cX12_openText 33 = .ok (.return_, 1) := by decide +kernel
theorem dX12_takeOne_0 : decode cX12_takeOne 0 = .ok (.aload_n 1, 1) := by decide +kernel
theorem dX12_takeOne_1 : decode cX12_takeOne 1 = .ok (.aload_n 0, 1) := by decide +kernel
theorem dX12_takeOne_2 : decode cX12_takeOne 2 = .ok (.getfield 269, 3) := by decide +kernel
theorem dX12_takeOne_5 : decode cX12_takeOne 5 = .ok (.caload, 1) := by decide +kernel
theorem dX12_takeOne_6 : decode cX12_takeOne 6 = .ok (.bipush 92, 2) := by decide +kernel
theorem dX12_takeOne_8 : decode cX12_takeOne 8 = .ok (.if_icmp .ne 13, 3) := by decide +kernel
theorem dX12_takeOne_21 : decode cX12_takeOne 21 = .ok (.aload_n 0, 1) := by decide +kernel
theorem dX12_takeOne_22 : decode cX12_takeOne 22 = .ok (.getfield 269, 3) := by decide +kernel
theorem dX12_takeOne_25 : decode cX12_takeOne 25 = .ok (.aload_n 0, 1) := by decide +kernel
theorem dX12_takeOne_26 : decode cX12_takeOne 26 = .ok (.getfield 272, 3) := by decide +kernel
theorem dX12_takeOne_29 : decode cX12_takeOne 29 = .ok (.if_icmp .lt 5, 3) := by decide +kernel
theorem dX12_takeOne_34 : decode cX12_takeOne 34 = .ok (.aload_n 0, 1) := by decide +kernel
theorem dX12_takeOne_35 : decode cX12_takeOne 35 = .ok (.getfield 275, 3) := by decide +kernel
theorem dX12_takeOne_38 : decode cX12_takeOne 38 = .ok (.aload_n 0, 1) := by decide +kernel
theorem dX12_takeOne_39 : decode cX12_takeOne 39 = .ok (.getfield 263, 3) := by decide +kernel
theorem dX12_takeOne_42 : decode cX12_takeOne 42 = .ok (.aload_n 1, 1) := by decide +kernel
theorem dX12_takeOne_43 : decode cX12_takeOne 43 = .ok (.aload_n 0, 1) := by decide +kernel
theorem dX12_takeOne_44 : decode cX12_takeOne 44 = .ok (.getfield 269, 3) := by decide +kernel
theorem dX12_takeOne_47 : decode cX12_takeOne 47 = .ok (.caload, 1) := by decide +kernel
theorem dX12_takeOne_48 : decode cX12_takeOne 48 = .ok (.castore, 1) := by decide +kernel
theorem dX12_takeOne_49 : decode cX12_takeOne 49 = .ok (.aload_n 0, 1) := by decide +kernel
theorem dX12_takeOne_50 : decode cX12_takeOne 50 = .ok (.dup, 1) := by decide +kernel
theorem dX12_takeOne_51 : decode cX12_takeOne 51 = .ok (.getfield 263, 3) := by decide +kernel
theorem dX12_takeOne_54 : decode cX12_takeOne 54 = .ok (.iconst 1, 1) := by decide +kernel
theorem dX12_takeOne_55 : decode cX12_takeOne 55 = .ok (.iadd, 1) := by decide +kernel
theorem dX12_takeOne_56 : decode cX12_takeOne 56 = .ok (.putfield 263, 3) := by decide +kernel
theorem dX12_takeOne_59 : decode cX12_takeOne 59 = .ok (.aload_n 0, 1) := by decide +kernel
theorem dX12_takeOne_60 : decode cX12_takeOne 60 = .ok (.getfield 266, 3) := by decide +kernel
theorem dX12_takeOne_63 : decode cX12_takeOne 63 = .ok (.aload_n 0, 1) := by decide +kernel
theorem dX12_takeOne_64 : decode cX12_takeOne 64 = .ok (.getfield 260, 3) := by decide +kernel
theorem dX12_takeOne_67 : decode cX12_takeOne 67 = .ok (.iconst 1, 1) := by decide +kernel
theorem dX12_takeOne_68 : decode cX12_takeOne 68 = .ok (.isub, 1) := by decide +kernel
theorem dX12_takeOne_69 : decode cX12_takeOne 69 = .ok (.dup2, 1) := by decide +kernel
theorem dX12_takeOne_70 : decode cX12_takeOne 70 = .ok (.iaload, 1) := by decide +kernel
theorem dX12_takeOne_71 : decode cX12_takeOne 71 = .ok (.iconst 1, 1) := by decide +kernel
theorem dX12_takeOne_72 : decode cX12_takeOne 72 = .ok (.iadd, 1) := by decide +kernel
theorem dX12_takeOne_73 : decode cX12_takeOne 73 = .ok (.iastore, 1) := by decide +kernel
theorem dX12_takeOne_74 : decode cX12_takeOne 74 = .ok (.aload_n 0, 1) := by decide +kernel
theorem dX12_takeOne_75 : decode cX12_takeOne 75 = .ok (.dup, 1) := by decide +kernel
theorem dX12_takeOne_76 : decode cX12_takeOne 76 = .ok (.getfield 269, 3) := by decide +kernel
theorem dX12_takeOne_79 : decode cX12_takeOne 79 = .ok (.iconst 1, 1) := by decide +kernel
theorem dX12_takeOne_80 : decode cX12_takeOne 80 = .ok (.iadd, 1) := by decide +kernel
theorem dX12_takeOne_81 : decode cX12_takeOne 81 = .ok (.putfield 269, 3) := by decide +kernel
theorem dX12_takeOne_84 : decode cX12_takeOne 84 = .ok (.iconst 1, 1) := by decide +kernel
theorem dX12_takeOne_85 : decode cX12_takeOne 85 = .ok (.ireturn, 1) := by decide +kernel
theorem dX12_takeOne_32 : decode cX12_takeOne 32 = .ok (.iconst 0, 1) := by decide +kernel
theorem dX12_takeOne_33 : decode cX12_takeOne 33 = .ok (.ireturn, 1) := by decide +kernel
theorem dX12_takeOne_11 : decode cX12_takeOne 11 = .ok (.aload_n 0, 1) := by decide +kernel
theorem dX12_takeOne_12 : decode cX12_takeOne 12 = .ok (.dup, 1) := by decide +kernel
theorem dX12_takeOne_13 : decode cX12_takeOne 13 = .ok (.getfield 269, 3) := by decide +kernel
theorem dX12_takeOne_16 : decode cX12_takeOne 16 = .ok (.iconst 1, 1) := by decide +kernel
theorem dX12_takeOne_17 : decode cX12_takeOne 17 = .ok (.iadd, 1) := by decide +kernel
theorem dX12_takeOne_18 : decode cX12_takeOne 18 = .ok (.putfield 269, 3) := by decide +kernel
set_option maxHeartbeats 2000000 in
set_option maxRecDepth 100000 in
theorem m_special (l : Launch) (D : va_G) (g : Nat → Nat) (ka : Nat → ClassId) (ad : Nat → Nat) (i : Nat → Nat → Int32) (r : Nat → Nat → Nat) (L : Nat → Nat → Int64) (d : Nat → Nat → UInt64) (x : Int32) (hO : OkI i) (hR : RS r) (sz : Nat)  : Met l yX12_special wsX12_special ({ frames := 0, cells := 0, slots := 0, locals := 0 }) (va_Pc [.int x] (sj_B D (hwc g ka i r L d) (hT ka) sz (gx ad (va_A (hwc g ka i r L d) sz)))) (sj_Qi (S := Unit) D (fun v u => ((0 : Int) ≤ v.toInt ∧ v.toInt ≤ 1) ∧ ((v.toInt = 1 ∧ (x.toInt = 123 ∨ x.toInt = 125 ∨ x.toInt = 40 ∨ x.toInt = 41 ∨ x.toInt = 47 ∨ x.toInt = 32)) ∨ (v.toInt = 0 ∧ x.toInt ≠ 123 ∧ x.toInt ≠ 125 ∧ x.toInt ≠ 40 ∧ x.toInt ≠ 41 ∧ x.toInt ≠ 47 ∧ x.toInt ≠ 32))) (fun _ => hwc g ka i r L d) (fun _ => []) (va_A (hwc g ka i r L d) sz)) 0 0 (va_A (hwc g ka i r L d) sz) := by
  refine x_met (Ex := gx ad) (cc := cX12_special) (maxL := 1) (ret := (some .boolean)) (by decide) rfl (Nat.le_of_ble_eq_true rfl) ?_
  intro p e s m below meth c A ls hx hb hr hml hts hown hlocks hA hS hH hK hE hl
  have hown : s.vm.findClass RX12 = some m.cls := hown
  have hl : lv_has ls 1 [(0, .int x)] := hl
  have hK : va_K D vwCl (hT ka) s := hK
  have hg_1 := s_rng x
  refine lv_iload_n hx hb dX12_special_0 rfl (lv_at hl 0 rfl) ?_
  refine lv_bipush (v := 123) hx hb dX12_special_1 (by decide) ?_
  refine lv_icmp_eq (tgt := 36) hx hb dX12_special_3 (by decide) (fun c_2 => ?_) (fun c_2 => ?_)
  · skip
    have h_3 := s_eq (rfl : x.toInt = _) (show (123 : Int32).toInt = 123 from rfl) c_2
    refine lv_iconst (v := 1) hx hb dX12_special_36 (by decide) ?_
    refine lv_goto (tgt := 41) hx hb dX12_special_37 (by decide) ?_
    have hlv_4 : (1 : Int32).toInt = 1 := rfl
    exact sj_zret hx hb hr hlocks (by decide +kernel) hS () ⟨⟨by decide, by decide⟩, (by omega)⟩ hH (sj_Knil hK) (Nat.le_of_ble_eq_true rfl) (Nat.le_of_ble_eq_true rfl) dX12_special_41
  · skip
    have h_5 := s_ne (rfl : x.toInt = _) (show (123 : Int32).toInt = 123 from rfl) c_2
    refine lv_iload_n hx hb dX12_special_6 rfl (lv_at hl 0 rfl) ?_
    refine lv_bipush (v := 125) hx hb dX12_special_7 (by decide) ?_
    refine lv_icmp_eq (tgt := 36) hx hb dX12_special_9 (by decide) (fun c_6 => ?_) (fun c_6 => ?_)
    · skip
      have h_7 := s_eq (rfl : x.toInt = _) (show (125 : Int32).toInt = 125 from rfl) c_6
      refine lv_iconst (v := 1) hx hb dX12_special_36 (by decide) ?_
      refine lv_goto (tgt := 41) hx hb dX12_special_37 (by decide) ?_
      have hlv_8 : (1 : Int32).toInt = 1 := rfl
      exact sj_zret hx hb hr hlocks (by decide +kernel) hS () ⟨⟨by decide, by decide⟩, (by omega)⟩ hH (sj_Knil hK) (Nat.le_of_ble_eq_true rfl) (Nat.le_of_ble_eq_true rfl) dX12_special_41
    · skip
      have h_9 := s_ne (rfl : x.toInt = _) (show (125 : Int32).toInt = 125 from rfl) c_6
      refine lv_iload_n hx hb dX12_special_12 rfl (lv_at hl 0 rfl) ?_
      refine lv_bipush (v := 40) hx hb dX12_special_13 (by decide) ?_
      refine lv_icmp_eq (tgt := 36) hx hb dX12_special_15 (by decide) (fun c_10 => ?_) (fun c_10 => ?_)
      · skip
        have h_11 := s_eq (rfl : x.toInt = _) (show (40 : Int32).toInt = 40 from rfl) c_10
        refine lv_iconst (v := 1) hx hb dX12_special_36 (by decide) ?_
        refine lv_goto (tgt := 41) hx hb dX12_special_37 (by decide) ?_
        have hlv_12 : (1 : Int32).toInt = 1 := rfl
        exact sj_zret hx hb hr hlocks (by decide +kernel) hS () ⟨⟨by decide, by decide⟩, (by omega)⟩ hH (sj_Knil hK) (Nat.le_of_ble_eq_true rfl) (Nat.le_of_ble_eq_true rfl) dX12_special_41
      · skip
        have h_13 := s_ne (rfl : x.toInt = _) (show (40 : Int32).toInt = 40 from rfl) c_10
        refine lv_iload_n hx hb dX12_special_18 rfl (lv_at hl 0 rfl) ?_
        refine lv_bipush (v := 41) hx hb dX12_special_19 (by decide) ?_
        refine lv_icmp_eq (tgt := 36) hx hb dX12_special_21 (by decide) (fun c_14 => ?_) (fun c_14 => ?_)
        · skip
          have h_15 := s_eq (rfl : x.toInt = _) (show (41 : Int32).toInt = 41 from rfl) c_14
          refine lv_iconst (v := 1) hx hb dX12_special_36 (by decide) ?_
          refine lv_goto (tgt := 41) hx hb dX12_special_37 (by decide) ?_
          have hlv_16 : (1 : Int32).toInt = 1 := rfl
          exact sj_zret hx hb hr hlocks (by decide +kernel) hS () ⟨⟨by decide, by decide⟩, (by omega)⟩ hH (sj_Knil hK) (Nat.le_of_ble_eq_true rfl) (Nat.le_of_ble_eq_true rfl) dX12_special_41
        · skip
          have h_17 := s_ne (rfl : x.toInt = _) (show (41 : Int32).toInt = 41 from rfl) c_14
          refine lv_iload_n hx hb dX12_special_24 rfl (lv_at hl 0 rfl) ?_
          refine lv_bipush (v := 47) hx hb dX12_special_25 (by decide) ?_
          refine lv_icmp_eq (tgt := 36) hx hb dX12_special_27 (by decide) (fun c_18 => ?_) (fun c_18 => ?_)
          · skip
            have h_19 := s_eq (rfl : x.toInt = _) (show (47 : Int32).toInt = 47 from rfl) c_18
            refine lv_iconst (v := 1) hx hb dX12_special_36 (by decide) ?_
            refine lv_goto (tgt := 41) hx hb dX12_special_37 (by decide) ?_
            have hlv_20 : (1 : Int32).toInt = 1 := rfl
            exact sj_zret hx hb hr hlocks (by decide +kernel) hS () ⟨⟨by decide, by decide⟩, (by omega)⟩ hH (sj_Knil hK) (Nat.le_of_ble_eq_true rfl) (Nat.le_of_ble_eq_true rfl) dX12_special_41
          · skip
            have h_21 := s_ne (rfl : x.toInt = _) (show (47 : Int32).toInt = 47 from rfl) c_18
            refine lv_iload_n hx hb dX12_special_30 rfl (lv_at hl 0 rfl) ?_
            refine lv_bipush (v := 32) hx hb dX12_special_31 (by decide) ?_
            refine lv_icmp_ne (tgt := 40) hx hb dX12_special_33 (by decide) (fun c_22 => ?_) (fun c_22 => ?_)
            · skip
              have h_23 := s_ne (rfl : x.toInt = _) (show (32 : Int32).toInt = 32 from rfl) c_22
              refine lv_iconst (v := 0) hx hb dX12_special_40 (by decide) ?_
              have hlv_24 : (0 : Int32).toInt = 0 := rfl
              exact sj_zret hx hb hr hlocks (by decide +kernel) hS () ⟨⟨by decide, by decide⟩, (by omega)⟩ hH (sj_Knil hK) (Nat.le_of_ble_eq_true rfl) (Nat.le_of_ble_eq_true rfl) dX12_special_41
            · skip
              have h_25 := s_eq (rfl : x.toInt = _) (show (32 : Int32).toInt = 32 from rfl) c_22
              refine lv_iconst (v := 1) hx hb dX12_special_36 (by decide) ?_
              refine lv_goto (tgt := 41) hx hb dX12_special_37 (by decide) ?_
              have hlv_26 : (1 : Int32).toInt = 1 := rfl
              exact sj_zret hx hb hr hlocks (by decide +kernel) hS () ⟨⟨by decide, by decide⟩, (by omega)⟩ hH (sj_Knil hK) (Nat.le_of_ble_eq_true rfl) (Nat.le_of_ble_eq_true rfl) dX12_special_41
set_option maxHeartbeats 2000000 in
set_option maxRecDepth 100000 in
theorem m_addPart (l : Launch) (D : va_G) (g : Nat → Nat) (ka : Nat → ClassId) (ad : Nat → Nat) (i : Nat → Nat → Int32) (r : Nat → Nat → Nat) (L : Nat → Nat → Int64) (d : Nat → Nat → UInt64) (x : Int32) (y : Int32) (z : Int32) (hO : OkI i) (hR : RS r) (sz : Nat) (hp : (i 36 45).toInt ≤ 63) (hex : exI i) (hpk : pOk i x.toInt y.toInt z.toInt) : Met l yX12_addPart wsX12_addPart ({ frames := 0, cells := 0, slots := 0, locals := 0 }) (va_Pc [.ref (g 36), .int x, .int y, .int z] (sj_B D (hwc g ka i r L d) (hT ka) sz (gx ad (va_A (hwc g ka i r L d) sz)))) (sj_Qv (S := (Nat → Nat → Int32)) D (fun u => OkI u ∧ (∀ a b, ¬ ((a = 36 ∧ (b = 45)) ∨ a = 406 ∨ a = 407 ∨ a = 408) → u a b = i a b) ∧ ((u 36 45).toInt = (i 36 45).toInt + 1) ∧ (exI u) ∧ ((x.toInt = 4 ∧ c4 u = c4 i + 1) ∨ (x.toInt ≠ 4 ∧ c4 u = c4 i))) (fun u => hwc g ka u r L d) (fun _ => []) (va_A (hwc g ka i r L d) sz)) 0 0 (va_A (hwc g ka i r L d) sz) := by
  refine x_met (Ex := gx ad) (cc := cX12_addPart) (maxL := 4) (ret := none) (by decide) rfl (Nat.le_of_ble_eq_true rfl) ?_
  intro p e s m below meth c A ls hx hb hr hml hts hown hlocks hA hS hH hK hE hl
  have hown : s.vm.findClass RX12 = some m.cls := hown
  have in12 : ∀ w ∈ wsX120, w ∈ wsX12_addPart := (fun _ h => (List.mem_cons_of_mem _ (List.mem_append_right _ h)))
  have wd0 := hts (.fieldLink RX12 245 "StoryDeskModel" "partKind" "[I") (List.mem_cons_of_mem _ (List.mem_append_left _ lm0))
  have wd1 := hts (.fieldLink RX12 248 "StoryDeskModel" "parts" "I") (List.mem_cons_of_mem _ (List.mem_append_left _ lm1))
  have wd2 := hts (.fieldLink RX12 251 "StoryDeskModel" "partOf" "[I") (List.mem_cons_of_mem _ (List.mem_append_left _ lm2))
  have wd3 := hts (.fieldLink RX12 254 "StoryDeskModel" "partMany" "[I") (List.mem_cons_of_mem _ (List.mem_append_left _ lm3))
  have hl : lv_has ls 4 [(0, .ref (g 36)), (1, .int x), (2, .int y), (3, .int z)] := hl
  have hK : va_K D vwCl (hT ka) s := hK
  have hg_1 := s_rng x
  have hg_2 := s_rng y
  have hg_3 := s_rng z
  have hx45 : (0 : Int) ≤ (i 36 45).toInt ∧ (i 36 45).toInt ≤ 64 := hO 36 45
  have hx49 : (0 : Int) ≤ (i 36 49).toInt ∧ (i 36 49).toInt ≤ 64 := hO 36 49
  have hx52 : (0 : Int) ≤ (i 36 52).toInt ∧ (i 36 52).toInt ≤ 64 := hO 36 52
  have hx54 : (0 : Int) ≤ (i 36 54).toInt ∧ (i 36 54).toInt ≤ 720 := hO 36 54
  have hx55 : (0 : Int) ≤ (i 36 55).toInt ∧ (i 36 55).toInt ≤ 720 := hO 36 55
  refine lv_aload_n hx hb dX12_addPart_0 rfl (lv_at hl 0 rfl) ?_
  refine h_getr (ci := 12) (C := RX12) (F := TX12) (N := 86) hx hb hts in12 hown hK hH (by decide) (rfl : kd 36 = 12) (by decide) rfl 46 (by decide) wd0 (fun _ h9 => h9) (by decide) rfl (t := 406) (hR 36 46 rfl) (by decide) dX12_addPart_1 ?_
  refine lv_aload_n hx hb dX12_addPart_4 rfl (lv_at hl 0 rfl) ?_
  have bx_4 : (0 : Int) ≤ (i 36 45).toInt ∧ (i 36 45).toInt ≤ 64 := hO 36 45
  refine h_geti (ci := 12) (C := RX12) (F := TX12) (N := 86) hx hb hts in12 hown hK hH (by decide) (rfl : kd 36 = 12) (by decide) rfl 45 (by decide) wd1 (fun _ h9 => h9) (by decide) rfl dX12_addPart_5 ?_
  refine lv_iload_n hx hb dX12_addPart_8 rfl (lv_at hl 1 rfl) ?_
  have hO_5 := okp hO (n := 406) (k := ((i 36 45).toInt).toNat) (v := x) (show (-2147483648 : Int) ≤ (x : Int32).toInt ∧ (x : Int32).toInt ≤ 2147483647 from s_rng x)
  refine h_iast hx hb hK hH hS (by decide) (rfl : kd 406 = 13) (s_vin (N := 64) (rfl : (i 36 45).toInt = _) (rfl : ln 406 = 64) (by omega) (by omega)) dX12_addPart_9 (fun H locs hH hS => ?_)
  rw [s_cl (show (i 36 45).toInt = (i 36 45).toInt by omega)] at hH
  refine lv_aload_n hx hb dX12_addPart_10 rfl (lv_at hl 0 rfl) ?_
  refine h_getr (ci := 12) (C := RX12) (F := TX12) (N := 86) hx hb hts in12 hown hK hH (by decide) (rfl : kd 36 = 12) (by decide) rfl 47 (by decide) wd2 (fun _ h9 => h9) (by decide) rfl (t := 407) (hR 36 47 rfl) (by decide) dX12_addPart_11 ?_
  refine lv_aload_n hx hb dX12_addPart_14 rfl (lv_at hl 0 rfl) ?_
  refine h_geti (ci := 12) (C := RX12) (F := TX12) (N := 86) hx hb hts in12 hown hK hH (by decide) (rfl : kd 36 = 12) (by decide) rfl 45 (by decide) wd1 (fun _ h9 => h9) (by decide) rfl dX12_addPart_15 ?_
  refine sj_i (y := (i 36 45)) (congrFun (up2_n _ _ (by decide)) _) ?_
  refine lv_iload_n hx hb dX12_addPart_18 rfl (lv_at hl 2 rfl) ?_
  have hO_6 := okp hO_5 (n := 407) (k := ((i 36 45).toInt).toNat) (v := y) (show (-2147483648 : Int) ≤ (y : Int32).toInt ∧ (y : Int32).toInt ≤ 2147483647 from s_rng y)
  refine h_iast hx hb hK hH hS (by decide) (rfl : kd 407 = 13) (s_vin (N := 64) (rfl : (i 36 45).toInt = _) (rfl : ln 407 = 64) (by omega) (by omega)) dX12_addPart_19 (fun H locs hH hS => ?_)
  rw [s_cl (show (i 36 45).toInt = (i 36 45).toInt by omega)] at hH
  refine lv_aload_n hx hb dX12_addPart_20 rfl (lv_at hl 0 rfl) ?_
  refine h_getr (ci := 12) (C := RX12) (F := TX12) (N := 86) hx hb hts in12 hown hK hH (by decide) (rfl : kd 36 = 12) (by decide) rfl 48 (by decide) wd3 (fun _ h9 => h9) (by decide) rfl (t := 408) (hR 36 48 rfl) (by decide) dX12_addPart_21 ?_
  refine lv_aload_n hx hb dX12_addPart_24 rfl (lv_at hl 0 rfl) ?_
  refine h_geti (ci := 12) (C := RX12) (F := TX12) (N := 86) hx hb hts in12 hown hK hH (by decide) (rfl : kd 36 = 12) (by decide) rfl 45 (by decide) wd1 (fun _ h9 => h9) (by decide) rfl dX12_addPart_25 ?_
  refine sj_i (y := (i 36 45)) ((congrFun (up2_n _ _ (by decide)) _).trans (congrFun (up2_n _ _ (by decide)) _)) ?_
  refine lv_iload_n hx hb dX12_addPart_28 rfl (lv_at hl 3 rfl) ?_
  have hO_7 := okp hO_6 (n := 408) (k := ((i 36 45).toInt).toNat) (v := z) (show (-2147483648 : Int) ≤ (z : Int32).toInt ∧ (z : Int32).toInt ≤ 2147483647 from s_rng z)
  refine h_iast hx hb hK hH hS (by decide) (rfl : kd 408 = 13) (s_vin (N := 64) (rfl : (i 36 45).toInt = _) (rfl : ln 408 = 64) (by omega) (by omega)) dX12_addPart_29 (fun H locs hH hS => ?_)
  rw [s_cl (show (i 36 45).toInt = (i 36 45).toInt by omega)] at hH
  refine lv_aload_n hx hb dX12_addPart_30 rfl (lv_at hl 0 rfl) ?_
  refine lv_dup hx hb dX12_addPart_31 rfl ?_
  refine h_geti (ci := 12) (C := RX12) (F := TX12) (N := 86) hx hb hts in12 hown hK hH (by decide) (rfl : kd 36 = 12) (by decide) rfl 45 (by decide) wd1 (fun _ h9 => h9) (by decide) rfl dX12_addPart_32 ?_
  refine sj_i (y := (i 36 45)) ((congrFun (up2_n _ _ (by decide)) _).trans ((congrFun (up2_n _ _ (by decide)) _).trans (congrFun (up2_n _ _ (by decide)) _))) ?_
  refine lv_iconst (v := 1) hx hb dX12_addPart_35 (by decide) ?_
  refine lv_iadd hx hb dX12_addPart_36 ?_
  obtain ⟨z_8, ez_8, hz_8⟩ := s_add (rfl : (i 36 45).toInt = _) (show (1 : Int32).toInt = 1 from rfl) (by omega) (by omega)
  refine sj_i ez_8 ?_
  have hO_9 := okp hO_7 (n := 36) (k := 45) (v := z_8) (show (0 : Int) ≤ (z_8 : Int32).toInt ∧ (z_8 : Int32).toInt ≤ 64 from ⟨by omega, by omega⟩)
  refine h_puti (ty := .int) (ci := 12) (C := RX12) (F := TX12) (N := 86) hx hb hts in12 tyX12 tyX12_ok nmX12 hown hK hH hS (by decide) (rfl : kd 36 = 12) (by decide) rfl 45 (by decide) wd1 (fun _ h9 => h9) rfl (by decide +kernel) rfl rfl (by decide) rfl dX12_addPart_37 (fun H locs hH hS => ?_)
  have hp_10 : ((up2 (up2 (up2 (up2 i 406 ((i 36 45).toInt).toNat x) 407 ((i 36 45).toInt).toNat y) 408 ((i 36 45).toInt).toNat z) 36 45 z_8) 36 45).toInt = (z_8 : Int32).toInt := congrArg Int32.toInt ((up2_at _ _ _ _))
  have hp_11 : ((up2 (up2 (up2 (up2 i 406 ((i 36 45).toInt).toNat x) 407 ((i 36 45).toInt).toNat y) 408 ((i 36 45).toInt).toNat z) 36 45 z_8) 36 45).toInt = (z_8 : Int32).toInt := congrArg Int32.toInt ((up2_at _ _ _ _))
  have hq_12 : ((up2 (up2 (up2 (up2 i 406 ((i 36 45).toInt).toNat x) 407 ((i 36 45).toInt).toNat y) 408 ((i 36 45).toInt).toNat z) 36 45 z_8) 406 (i 36 45).toInt.toNat).toInt = (x : Int32).toInt := congrArg Int32.toInt (((congrFun (up2_n _ _ (by decide)) _).trans ((congrFun (up2_n _ _ (by decide)) _).trans ((congrFun (up2_n _ _ (by decide)) _).trans (up2_at _ _ _ _)))))
  have hq_13 : ((up2 (up2 (up2 (up2 i 406 ((i 36 45).toInt).toNat x) 407 ((i 36 45).toInt).toNat y) 408 ((i 36 45).toInt).toNat z) 36 45 z_8) 407 (i 36 45).toInt.toNat).toInt = (y : Int32).toInt := congrArg Int32.toInt (((congrFun (up2_n _ _ (by decide)) _).trans ((congrFun (up2_n _ _ (by decide)) _).trans (up2_at _ _ _ _))))
  have hq_14 : ((up2 (up2 (up2 (up2 i 406 ((i 36 45).toInt).toNat x) 407 ((i 36 45).toInt).toNat y) 408 ((i 36 45).toInt).toNat z) 36 45 z_8) 408 (i 36 45).toInt.toNat).toInt = (z : Int32).toInt := congrArg Int32.toInt (((congrFun (up2_n _ _ (by decide)) _).trans (up2_at _ _ _ _)))
  have hoth : ∀ k : Nat, k ≠ (i 36 45).toInt.toNat → (up2 (up2 (up2 (up2 i 406 ((i 36 45).toInt).toNat x) 407 ((i 36 45).toInt).toNat y) 408 ((i 36 45).toInt).toNat z) 36 45 z_8) 406 k = i 406 k ∧ (up2 (up2 (up2 (up2 i 406 ((i 36 45).toInt).toNat x) 407 ((i 36 45).toInt).toNat y) 408 ((i 36 45).toInt).toNat z) 36 45 z_8) 407 k = i 407 k ∧ (up2 (up2 (up2 (up2 i 406 ((i 36 45).toInt).toNat x) 407 ((i 36 45).toInt).toNat y) 408 ((i 36 45).toInt).toNat z) 36 45 z_8) 408 k = i 408 k := fun k hk => ⟨((up2_o _ _ (by omega)).trans ((up2_o _ _ (by omega)).trans ((up2_o _ _ (by omega)).trans (up2_o _ _ (by omega))))), ((up2_o _ _ (by omega)).trans ((up2_o _ _ (by omega)).trans ((up2_o _ _ (by omega)).trans (up2_o _ _ (by omega))))), ((up2_o _ _ (by omega)).trans ((up2_o _ _ (by omega)).trans ((up2_o _ _ (by omega)).trans (up2_o _ _ (by omega)))))⟩
  have hp_15 : ((up2 (up2 (up2 (up2 i 406 ((i 36 45).toInt).toNat x) 407 ((i 36 45).toInt).toNat y) 408 ((i 36 45).toInt).toNat z) 36 45 z_8) 36 49).toInt = ((i 36 49) : Int32).toInt := congrArg Int32.toInt (((up2_k _ _ (by decide)).trans ((congrFun (up2_n _ _ (by decide)) _).trans ((congrFun (up2_n _ _ (by decide)) _).trans (congrFun (up2_n _ _ (by decide)) _)))))
  have h49e : (up2 (up2 (up2 (up2 i 406 ((i 36 45).toInt).toNat x) 407 ((i 36 45).toInt).toNat y) 408 ((i 36 45).toInt).toNat z) 36 45 z_8) 36 49 = i 36 49 := ((up2_o _ _ (by omega)).trans ((up2_o _ _ (by omega)).trans ((up2_o _ _ (by omega)).trans (up2_o _ _ (by omega)))))
  have hV_16 : exI (up2 (up2 (up2 (up2 i 406 ((i 36 45).toInt).toNat x) 407 ((i 36 45).toInt).toNat y) 408 ((i 36 45).toInt).toNat z) 36 45 z_8) := (exI_part hex (by omega) (by omega) h49e ((up2_o _ _ (by omega)).trans ((up2_o _ _ (by omega)).trans ((up2_o _ _ (by omega)).trans (up2_o _ _ (by omega))))) hoth (funext fun b => ((up2_o _ _ (by omega)).trans ((up2_o _ _ (by omega)).trans ((up2_o _ _ (by omega)).trans (up2_o _ _ (by omega)))))) (funext fun b => ((up2_o _ _ (by omega)).trans ((up2_o _ _ (by omega)).trans ((up2_o _ _ (by omega)).trans (up2_o _ _ (by omega)))))) (by unfold pOk at hpk; unfold exU; omega))
  have hV_17 : (x.toInt = 4 ∧ c4 (up2 (up2 (up2 (up2 i 406 ((i 36 45).toInt).toNat x) 407 ((i 36 45).toInt).toNat y) 408 ((i 36 45).toInt).toNat z) 36 45 z_8) = c4 i + 1) ∨ (x.toInt ≠ 4 ∧ c4 (up2 (up2 (up2 (up2 i 406 ((i 36 45).toInt).toNat x) 407 ((i 36 45).toInt).toNat y) 408 ((i 36 45).toInt).toNat z) 36 45 z_8) = c4 i) := (c4_part (by omega) (by omega) (fun k hk => (hoth k hk).1) (by omega))
  exact sj_vret hx hb hr hlocks hS (up2 (up2 (up2 (up2 i 406 ((i 36 45).toInt).toNat x) 407 ((i 36 45).toInt).toNat y) 408 ((i 36 45).toInt).toNat z) 36 45 z_8) ⟨hO_9, (fun a b ha => ((up2_o _ _ (by omega)).trans ((up2_o _ _ (by omega)).trans ((up2_o _ _ (by omega)).trans (up2_o _ _ (by omega)))))), (by omega), hV_16, hV_17⟩ hH (sj_Knil hK) (Nat.le_of_ble_eq_true rfl) (Nat.le_of_ble_eq_true rfl) dX12_addPart_40
set_option maxHeartbeats 2000000 in
set_option maxRecDepth 100000 in
theorem m_openText (l : Launch) (D : va_G) (g : Nat → Nat) (ka : Nat → ClassId) (ad : Nat → Nat) (i : Nat → Nat → Int32) (r : Nat → Nat → Nat) (L : Nat → Nat → Int64) (d : Nat → Nat → UInt64)  (hO : OkI i) (hR : RS r) (sz : Nat) (ht : (i 36 49).toInt ≤ 63) (hex : exI i) : Met l yX12_openText wsX12_openText ({ frames := 0, cells := 0, slots := 0, locals := 0 }) (va_Pc [.ref (g 36)] (sj_B D (hwc g ka i r L d) (hT ka) sz (gx ad (va_A (hwc g ka i r L d) sz)))) (sj_Qv (S := (Nat → Nat → Int32)) D (fun u => OkI u ∧ (∀ a b, ¬ ((a = 36 ∧ (b = 49)) ∨ a = 409 ∨ a = 410) → u a b = i a b) ∧ (exI u) ∧ ((u 36 49).toInt = (i 36 49).toInt + 1) ∧ (lsz u = 0) ∧ (∀ k : Nat, k ≠ (i 36 49).toInt.toNat → u 410 k = i 410 k)) (fun u => hwc g ka u r L d) (fun _ => []) (va_A (hwc g ka i r L d) sz)) 0 0 (va_A (hwc g ka i r L d) sz) := by
  refine x_met (Ex := gx ad) (cc := cX12_openText) (maxL := 1) (ret := none) (by decide) rfl (Nat.le_of_ble_eq_true rfl) ?_
  intro p e s m below meth c A ls hx hb hr hml hts hown hlocks hA hS hH hK hE hl
  have hown : s.vm.findClass RX12 = some m.cls := hown
  have in12 : ∀ w ∈ wsX120, w ∈ wsX12_openText := (fun _ h => (List.mem_cons_of_mem _ (List.mem_append_right _ h)))
  have wd0 := hts (.fieldLink RX12 257 "StoryDeskModel" "textAt" "[I") (List.mem_cons_of_mem _ (List.mem_append_left _ lm0))
  have wd1 := hts (.fieldLink RX12 260 "StoryDeskModel" "texts" "I") (List.mem_cons_of_mem _ (List.mem_append_left _ lm1))
  have wd2 := hts (.fieldLink RX12 263 "StoryDeskModel" "pooled" "I") (List.mem_cons_of_mem _ (List.mem_append_left _ lm2))
  have wd3 := hts (.fieldLink RX12 266 "StoryDeskModel" "textSize" "[I") (List.mem_cons_of_mem _ (List.mem_append_left _ lm3))
  have hl : lv_has ls 1 [(0, .ref (g 36))] := hl
  have hK : va_K D vwCl (hT ka) s := hK
  have hx45 : (0 : Int) ≤ (i 36 45).toInt ∧ (i 36 45).toInt ≤ 64 := hO 36 45
  have hx49 : (0 : Int) ≤ (i 36 49).toInt ∧ (i 36 49).toInt ≤ 64 := hO 36 49
  have hx52 : (0 : Int) ≤ (i 36 52).toInt ∧ (i 36 52).toInt ≤ 64 := hO 36 52
  have hx54 : (0 : Int) ≤ (i 36 54).toInt ∧ (i 36 54).toInt ≤ 720 := hO 36 54
  have hx55 : (0 : Int) ≤ (i 36 55).toInt ∧ (i 36 55).toInt ≤ 720 := hO 36 55
  refine lv_aload_n hx hb dX12_openText_0 rfl (lv_at hl 0 rfl) ?_
  refine h_getr (ci := 12) (C := RX12) (F := TX12) (N := 86) hx hb hts in12 hown hK hH (by decide) (rfl : kd 36 = 12) (by decide) rfl 50 (by decide) wd0 (fun _ h9 => h9) (by decide) rfl (t := 409) (hR 36 50 rfl) (by decide) dX12_openText_1 ?_
  refine lv_aload_n hx hb dX12_openText_4 rfl (lv_at hl 0 rfl) ?_
  have bx_1 : (0 : Int) ≤ (i 36 49).toInt ∧ (i 36 49).toInt ≤ 64 := hO 36 49
  refine h_geti (ci := 12) (C := RX12) (F := TX12) (N := 86) hx hb hts in12 hown hK hH (by decide) (rfl : kd 36 = 12) (by decide) rfl 49 (by decide) wd1 (fun _ h9 => h9) (by decide) rfl dX12_openText_5 ?_
  refine lv_aload_n hx hb dX12_openText_8 rfl (lv_at hl 0 rfl) ?_
  have bx_2 : (0 : Int) ≤ (i 36 52).toInt ∧ (i 36 52).toInt ≤ 64 := hO 36 52
  refine h_geti (ci := 12) (C := RX12) (F := TX12) (N := 86) hx hb hts in12 hown hK hH (by decide) (rfl : kd 36 = 12) (by decide) rfl 52 (by decide) wd2 (fun _ h9 => h9) (by decide) rfl dX12_openText_9 ?_
  have hO_3 := okp hO (n := 409) (k := ((i 36 49).toInt).toNat) (v := (i 36 52)) (show (-2147483648 : Int) ≤ ((i 36 52) : Int32).toInt ∧ ((i 36 52) : Int32).toInt ≤ 2147483647 from s_rng (i 36 52))
  refine h_iast hx hb hK hH hS (by decide) (rfl : kd 409 = 13) (s_vin (N := 64) (rfl : (i 36 49).toInt = _) (rfl : ln 409 = 64) (by omega) (by omega)) dX12_openText_12 (fun H locs hH hS => ?_)
  rw [s_cl (show (i 36 49).toInt = (i 36 49).toInt by omega)] at hH
  refine lv_aload_n hx hb dX12_openText_13 rfl (lv_at hl 0 rfl) ?_
  refine h_getr (ci := 12) (C := RX12) (F := TX12) (N := 86) hx hb hts in12 hown hK hH (by decide) (rfl : kd 36 = 12) (by decide) rfl 51 (by decide) wd3 (fun _ h9 => h9) (by decide) rfl (t := 410) (hR 36 51 rfl) (by decide) dX12_openText_14 ?_
  refine lv_aload_n hx hb dX12_openText_17 rfl (lv_at hl 0 rfl) ?_
  refine h_geti (ci := 12) (C := RX12) (F := TX12) (N := 86) hx hb hts in12 hown hK hH (by decide) (rfl : kd 36 = 12) (by decide) rfl 49 (by decide) wd1 (fun _ h9 => h9) (by decide) rfl dX12_openText_18 ?_
  refine sj_i (y := (i 36 49)) (congrFun (up2_n _ _ (by decide)) _) ?_
  refine lv_iconst (v := 0) hx hb dX12_openText_21 (by decide) ?_
  have hO_4 := okp hO_3 (n := 410) (k := ((i 36 49).toInt).toNat) (v := 0) (show (-2147483648 : Int) ≤ (0 : Int32).toInt ∧ (0 : Int32).toInt ≤ 2147483647 from s_rng 0)
  refine h_iast hx hb hK hH hS (by decide) (rfl : kd 410 = 13) (s_vin (N := 64) (rfl : (i 36 49).toInt = _) (rfl : ln 410 = 64) (by omega) (by omega)) dX12_openText_22 (fun H locs hH hS => ?_)
  rw [s_cl (show (i 36 49).toInt = (i 36 49).toInt by omega)] at hH
  refine lv_aload_n hx hb dX12_openText_23 rfl (lv_at hl 0 rfl) ?_
  refine lv_dup hx hb dX12_openText_24 rfl ?_
  refine h_geti (ci := 12) (C := RX12) (F := TX12) (N := 86) hx hb hts in12 hown hK hH (by decide) (rfl : kd 36 = 12) (by decide) rfl 49 (by decide) wd1 (fun _ h9 => h9) (by decide) rfl dX12_openText_25 ?_
  refine sj_i (y := (i 36 49)) ((congrFun (up2_n _ _ (by decide)) _).trans (congrFun (up2_n _ _ (by decide)) _)) ?_
  refine lv_iconst (v := 1) hx hb dX12_openText_28 (by decide) ?_
  refine lv_iadd hx hb dX12_openText_29 ?_
  obtain ⟨z_5, ez_5, hz_5⟩ := s_add (rfl : (i 36 49).toInt = _) (show (1 : Int32).toInt = 1 from rfl) (by omega) (by omega)
  refine sj_i ez_5 ?_
  have hO_6 := okp hO_4 (n := 36) (k := 49) (v := z_5) (show (0 : Int) ≤ (z_5 : Int32).toInt ∧ (z_5 : Int32).toInt ≤ 64 from ⟨by omega, by omega⟩)
  refine h_puti (ty := .int) (ci := 12) (C := RX12) (F := TX12) (N := 86) hx hb hts in12 tyX12 tyX12_ok nmX12 hown hK hH hS (by decide) (rfl : kd 36 = 12) (by decide) rfl 49 (by decide) wd1 (fun _ h9 => h9) rfl (by decide +kernel) rfl rfl (by decide) rfl dX12_openText_30 (fun H locs hH hS => ?_)
  have hp_7 : ((up2 (up2 (up2 i 409 ((i 36 49).toInt).toNat (i 36 52)) 410 ((i 36 49).toInt).toNat 0) 36 49 z_5) 36 49).toInt = (z_5 : Int32).toInt := congrArg Int32.toInt ((up2_at _ _ _ _))
  have hq_8 : ((up2 (up2 (up2 i 409 ((i 36 49).toInt).toNat (i 36 52)) 410 ((i 36 49).toInt).toNat 0) 36 49 z_5) 409 (i 36 49).toInt.toNat).toInt = ((i 36 52) : Int32).toInt := congrArg Int32.toInt (((congrFun (up2_n _ _ (by decide)) _).trans ((congrFun (up2_n _ _ (by decide)) _).trans (up2_at _ _ _ _))))
  have hq_9 : ((up2 (up2 (up2 i 409 ((i 36 49).toInt).toNat (i 36 52)) 410 ((i 36 49).toInt).toNat 0) 36 49 z_5) 410 (i 36 49).toInt.toNat).toInt = (0 : Int32).toInt := congrArg Int32.toInt (((congrFun (up2_n _ _ (by decide)) _).trans (up2_at _ _ _ _)))
  have hl0 : (0 : Int32).toInt = 0 := rfl
  have hV_10 : exI (up2 (up2 (up2 i 409 ((i 36 49).toInt).toNat (i 36 52)) 410 ((i 36 49).toInt).toNat 0) 36 49 z_5) := (exI_open hex (by omega) (by omega) (by omega) ((up2_o _ _ (by omega)).trans ((up2_o _ _ (by omega)).trans (up2_o _ _ (by omega)))) ((up2_o _ _ (by omega)).trans ((up2_o _ _ (by omega)).trans (up2_o _ _ (by omega)))) (funext fun b => ((up2_o _ _ (by omega)).trans ((up2_o _ _ (by omega)).trans (up2_o _ _ (by omega))))) (funext fun b => ((up2_o _ _ (by omega)).trans ((up2_o _ _ (by omega)).trans (up2_o _ _ (by omega))))) (funext fun b => ((up2_o _ _ (by omega)).trans ((up2_o _ _ (by omega)).trans (up2_o _ _ (by omega))))) (by omega) (by omega) (fun k hk => ⟨((up2_o _ _ (by omega)).trans ((up2_o _ _ (by omega)).trans (up2_o _ _ (by omega)))), ((up2_o _ _ (by omega)).trans ((up2_o _ _ (by omega)).trans (up2_o _ _ (by omega))))⟩))
  have hV_11 : ((up2 (up2 (up2 i 409 ((i 36 49).toInt).toNat (i 36 52)) 410 ((i 36 49).toInt).toNat 0) 36 49 z_5) 36 49).toInt = (i 36 49).toInt + 1 := (by omega)
  have hV_12 : lsz (up2 (up2 (up2 i 409 ((i 36 49).toInt).toNat (i 36 52)) 410 ((i 36 49).toInt).toNat 0) 36 49 z_5) = 0 := (by unfold lsz; rw [show (((up2 (up2 (up2 i 409 ((i 36 49).toInt).toNat (i 36 52)) 410 ((i 36 49).toInt).toNat 0) 36 49 z_5) 36 49).toInt - 1).toNat = (i 36 49).toInt.toNat by omega]; omega)
  have hV_13 : ∀ k : Nat, k ≠ (i 36 49).toInt.toNat → (up2 (up2 (up2 i 409 ((i 36 49).toInt).toNat (i 36 52)) 410 ((i 36 49).toInt).toNat 0) 36 49 z_5) 410 k = i 410 k := (fun k hk => ((up2_o _ _ (by omega)).trans ((up2_o _ _ (by omega)).trans (up2_o _ _ (by omega)))))
  exact sj_vret hx hb hr hlocks hS (up2 (up2 (up2 i 409 ((i 36 49).toInt).toNat (i 36 52)) 410 ((i 36 49).toInt).toNat 0) 36 49 z_5) ⟨hO_6, (fun a b ha => ((up2_o _ _ (by omega)).trans ((up2_o _ _ (by omega)).trans (up2_o _ _ (by omega))))), hV_10, hV_11, hV_12, hV_13⟩ hH (sj_Knil hK) (Nat.le_of_ble_eq_true rfl) (Nat.le_of_ble_eq_true rfl) dX12_openText_33
set_option maxHeartbeats 2000000 in
set_option maxRecDepth 100000 in
theorem m_takeOne_T (l : Launch) (D : va_G) (g : Nat → Nat) (ka : Nat → ClassId) (ad : Nat → Nat) (i : Nat → Nat → Int32) (r : Nat → Nat → Nat) (L : Nat → Nat → Int64) (d : Nat → Nat → UInt64)  (hO : OkI i) (hR : RS r) (sz : Nat) (hpu : (i 36 54).toInt < (i 36 55).toInt) (hul : (i 36 55).toInt ≤ 480) (ht1 : 1 ≤ (i 36 49).toInt) (hpo : (i 36 52).toInt ≤ 63) (hex : exI i) : Met l yX12_takeOne wsX12_takeOne ({ frames := 0, cells := 0, slots := 0, locals := 0 }) (va_Pc [.ref (g 36), .ref (g 379)] (sj_B D (hwc g ka i r L d) (hT ka) sz (gx ad (va_A (hwc g ka i r L d) sz)))) (sj_Qi (S := (Nat → Nat → Int32)) D (fun v u => OkI u ∧ (∀ a b, ¬ ((a = 36 ∧ (b = 52 ∨ b = 54)) ∨ a = 410 ∨ a = 411) → u a b = i a b) ∧ ((0 : Int) ≤ v.toInt ∧ v.toInt ≤ 1) ∧ ((v.toInt = 1 ∧ (((i 379 (i 36 54).toInt.toNat).toInt ≠ 92 ∧ (u 36 54).toInt = (i 36 54).toInt + 1) ∨ ((i 379 (i 36 54).toInt.toNat).toInt = 92 ∧ (i 36 54).toInt + 1 < (i 36 55).toInt ∧ (u 36 54).toInt = (i 36 54).toInt + 2)) ∧ (u 36 52).toInt = (i 36 52).toInt + 1 ∧ lsz u = lsz i + 1 ∧ (∀ k : Nat, k ≠ ((i 36 49).toInt - 1).toNat → u 410 k = i 410 k) ∧ exI u) ∨ (v.toInt = 0 ∧ (i 379 (i 36 54).toInt.toNat).toInt = 92 ∧ (i 36 55).toInt ≤ (i 36 54).toInt + 1))) (fun u => hwc g ka u r L d) (fun _ => []) (va_A (hwc g ka i r L d) sz)) 0 0 (va_A (hwc g ka i r L d) sz) := by
  refine x_met (Ex := gx ad) (cc := cX12_takeOne) (maxL := 2) (ret := (some .boolean)) (by decide) rfl (Nat.le_of_ble_eq_true rfl) ?_
  intro p e s m below meth c A ls hx hb hr hml hts hown hlocks hA hS hH hK hE hl
  have hown : s.vm.findClass RX12 = some m.cls := hown
  have in12 : ∀ w ∈ wsX120, w ∈ wsX12_takeOne := (fun _ h => (List.mem_cons_of_mem _ (List.mem_append_right _ h)))
  have wd0 := hts (.fieldLink RX12 269 "StoryDeskModel" "place" "I") (List.mem_cons_of_mem _ (List.mem_append_left _ lm0))
  have wd1 := hts (.fieldLink RX12 272 "StoryDeskModel" "until" "I") (List.mem_cons_of_mem _ (List.mem_append_left _ lm1))
  have wd2 := hts (.fieldLink RX12 275 "StoryDeskModel" "pool" "[C") (List.mem_cons_of_mem _ (List.mem_append_left _ lm2))
  have wd3 := hts (.fieldLink RX12 263 "StoryDeskModel" "pooled" "I") (List.mem_cons_of_mem _ (List.mem_append_left _ lm3))
  have wd4 := hts (.fieldLink RX12 266 "StoryDeskModel" "textSize" "[I") (List.mem_cons_of_mem _ (List.mem_append_left _ lm4))
  have wd5 := hts (.fieldLink RX12 260 "StoryDeskModel" "texts" "I") (List.mem_cons_of_mem _ (List.mem_append_left _ lm5))
  have hl : lv_has ls 2 [(0, .ref (g 36)), (1, .ref (g 379))] := hl
  have hK : va_K D vwCl (hT ka) s := hK
  have hx45 : (0 : Int) ≤ (i 36 45).toInt ∧ (i 36 45).toInt ≤ 64 := hO 36 45
  have hx49 : (0 : Int) ≤ (i 36 49).toInt ∧ (i 36 49).toInt ≤ 64 := hO 36 49
  have hx52 : (0 : Int) ≤ (i 36 52).toInt ∧ (i 36 52).toInt ≤ 64 := hO 36 52
  have hx54 : (0 : Int) ≤ (i 36 54).toInt ∧ (i 36 54).toInt ≤ 720 := hO 36 54
  have hx55 : (0 : Int) ≤ (i 36 55).toInt ∧ (i 36 55).toInt ≤ 720 := hO 36 55
  have hw9 := hex.2 ((i 36 49).toInt - 1).toNat (by omega)
  have hw1 := hw9.1
  have hw2 := hw9.2.1
  have hw3 := hw9.2.2
  refine lv_aload_n hx hb dX12_takeOne_0 rfl (lv_at hl 1 rfl) ?_
  refine lv_aload_n hx hb dX12_takeOne_1 rfl (lv_at hl 0 rfl) ?_
  have bx_1 : (0 : Int) ≤ (i 36 54).toInt ∧ (i 36 54).toInt ≤ 720 := hO 36 54
  refine h_geti (ci := 12) (C := RX12) (F := TX12) (N := 86) hx hb hts in12 hown hK hH (by decide) (rfl : kd 36 = 12) (by decide) rfl 54 (by decide) wd0 (fun _ h9 => h9) (by decide) rfl dX12_takeOne_2 ?_
  have bx_2 : (0 : Int) ≤ (i 379 ((i 36 54).toInt).toNat).toInt ∧ (i 379 ((i 36 54).toInt).toNat).toInt ≤ 65535 := hO 379 ((i 36 54).toInt).toNat
  refine h_cald hx hb hK hH (by decide) (rfl : kd 379 = 14) (s_vin (N := 480) (rfl : (i 36 54).toInt = _) (rfl : ln 379 = 480) (by omega) (by omega)) dX12_takeOne_5 ?_
  have ek_3 : (i 36 54).toNatClampNeg = ((i 36 54).toInt).toNat := (s_cl (show (i 36 54).toInt = (i 36 54).toInt by omega))
  refine sj_i (y := (i 379 ((i 36 54).toInt).toNat)) (by rw [ek_3]) ?_
  refine lv_bipush (v := 92) hx hb dX12_takeOne_6 (by decide) ?_
  refine lv_icmp_ne (tgt := 21) hx hb dX12_takeOne_8 (by decide) (fun c_4 => ?_) (fun c_4 => ?_)
  · skip
    have h_5 := s_ne (rfl : (i 379 ((i 36 54).toInt).toNat).toInt = _) (show (92 : Int32).toInt = 92 from rfl) c_4
    refine lv_aload_n hx hb dX12_takeOne_21 rfl (lv_at hl 0 rfl) ?_
    refine h_geti (ci := 12) (C := RX12) (F := TX12) (N := 86) hx hb hts in12 hown hK hH (by decide) (rfl : kd 36 = 12) (by decide) rfl 54 (by decide) wd0 (fun _ h9 => h9) (by decide) rfl dX12_takeOne_22 ?_
    refine lv_aload_n hx hb dX12_takeOne_25 rfl (lv_at hl 0 rfl) ?_
    have bx_6 : (0 : Int) ≤ (i 36 55).toInt ∧ (i 36 55).toInt ≤ 720 := hO 36 55
    refine h_geti (ci := 12) (C := RX12) (F := TX12) (N := 86) hx hb hts in12 hown hK hH (by decide) (rfl : kd 36 = 12) (by decide) rfl 55 (by decide) wd1 (fun _ h9 => h9) (by decide) rfl dX12_takeOne_26 ?_
    refine lv_icmp_lt (tgt := 34) hx hb dX12_takeOne_29 (by decide) (fun c_7 => ?_) (fun c_7 => ?_)
    · skip
      have h_8 := s_lt (rfl : (i 36 54).toInt = _) (rfl : (i 36 55).toInt = _) c_7
      refine lv_aload_n hx hb dX12_takeOne_34 rfl (lv_at hl 0 rfl) ?_
      refine h_getr (ci := 12) (C := RX12) (F := TX12) (N := 86) hx hb hts in12 hown hK hH (by decide) (rfl : kd 36 = 12) (by decide) rfl 53 (by decide) wd2 (fun _ h9 => h9) (by decide) rfl (t := 411) (hR 36 53 rfl) (by decide) dX12_takeOne_35 ?_
      refine lv_aload_n hx hb dX12_takeOne_38 rfl (lv_at hl 0 rfl) ?_
      have bx_9 : (0 : Int) ≤ (i 36 52).toInt ∧ (i 36 52).toInt ≤ 64 := hO 36 52
      refine h_geti (ci := 12) (C := RX12) (F := TX12) (N := 86) hx hb hts in12 hown hK hH (by decide) (rfl : kd 36 = 12) (by decide) rfl 52 (by decide) wd3 (fun _ h9 => h9) (by decide) rfl dX12_takeOne_39 ?_
      refine lv_aload_n hx hb dX12_takeOne_42 rfl (lv_at hl 1 rfl) ?_
      refine lv_aload_n hx hb dX12_takeOne_43 rfl (lv_at hl 0 rfl) ?_
      refine h_geti (ci := 12) (C := RX12) (F := TX12) (N := 86) hx hb hts in12 hown hK hH (by decide) (rfl : kd 36 = 12) (by decide) rfl 54 (by decide) wd0 (fun _ h9 => h9) (by decide) rfl dX12_takeOne_44 ?_
      refine h_cald hx hb hK hH (by decide) (rfl : kd 379 = 14) (s_vin (N := 480) (rfl : (i 36 54).toInt = _) (rfl : ln 379 = 480) (by omega) (by omega)) dX12_takeOne_47 ?_
      have ek_10 : (i 36 54).toNatClampNeg = ((i 36 54).toInt).toNat := (s_cl (show (i 36 54).toInt = (i 36 54).toInt by omega))
      refine sj_i (y := (i 379 ((i 36 54).toInt).toNat)) (by rw [ek_10]) ?_
      obtain ⟨z_11, ez_11⟩ : ∃ z, vp_nar .char (i 379 ((i 36 54).toInt).toNat) = z := ⟨_, rfl⟩
      have hz_11 : z_11.toInt = (i 379 ((i 36 54).toInt).toNat).toInt := by rw [← ez_11, s_narc (rfl : (i 379 ((i 36 54).toInt).toNat).toInt = _) (by omega) (by omega)] <;> exact (rfl : (i 379 ((i 36 54).toInt).toNat).toInt = _)
      have hO_12 := okp hO (n := 411) (k := ((i 36 52).toInt).toNat) (v := z_11) (show (0 : Int) ≤ (z_11 : Int32).toInt ∧ (z_11 : Int32).toInt ≤ 65535 from ⟨by omega, by omega⟩)
      refine h_cast hx hb hK hH hS (by decide) (rfl : kd 411 = 14) (s_vin (N := 64) (rfl : (i 36 52).toInt = _) (rfl : ln 411 = 64) (by omega) (by omega)) dX12_takeOne_48 (fun H locs hH hS => ?_)
      rw [ez_11] at hH
      rw [s_cl (show (i 36 52).toInt = (i 36 52).toInt by omega)] at hH
      refine lv_aload_n hx hb dX12_takeOne_49 rfl (lv_at hl 0 rfl) ?_
      refine lv_dup hx hb dX12_takeOne_50 rfl ?_
      refine h_geti (ci := 12) (C := RX12) (F := TX12) (N := 86) hx hb hts in12 hown hK hH (by decide) (rfl : kd 36 = 12) (by decide) rfl 52 (by decide) wd3 (fun _ h9 => h9) (by decide) rfl dX12_takeOne_51 ?_
      refine sj_i (y := (i 36 52)) (congrFun (up2_n _ _ (by decide)) _) ?_
      refine lv_iconst (v := 1) hx hb dX12_takeOne_54 (by decide) ?_
      refine lv_iadd hx hb dX12_takeOne_55 ?_
      obtain ⟨z_13, ez_13, hz_13⟩ := s_add (rfl : (i 36 52).toInt = _) (show (1 : Int32).toInt = 1 from rfl) (by omega) (by omega)
      refine sj_i ez_13 ?_
      have hO_14 := okp hO_12 (n := 36) (k := 52) (v := z_13) (show (0 : Int) ≤ (z_13 : Int32).toInt ∧ (z_13 : Int32).toInt ≤ 64 from ⟨by omega, by omega⟩)
      refine h_puti (ty := .int) (ci := 12) (C := RX12) (F := TX12) (N := 86) hx hb hts in12 tyX12 tyX12_ok nmX12 hown hK hH hS (by decide) (rfl : kd 36 = 12) (by decide) rfl 52 (by decide) wd3 (fun _ h9 => h9) rfl (by decide +kernel) rfl rfl (by decide) rfl dX12_takeOne_56 (fun H locs hH hS => ?_)
      refine lv_aload_n hx hb dX12_takeOne_59 rfl (lv_at hl 0 rfl) ?_
      refine h_getr (ci := 12) (C := RX12) (F := TX12) (N := 86) hx hb hts in12 hown hK hH (by decide) (rfl : kd 36 = 12) (by decide) rfl 51 (by decide) wd4 (fun _ h9 => h9) (by decide) rfl (t := 410) (hR 36 51 rfl) (by decide) dX12_takeOne_60 ?_
      refine lv_aload_n hx hb dX12_takeOne_63 rfl (lv_at hl 0 rfl) ?_
      have bx_15 : (0 : Int) ≤ (i 36 49).toInt ∧ (i 36 49).toInt ≤ 64 := hO 36 49
      refine h_geti (ci := 12) (C := RX12) (F := TX12) (N := 86) hx hb hts in12 hown hK hH (by decide) (rfl : kd 36 = 12) (by decide) rfl 49 (by decide) wd5 (fun _ h9 => h9) (by decide) rfl dX12_takeOne_64 ?_
      refine sj_i (y := (i 36 49)) ((up2_k _ _ (by decide)).trans (congrFun (up2_n _ _ (by decide)) _)) ?_
      refine lv_iconst (v := 1) hx hb dX12_takeOne_67 (by decide) ?_
      refine lv_isub hx hb dX12_takeOne_68 ?_
      obtain ⟨z_16, ez_16, hz_16⟩ := s_sub (rfl : (i 36 49).toInt = _) (show (1 : Int32).toInt = 1 from rfl) (by omega) (by omega)
      refine sj_i ez_16 ?_
      refine lv_dup2_11 hx hb dX12_takeOne_69 rfl rfl ?_
      refine h_iald hx hb hK hH (by decide) (rfl : kd 410 = 13) (s_vin (N := 64) (rfl : z_16.toInt = _) (rfl : ln 410 = 64) (by omega) (by omega)) dX12_takeOne_70 ?_
      have ek_17 : z_16.toNatClampNeg = ((i 36 49).toInt - 1).toNat := (s_cl (show z_16.toInt = (i 36 49).toInt - 1 by omega))
      refine sj_i (y := (i 410 ((i 36 49).toInt - 1).toNat)) (by rw [ek_17]; exact ((congrFun (up2_n _ _ (by decide)) _).trans (congrFun (up2_n _ _ (by decide)) _))) ?_
      refine lv_iconst (v := 1) hx hb dX12_takeOne_71 (by decide) ?_
      refine lv_iadd hx hb dX12_takeOne_72 ?_
      obtain ⟨z_18, ez_18, hz_18⟩ := s_add (rfl : (i 410 ((i 36 49).toInt - 1).toNat).toInt = _) (show (1 : Int32).toInt = 1 from rfl) (by omega) (by omega)
      refine sj_i ez_18 ?_
      have hO_19 := okp hO_14 (n := 410) (k := ((i 36 49).toInt - 1).toNat) (v := z_18) (show (-2147483648 : Int) ≤ (z_18 : Int32).toInt ∧ (z_18 : Int32).toInt ≤ 2147483647 from s_rng z_18)
      refine h_iast hx hb hK hH hS (by decide) (rfl : kd 410 = 13) (s_vin (N := 64) (rfl : z_16.toInt = _) (rfl : ln 410 = 64) (by omega) (by omega)) dX12_takeOne_73 (fun H locs hH hS => ?_)
      rw [s_cl (show z_16.toInt = (i 36 49).toInt - 1 by omega)] at hH
      refine lv_aload_n hx hb dX12_takeOne_74 rfl (lv_at hl 0 rfl) ?_
      refine lv_dup hx hb dX12_takeOne_75 rfl ?_
      refine h_geti (ci := 12) (C := RX12) (F := TX12) (N := 86) hx hb hts in12 hown hK hH (by decide) (rfl : kd 36 = 12) (by decide) rfl 54 (by decide) wd0 (fun _ h9 => h9) (by decide) rfl dX12_takeOne_76 ?_
      refine sj_i (y := (i 36 54)) ((congrFun (up2_n _ _ (by decide)) _).trans ((up2_k _ _ (by decide)).trans (congrFun (up2_n _ _ (by decide)) _))) ?_
      refine lv_iconst (v := 1) hx hb dX12_takeOne_79 (by decide) ?_
      refine lv_iadd hx hb dX12_takeOne_80 ?_
      obtain ⟨z_20, ez_20, hz_20⟩ := s_add (rfl : (i 36 54).toInt = _) (show (1 : Int32).toInt = 1 from rfl) (by omega) (by omega)
      refine sj_i ez_20 ?_
      have hO_21 := okp hO_19 (n := 36) (k := 54) (v := z_20) (show (0 : Int) ≤ (z_20 : Int32).toInt ∧ (z_20 : Int32).toInt ≤ 720 from ⟨by omega, by omega⟩)
      refine h_puti (ty := .int) (ci := 12) (C := RX12) (F := TX12) (N := 86) hx hb hts in12 tyX12 tyX12_ok nmX12 hown hK hH hS (by decide) (rfl : kd 36 = 12) (by decide) rfl 54 (by decide) wd0 (fun _ h9 => h9) rfl (by decide +kernel) rfl rfl (by decide) rfl dX12_takeOne_81 (fun H locs hH hS => ?_)
      refine lv_iconst (v := 1) hx hb dX12_takeOne_84 (by decide) ?_
      have hp_22 : ((up2 (up2 (up2 (up2 i 411 ((i 36 52).toInt).toNat z_11) 36 52 z_13) 410 ((i 36 49).toInt - 1).toNat z_18) 36 54 z_20) 36 52).toInt = (z_13 : Int32).toInt := congrArg Int32.toInt (((up2_k _ _ (by decide)).trans ((congrFun (up2_n _ _ (by decide)) _).trans (up2_at _ _ _ _))))
      have hp_23 : ((up2 (up2 (up2 (up2 i 411 ((i 36 52).toInt).toNat z_11) 36 52 z_13) 410 ((i 36 49).toInt - 1).toNat z_18) 36 54 z_20) 36 54).toInt = (z_20 : Int32).toInt := congrArg Int32.toInt ((up2_at _ _ _ _))
      have hq9 : ((up2 (up2 (up2 (up2 i 411 ((i 36 52).toInt).toNat z_11) 36 52 z_13) 410 ((i 36 49).toInt - 1).toNat z_18) 36 54 z_20) 410 ((i 36 49).toInt - 1).toNat).toInt = (z_18 : Int32).toInt := congrArg Int32.toInt (((congrFun (up2_n _ _ (by decide)) _).trans (up2_at _ _ _ _)))
      have hoth : ∀ k : Nat, k ≠ ((i 36 49).toInt - 1).toNat → (up2 (up2 (up2 (up2 i 411 ((i 36 52).toInt).toNat z_11) 36 52 z_13) 410 ((i 36 49).toInt - 1).toNat z_18) 36 54 z_20) 410 k = i 410 k := fun k hk => ((up2_o _ _ (by omega)).trans ((up2_o _ _ (by omega)).trans ((up2_o _ _ (by omega)).trans (up2_o _ _ (by omega)))))
      have hV_24 : ((1 : Int32).toInt = 1 ∧ (((i 379 (i 36 54).toInt.toNat).toInt ≠ 92 ∧ ((up2 (up2 (up2 (up2 i 411 ((i 36 52).toInt).toNat z_11) 36 52 z_13) 410 ((i 36 49).toInt - 1).toNat z_18) 36 54 z_20) 36 54).toInt = (i 36 54).toInt + 1) ∨ ((i 379 (i 36 54).toInt.toNat).toInt = 92 ∧ (i 36 54).toInt + 1 < (i 36 55).toInt ∧ ((up2 (up2 (up2 (up2 i 411 ((i 36 52).toInt).toNat z_11) 36 52 z_13) 410 ((i 36 49).toInt - 1).toNat z_18) 36 54 z_20) 36 54).toInt = (i 36 54).toInt + 2)) ∧ ((up2 (up2 (up2 (up2 i 411 ((i 36 52).toInt).toNat z_11) 36 52 z_13) 410 ((i 36 49).toInt - 1).toNat z_18) 36 54 z_20) 36 52).toInt = (i 36 52).toInt + 1 ∧ lsz (up2 (up2 (up2 (up2 i 411 ((i 36 52).toInt).toNat z_11) 36 52 z_13) 410 ((i 36 49).toInt - 1).toNat z_18) 36 54 z_20) = lsz i + 1 ∧ (∀ k : Nat, k ≠ ((i 36 49).toInt - 1).toNat → (up2 (up2 (up2 (up2 i 411 ((i 36 52).toInt).toNat z_11) 36 52 z_13) 410 ((i 36 49).toInt - 1).toNat z_18) 36 54 z_20) 410 k = i 410 k) ∧ exI (up2 (up2 (up2 (up2 i 411 ((i 36 52).toInt).toNat z_11) 36 52 z_13) 410 ((i 36 49).toInt - 1).toNat z_18) 36 54 z_20)) ∨ ((1 : Int32).toInt = 0 ∧ (i 379 (i 36 54).toInt.toNat).toInt = 92 ∧ (i 36 55).toInt ≤ (i 36 54).toInt + 1) := (Or.inl ⟨by rfl, by omega, by omega, (by unfold lsz; rw [show (up2 (up2 (up2 (up2 i 411 ((i 36 52).toInt).toNat z_11) 36 52 z_13) 410 ((i 36 49).toInt - 1).toNat z_18) 36 54 z_20) 36 49 = i 36 49 from ((up2_o _ _ (by omega)).trans ((up2_o _ _ (by omega)).trans ((up2_o _ _ (by omega)).trans (up2_o _ _ (by omega)))))]; omega), hoth, (exI_take hex (by omega) ((up2_o _ _ (by omega)).trans ((up2_o _ _ (by omega)).trans ((up2_o _ _ (by omega)).trans (up2_o _ _ (by omega))))) ((up2_o _ _ (by omega)).trans ((up2_o _ _ (by omega)).trans ((up2_o _ _ (by omega)).trans (up2_o _ _ (by omega))))) (by omega) (funext fun b => ((up2_o _ _ (by omega)).trans ((up2_o _ _ (by omega)).trans ((up2_o _ _ (by omega)).trans (up2_o _ _ (by omega)))))) (funext fun b => ((up2_o _ _ (by omega)).trans ((up2_o _ _ (by omega)).trans ((up2_o _ _ (by omega)).trans (up2_o _ _ (by omega)))))) (funext fun b => ((up2_o _ _ (by omega)).trans ((up2_o _ _ (by omega)).trans ((up2_o _ _ (by omega)).trans (up2_o _ _ (by omega)))))) (funext fun b => ((up2_o _ _ (by omega)).trans ((up2_o _ _ (by omega)).trans ((up2_o _ _ (by omega)).trans (up2_o _ _ (by omega)))))) (by omega) hoth)⟩)
      exact sj_zret hx hb hr hlocks (by decide +kernel) hS (up2 (up2 (up2 (up2 i 411 ((i 36 52).toInt).toNat z_11) 36 52 z_13) 410 ((i 36 49).toInt - 1).toNat z_18) 36 54 z_20) ⟨hO_21, (fun a b ha => ((up2_o _ _ (by omega)).trans ((up2_o _ _ (by omega)).trans ((up2_o _ _ (by omega)).trans (up2_o _ _ (by omega)))))), ⟨by decide, by decide⟩, hV_24⟩ hH (sj_Knil hK) (Nat.le_of_ble_eq_true rfl) (Nat.le_of_ble_eq_true rfl) dX12_takeOne_85
    · skip
      have h_25 := s_nlt (rfl : (i 36 54).toInt = _) (rfl : (i 36 55).toInt = _) c_7
      refine lv_iconst (v := 0) hx hb dX12_takeOne_32 (by decide) ?_
      have hV_26 : ((0 : Int32).toInt = 1 ∧ (((i 379 (i 36 54).toInt.toNat).toInt ≠ 92 ∧ (i 36 54).toInt = (i 36 54).toInt + 1) ∨ ((i 379 (i 36 54).toInt.toNat).toInt = 92 ∧ (i 36 54).toInt + 1 < (i 36 55).toInt ∧ (i 36 54).toInt = (i 36 54).toInt + 2)) ∧ (i 36 52).toInt = (i 36 52).toInt + 1 ∧ lsz i = lsz i + 1 ∧ (∀ k : Nat, k ≠ ((i 36 49).toInt - 1).toNat → i 410 k = i 410 k) ∧ exI i) ∨ ((0 : Int32).toInt = 0 ∧ (i 379 (i 36 54).toInt.toNat).toInt = 92 ∧ (i 36 55).toInt ≤ (i 36 54).toInt + 1) := (Or.inr ⟨by rfl, by omega, by omega⟩)
      exact sj_zret hx hb hr hlocks (by decide +kernel) hS i ⟨hO, (fun a b ha => rfl), ⟨by decide, by decide⟩, hV_26⟩ hH (sj_Knil hK) (Nat.le_of_ble_eq_true rfl) (Nat.le_of_ble_eq_true rfl) dX12_takeOne_33
  · skip
    have h_27 := s_eq (rfl : (i 379 ((i 36 54).toInt).toNat).toInt = _) (show (92 : Int32).toInt = 92 from rfl) c_4
    refine lv_aload_n hx hb dX12_takeOne_11 rfl (lv_at hl 0 rfl) ?_
    refine lv_dup hx hb dX12_takeOne_12 rfl ?_
    refine h_geti (ci := 12) (C := RX12) (F := TX12) (N := 86) hx hb hts in12 hown hK hH (by decide) (rfl : kd 36 = 12) (by decide) rfl 54 (by decide) wd0 (fun _ h9 => h9) (by decide) rfl dX12_takeOne_13 ?_
    refine lv_iconst (v := 1) hx hb dX12_takeOne_16 (by decide) ?_
    refine lv_iadd hx hb dX12_takeOne_17 ?_
    obtain ⟨z_28, ez_28, hz_28⟩ := s_add (rfl : (i 36 54).toInt = _) (show (1 : Int32).toInt = 1 from rfl) (by omega) (by omega)
    refine sj_i ez_28 ?_
    have hO_29 := okp hO (n := 36) (k := 54) (v := z_28) (show (0 : Int) ≤ (z_28 : Int32).toInt ∧ (z_28 : Int32).toInt ≤ 720 from ⟨by omega, by omega⟩)
    refine h_puti (ty := .int) (ci := 12) (C := RX12) (F := TX12) (N := 86) hx hb hts in12 tyX12 tyX12_ok nmX12 hown hK hH hS (by decide) (rfl : kd 36 = 12) (by decide) rfl 54 (by decide) wd0 (fun _ h9 => h9) rfl (by decide +kernel) rfl rfl (by decide) rfl dX12_takeOne_18 (fun H locs hH hS => ?_)
    refine lv_aload_n hx hb dX12_takeOne_21 rfl (lv_at hl 0 rfl) ?_
    refine h_geti (ci := 12) (C := RX12) (F := TX12) (N := 86) hx hb hts in12 hown hK hH (by decide) (rfl : kd 36 = 12) (by decide) rfl 54 (by decide) wd0 (fun _ h9 => h9) (by decide) rfl dX12_takeOne_22 ?_
    refine sj_i (y := z_28) (up2_at _ _ _ _) ?_
    refine lv_aload_n hx hb dX12_takeOne_25 rfl (lv_at hl 0 rfl) ?_
    have bx_30 : (0 : Int) ≤ (i 36 55).toInt ∧ (i 36 55).toInt ≤ 720 := hO 36 55
    refine h_geti (ci := 12) (C := RX12) (F := TX12) (N := 86) hx hb hts in12 hown hK hH (by decide) (rfl : kd 36 = 12) (by decide) rfl 55 (by decide) wd1 (fun _ h9 => h9) (by decide) rfl dX12_takeOne_26 ?_
    refine sj_i (y := (i 36 55)) (up2_k _ _ (by decide)) ?_
    refine lv_icmp_lt (tgt := 34) hx hb dX12_takeOne_29 (by decide) (fun c_31 => ?_) (fun c_31 => ?_)
    · skip
      have h_32 := s_lt (rfl : z_28.toInt = _) (rfl : (i 36 55).toInt = _) c_31
      refine lv_aload_n hx hb dX12_takeOne_34 rfl (lv_at hl 0 rfl) ?_
      refine h_getr (ci := 12) (C := RX12) (F := TX12) (N := 86) hx hb hts in12 hown hK hH (by decide) (rfl : kd 36 = 12) (by decide) rfl 53 (by decide) wd2 (fun _ h9 => h9) (by decide) rfl (t := 411) (hR 36 53 rfl) (by decide) dX12_takeOne_35 ?_
      refine lv_aload_n hx hb dX12_takeOne_38 rfl (lv_at hl 0 rfl) ?_
      have bx_33 : (0 : Int) ≤ (i 36 52).toInt ∧ (i 36 52).toInt ≤ 64 := hO 36 52
      refine h_geti (ci := 12) (C := RX12) (F := TX12) (N := 86) hx hb hts in12 hown hK hH (by decide) (rfl : kd 36 = 12) (by decide) rfl 52 (by decide) wd3 (fun _ h9 => h9) (by decide) rfl dX12_takeOne_39 ?_
      refine sj_i (y := (i 36 52)) (up2_k _ _ (by decide)) ?_
      refine lv_aload_n hx hb dX12_takeOne_42 rfl (lv_at hl 1 rfl) ?_
      refine lv_aload_n hx hb dX12_takeOne_43 rfl (lv_at hl 0 rfl) ?_
      refine h_geti (ci := 12) (C := RX12) (F := TX12) (N := 86) hx hb hts in12 hown hK hH (by decide) (rfl : kd 36 = 12) (by decide) rfl 54 (by decide) wd0 (fun _ h9 => h9) (by decide) rfl dX12_takeOne_44 ?_
      refine sj_i (y := z_28) (up2_at _ _ _ _) ?_
      have bx_34 : (0 : Int) ≤ (i 379 ((i 36 54).toInt + 1).toNat).toInt ∧ (i 379 ((i 36 54).toInt + 1).toNat).toInt ≤ 65535 := hO 379 ((i 36 54).toInt + 1).toNat
      refine h_cald hx hb hK hH (by decide) (rfl : kd 379 = 14) (s_vin (N := 480) (rfl : z_28.toInt = _) (rfl : ln 379 = 480) (by omega) (by omega)) dX12_takeOne_47 ?_
      have ek_35 : z_28.toNatClampNeg = ((i 36 54).toInt + 1).toNat := (s_cl (show z_28.toInt = (i 36 54).toInt + 1 by omega))
      refine sj_i (y := (i 379 ((i 36 54).toInt + 1).toNat)) (by rw [ek_35]; exact (congrFun (up2_n _ _ (by decide)) _)) ?_
      obtain ⟨z_36, ez_36⟩ : ∃ z, vp_nar .char (i 379 ((i 36 54).toInt + 1).toNat) = z := ⟨_, rfl⟩
      have hz_36 : z_36.toInt = (i 379 ((i 36 54).toInt + 1).toNat).toInt := by rw [← ez_36, s_narc (rfl : (i 379 ((i 36 54).toInt + 1).toNat).toInt = _) (by omega) (by omega)] <;> exact (rfl : (i 379 ((i 36 54).toInt + 1).toNat).toInt = _)
      have hO_37 := okp hO_29 (n := 411) (k := ((i 36 52).toInt).toNat) (v := z_36) (show (0 : Int) ≤ (z_36 : Int32).toInt ∧ (z_36 : Int32).toInt ≤ 65535 from ⟨by omega, by omega⟩)
      refine h_cast hx hb hK hH hS (by decide) (rfl : kd 411 = 14) (s_vin (N := 64) (rfl : (i 36 52).toInt = _) (rfl : ln 411 = 64) (by omega) (by omega)) dX12_takeOne_48 (fun H locs hH hS => ?_)
      rw [ez_36] at hH
      rw [s_cl (show (i 36 52).toInt = (i 36 52).toInt by omega)] at hH
      refine lv_aload_n hx hb dX12_takeOne_49 rfl (lv_at hl 0 rfl) ?_
      refine lv_dup hx hb dX12_takeOne_50 rfl ?_
      refine h_geti (ci := 12) (C := RX12) (F := TX12) (N := 86) hx hb hts in12 hown hK hH (by decide) (rfl : kd 36 = 12) (by decide) rfl 52 (by decide) wd3 (fun _ h9 => h9) (by decide) rfl dX12_takeOne_51 ?_
      refine sj_i (y := (i 36 52)) ((congrFun (up2_n _ _ (by decide)) _).trans (up2_k _ _ (by decide))) ?_
      refine lv_iconst (v := 1) hx hb dX12_takeOne_54 (by decide) ?_
      refine lv_iadd hx hb dX12_takeOne_55 ?_
      obtain ⟨z_38, ez_38, hz_38⟩ := s_add (rfl : (i 36 52).toInt = _) (show (1 : Int32).toInt = 1 from rfl) (by omega) (by omega)
      refine sj_i ez_38 ?_
      have hO_39 := okp hO_37 (n := 36) (k := 52) (v := z_38) (show (0 : Int) ≤ (z_38 : Int32).toInt ∧ (z_38 : Int32).toInt ≤ 64 from ⟨by omega, by omega⟩)
      refine h_puti (ty := .int) (ci := 12) (C := RX12) (F := TX12) (N := 86) hx hb hts in12 tyX12 tyX12_ok nmX12 hown hK hH hS (by decide) (rfl : kd 36 = 12) (by decide) rfl 52 (by decide) wd3 (fun _ h9 => h9) rfl (by decide +kernel) rfl rfl (by decide) rfl dX12_takeOne_56 (fun H locs hH hS => ?_)
      refine lv_aload_n hx hb dX12_takeOne_59 rfl (lv_at hl 0 rfl) ?_
      refine h_getr (ci := 12) (C := RX12) (F := TX12) (N := 86) hx hb hts in12 hown hK hH (by decide) (rfl : kd 36 = 12) (by decide) rfl 51 (by decide) wd4 (fun _ h9 => h9) (by decide) rfl (t := 410) (hR 36 51 rfl) (by decide) dX12_takeOne_60 ?_
      refine lv_aload_n hx hb dX12_takeOne_63 rfl (lv_at hl 0 rfl) ?_
      have bx_40 : (0 : Int) ≤ (i 36 49).toInt ∧ (i 36 49).toInt ≤ 64 := hO 36 49
      refine h_geti (ci := 12) (C := RX12) (F := TX12) (N := 86) hx hb hts in12 hown hK hH (by decide) (rfl : kd 36 = 12) (by decide) rfl 49 (by decide) wd5 (fun _ h9 => h9) (by decide) rfl dX12_takeOne_64 ?_
      refine sj_i (y := (i 36 49)) ((up2_k _ _ (by decide)).trans ((congrFun (up2_n _ _ (by decide)) _).trans (up2_k _ _ (by decide)))) ?_
      refine lv_iconst (v := 1) hx hb dX12_takeOne_67 (by decide) ?_
      refine lv_isub hx hb dX12_takeOne_68 ?_
      obtain ⟨z_41, ez_41, hz_41⟩ := s_sub (rfl : (i 36 49).toInt = _) (show (1 : Int32).toInt = 1 from rfl) (by omega) (by omega)
      refine sj_i ez_41 ?_
      refine lv_dup2_11 hx hb dX12_takeOne_69 rfl rfl ?_
      refine h_iald hx hb hK hH (by decide) (rfl : kd 410 = 13) (s_vin (N := 64) (rfl : z_41.toInt = _) (rfl : ln 410 = 64) (by omega) (by omega)) dX12_takeOne_70 ?_
      have ek_42 : z_41.toNatClampNeg = ((i 36 49).toInt - 1).toNat := (s_cl (show z_41.toInt = (i 36 49).toInt - 1 by omega))
      refine sj_i (y := (i 410 ((i 36 49).toInt - 1).toNat)) (by rw [ek_42]; exact ((congrFun (up2_n _ _ (by decide)) _).trans ((congrFun (up2_n _ _ (by decide)) _).trans (congrFun (up2_n _ _ (by decide)) _)))) ?_
      refine lv_iconst (v := 1) hx hb dX12_takeOne_71 (by decide) ?_
      refine lv_iadd hx hb dX12_takeOne_72 ?_
      obtain ⟨z_43, ez_43, hz_43⟩ := s_add (rfl : (i 410 ((i 36 49).toInt - 1).toNat).toInt = _) (show (1 : Int32).toInt = 1 from rfl) (by omega) (by omega)
      refine sj_i ez_43 ?_
      have hO_44 := okp hO_39 (n := 410) (k := ((i 36 49).toInt - 1).toNat) (v := z_43) (show (-2147483648 : Int) ≤ (z_43 : Int32).toInt ∧ (z_43 : Int32).toInt ≤ 2147483647 from s_rng z_43)
      refine h_iast hx hb hK hH hS (by decide) (rfl : kd 410 = 13) (s_vin (N := 64) (rfl : z_41.toInt = _) (rfl : ln 410 = 64) (by omega) (by omega)) dX12_takeOne_73 (fun H locs hH hS => ?_)
      rw [s_cl (show z_41.toInt = (i 36 49).toInt - 1 by omega)] at hH
      refine lv_aload_n hx hb dX12_takeOne_74 rfl (lv_at hl 0 rfl) ?_
      refine lv_dup hx hb dX12_takeOne_75 rfl ?_
      refine h_geti (ci := 12) (C := RX12) (F := TX12) (N := 86) hx hb hts in12 hown hK hH (by decide) (rfl : kd 36 = 12) (by decide) rfl 54 (by decide) wd0 (fun _ h9 => h9) (by decide) rfl dX12_takeOne_76 ?_
      refine sj_i (y := z_28) ((congrFun (up2_n _ _ (by decide)) _).trans ((up2_k _ _ (by decide)).trans ((congrFun (up2_n _ _ (by decide)) _).trans (up2_at _ _ _ _)))) ?_
      refine lv_iconst (v := 1) hx hb dX12_takeOne_79 (by decide) ?_
      refine lv_iadd hx hb dX12_takeOne_80 ?_
      obtain ⟨z_45, ez_45, hz_45⟩ := s_add (rfl : z_28.toInt = _) (show (1 : Int32).toInt = 1 from rfl) (by omega) (by omega)
      refine sj_i ez_45 ?_
      have hO_46 := okp hO_44 (n := 36) (k := 54) (v := z_45) (show (0 : Int) ≤ (z_45 : Int32).toInt ∧ (z_45 : Int32).toInt ≤ 720 from ⟨by omega, by omega⟩)
      refine h_puti (ty := .int) (ci := 12) (C := RX12) (F := TX12) (N := 86) hx hb hts in12 tyX12 tyX12_ok nmX12 hown hK hH hS (by decide) (rfl : kd 36 = 12) (by decide) rfl 54 (by decide) wd0 (fun _ h9 => h9) rfl (by decide +kernel) rfl rfl (by decide) rfl dX12_takeOne_81 (fun H locs hH hS => ?_)
      refine lv_iconst (v := 1) hx hb dX12_takeOne_84 (by decide) ?_
      have hp_47 : ((up2 (up2 (up2 (up2 (up2 i 36 54 z_28) 411 ((i 36 52).toInt).toNat z_36) 36 52 z_38) 410 ((i 36 49).toInt - 1).toNat z_43) 36 54 z_45) 36 52).toInt = (z_38 : Int32).toInt := congrArg Int32.toInt (((up2_k _ _ (by decide)).trans ((congrFun (up2_n _ _ (by decide)) _).trans (up2_at _ _ _ _))))
      have hp_48 : ((up2 (up2 (up2 (up2 (up2 i 36 54 z_28) 411 ((i 36 52).toInt).toNat z_36) 36 52 z_38) 410 ((i 36 49).toInt - 1).toNat z_43) 36 54 z_45) 36 54).toInt = (z_45 : Int32).toInt := congrArg Int32.toInt ((up2_at _ _ _ _))
      have hq9 : ((up2 (up2 (up2 (up2 (up2 i 36 54 z_28) 411 ((i 36 52).toInt).toNat z_36) 36 52 z_38) 410 ((i 36 49).toInt - 1).toNat z_43) 36 54 z_45) 410 ((i 36 49).toInt - 1).toNat).toInt = (z_43 : Int32).toInt := congrArg Int32.toInt (((congrFun (up2_n _ _ (by decide)) _).trans (up2_at _ _ _ _)))
      have hoth : ∀ k : Nat, k ≠ ((i 36 49).toInt - 1).toNat → (up2 (up2 (up2 (up2 (up2 i 36 54 z_28) 411 ((i 36 52).toInt).toNat z_36) 36 52 z_38) 410 ((i 36 49).toInt - 1).toNat z_43) 36 54 z_45) 410 k = i 410 k := fun k hk => ((up2_o _ _ (by omega)).trans ((up2_o _ _ (by omega)).trans ((up2_o _ _ (by omega)).trans ((up2_o _ _ (by omega)).trans (up2_o _ _ (by omega))))))
      have hV_49 : ((1 : Int32).toInt = 1 ∧ (((i 379 (i 36 54).toInt.toNat).toInt ≠ 92 ∧ ((up2 (up2 (up2 (up2 (up2 i 36 54 z_28) 411 ((i 36 52).toInt).toNat z_36) 36 52 z_38) 410 ((i 36 49).toInt - 1).toNat z_43) 36 54 z_45) 36 54).toInt = (i 36 54).toInt + 1) ∨ ((i 379 (i 36 54).toInt.toNat).toInt = 92 ∧ (i 36 54).toInt + 1 < (i 36 55).toInt ∧ ((up2 (up2 (up2 (up2 (up2 i 36 54 z_28) 411 ((i 36 52).toInt).toNat z_36) 36 52 z_38) 410 ((i 36 49).toInt - 1).toNat z_43) 36 54 z_45) 36 54).toInt = (i 36 54).toInt + 2)) ∧ ((up2 (up2 (up2 (up2 (up2 i 36 54 z_28) 411 ((i 36 52).toInt).toNat z_36) 36 52 z_38) 410 ((i 36 49).toInt - 1).toNat z_43) 36 54 z_45) 36 52).toInt = (i 36 52).toInt + 1 ∧ lsz (up2 (up2 (up2 (up2 (up2 i 36 54 z_28) 411 ((i 36 52).toInt).toNat z_36) 36 52 z_38) 410 ((i 36 49).toInt - 1).toNat z_43) 36 54 z_45) = lsz i + 1 ∧ (∀ k : Nat, k ≠ ((i 36 49).toInt - 1).toNat → (up2 (up2 (up2 (up2 (up2 i 36 54 z_28) 411 ((i 36 52).toInt).toNat z_36) 36 52 z_38) 410 ((i 36 49).toInt - 1).toNat z_43) 36 54 z_45) 410 k = i 410 k) ∧ exI (up2 (up2 (up2 (up2 (up2 i 36 54 z_28) 411 ((i 36 52).toInt).toNat z_36) 36 52 z_38) 410 ((i 36 49).toInt - 1).toNat z_43) 36 54 z_45)) ∨ ((1 : Int32).toInt = 0 ∧ (i 379 (i 36 54).toInt.toNat).toInt = 92 ∧ (i 36 55).toInt ≤ (i 36 54).toInt + 1) := (Or.inl ⟨by rfl, by omega, by omega, (by unfold lsz; rw [show (up2 (up2 (up2 (up2 (up2 i 36 54 z_28) 411 ((i 36 52).toInt).toNat z_36) 36 52 z_38) 410 ((i 36 49).toInt - 1).toNat z_43) 36 54 z_45) 36 49 = i 36 49 from ((up2_o _ _ (by omega)).trans ((up2_o _ _ (by omega)).trans ((up2_o _ _ (by omega)).trans ((up2_o _ _ (by omega)).trans (up2_o _ _ (by omega))))))]; omega), hoth, (exI_take hex (by omega) ((up2_o _ _ (by omega)).trans ((up2_o _ _ (by omega)).trans ((up2_o _ _ (by omega)).trans ((up2_o _ _ (by omega)).trans (up2_o _ _ (by omega)))))) ((up2_o _ _ (by omega)).trans ((up2_o _ _ (by omega)).trans ((up2_o _ _ (by omega)).trans ((up2_o _ _ (by omega)).trans (up2_o _ _ (by omega)))))) (by omega) (funext fun b => ((up2_o _ _ (by omega)).trans ((up2_o _ _ (by omega)).trans ((up2_o _ _ (by omega)).trans ((up2_o _ _ (by omega)).trans (up2_o _ _ (by omega))))))) (funext fun b => ((up2_o _ _ (by omega)).trans ((up2_o _ _ (by omega)).trans ((up2_o _ _ (by omega)).trans ((up2_o _ _ (by omega)).trans (up2_o _ _ (by omega))))))) (funext fun b => ((up2_o _ _ (by omega)).trans ((up2_o _ _ (by omega)).trans ((up2_o _ _ (by omega)).trans ((up2_o _ _ (by omega)).trans (up2_o _ _ (by omega))))))) (funext fun b => ((up2_o _ _ (by omega)).trans ((up2_o _ _ (by omega)).trans ((up2_o _ _ (by omega)).trans ((up2_o _ _ (by omega)).trans (up2_o _ _ (by omega))))))) (by omega) hoth)⟩)
      exact sj_zret hx hb hr hlocks (by decide +kernel) hS (up2 (up2 (up2 (up2 (up2 i 36 54 z_28) 411 ((i 36 52).toInt).toNat z_36) 36 52 z_38) 410 ((i 36 49).toInt - 1).toNat z_43) 36 54 z_45) ⟨hO_46, (fun a b ha => ((up2_o _ _ (by omega)).trans ((up2_o _ _ (by omega)).trans ((up2_o _ _ (by omega)).trans ((up2_o _ _ (by omega)).trans (up2_o _ _ (by omega))))))), ⟨by decide, by decide⟩, hV_49⟩ hH (sj_Knil hK) (Nat.le_of_ble_eq_true rfl) (Nat.le_of_ble_eq_true rfl) dX12_takeOne_85
    · skip
      have h_50 := s_nlt (rfl : z_28.toInt = _) (rfl : (i 36 55).toInt = _) c_31
      refine lv_iconst (v := 0) hx hb dX12_takeOne_32 (by decide) ?_
      have hV_51 : ((0 : Int32).toInt = 1 ∧ (((i 379 (i 36 54).toInt.toNat).toInt ≠ 92 ∧ ((up2 i 36 54 z_28) 36 54).toInt = (i 36 54).toInt + 1) ∨ ((i 379 (i 36 54).toInt.toNat).toInt = 92 ∧ (i 36 54).toInt + 1 < (i 36 55).toInt ∧ ((up2 i 36 54 z_28) 36 54).toInt = (i 36 54).toInt + 2)) ∧ ((up2 i 36 54 z_28) 36 52).toInt = (i 36 52).toInt + 1 ∧ lsz (up2 i 36 54 z_28) = lsz i + 1 ∧ (∀ k : Nat, k ≠ ((i 36 49).toInt - 1).toNat → (up2 i 36 54 z_28) 410 k = i 410 k) ∧ exI (up2 i 36 54 z_28)) ∨ ((0 : Int32).toInt = 0 ∧ (i 379 (i 36 54).toInt.toNat).toInt = 92 ∧ (i 36 55).toInt ≤ (i 36 54).toInt + 1) := (Or.inr ⟨by rfl, by omega, by omega⟩)
      exact sj_zret hx hb hr hlocks (by decide +kernel) hS (up2 i 36 54 z_28) ⟨hO_29, (fun a b ha => (up2_o _ _ (by omega))), ⟨by decide, by decide⟩, hV_51⟩ hH (sj_Knil hK) (Nat.le_of_ble_eq_true rfl) (Nat.le_of_ble_eq_true rfl) dX12_takeOne_33
set_option maxHeartbeats 2000000 in
set_option maxRecDepth 100000 in
theorem m_takeOne_W (l : Launch) (D : va_G) (g : Nat → Nat) (ka : Nat → ClassId) (ad : Nat → Nat) (i : Nat → Nat → Int32) (r : Nat → Nat → Nat) (L : Nat → Nat → Int64) (d : Nat → Nat → UInt64)  (hO : OkI i) (hR : RS r) (sz : Nat) (hpu : (i 36 54).toInt < (i 36 55).toInt) (hul : (i 36 55).toInt ≤ 720) (ht1 : 1 ≤ (i 36 49).toInt) (hpo : (i 36 52).toInt ≤ 63) (hex : exI i) : Met l yX12_takeOne wsX12_takeOne ({ frames := 0, cells := 0, slots := 0, locals := 0 }) (va_Pc [.ref (g 36), .ref (g 403)] (sj_B D (hwc g ka i r L d) (hT ka) sz (gx ad (va_A (hwc g ka i r L d) sz)))) (sj_Qi (S := (Nat → Nat → Int32)) D (fun v u => OkI u ∧ (∀ a b, ¬ ((a = 36 ∧ (b = 52 ∨ b = 54)) ∨ a = 410 ∨ a = 411) → u a b = i a b) ∧ ((0 : Int) ≤ v.toInt ∧ v.toInt ≤ 1) ∧ ((v.toInt = 1 ∧ (((i 403 (i 36 54).toInt.toNat).toInt ≠ 92 ∧ (u 36 54).toInt = (i 36 54).toInt + 1) ∨ ((i 403 (i 36 54).toInt.toNat).toInt = 92 ∧ (i 36 54).toInt + 1 < (i 36 55).toInt ∧ (u 36 54).toInt = (i 36 54).toInt + 2)) ∧ (u 36 52).toInt = (i 36 52).toInt + 1 ∧ lsz u = lsz i + 1 ∧ (∀ k : Nat, k ≠ ((i 36 49).toInt - 1).toNat → u 410 k = i 410 k) ∧ exI u) ∨ (v.toInt = 0 ∧ (i 403 (i 36 54).toInt.toNat).toInt = 92 ∧ (i 36 55).toInt ≤ (i 36 54).toInt + 1))) (fun u => hwc g ka u r L d) (fun _ => []) (va_A (hwc g ka i r L d) sz)) 0 0 (va_A (hwc g ka i r L d) sz) := by
  refine x_met (Ex := gx ad) (cc := cX12_takeOne) (maxL := 2) (ret := (some .boolean)) (by decide) rfl (Nat.le_of_ble_eq_true rfl) ?_
  intro p e s m below meth c A ls hx hb hr hml hts hown hlocks hA hS hH hK hE hl
  have hown : s.vm.findClass RX12 = some m.cls := hown
  have in12 : ∀ w ∈ wsX120, w ∈ wsX12_takeOne := (fun _ h => (List.mem_cons_of_mem _ (List.mem_append_right _ h)))
  have wd0 := hts (.fieldLink RX12 269 "StoryDeskModel" "place" "I") (List.mem_cons_of_mem _ (List.mem_append_left _ lm0))
  have wd1 := hts (.fieldLink RX12 272 "StoryDeskModel" "until" "I") (List.mem_cons_of_mem _ (List.mem_append_left _ lm1))
  have wd2 := hts (.fieldLink RX12 275 "StoryDeskModel" "pool" "[C") (List.mem_cons_of_mem _ (List.mem_append_left _ lm2))
  have wd3 := hts (.fieldLink RX12 263 "StoryDeskModel" "pooled" "I") (List.mem_cons_of_mem _ (List.mem_append_left _ lm3))
  have wd4 := hts (.fieldLink RX12 266 "StoryDeskModel" "textSize" "[I") (List.mem_cons_of_mem _ (List.mem_append_left _ lm4))
  have wd5 := hts (.fieldLink RX12 260 "StoryDeskModel" "texts" "I") (List.mem_cons_of_mem _ (List.mem_append_left _ lm5))
  have hl : lv_has ls 2 [(0, .ref (g 36)), (1, .ref (g 403))] := hl
  have hK : va_K D vwCl (hT ka) s := hK
  have hx45 : (0 : Int) ≤ (i 36 45).toInt ∧ (i 36 45).toInt ≤ 64 := hO 36 45
  have hx49 : (0 : Int) ≤ (i 36 49).toInt ∧ (i 36 49).toInt ≤ 64 := hO 36 49
  have hx52 : (0 : Int) ≤ (i 36 52).toInt ∧ (i 36 52).toInt ≤ 64 := hO 36 52
  have hx54 : (0 : Int) ≤ (i 36 54).toInt ∧ (i 36 54).toInt ≤ 720 := hO 36 54
  have hx55 : (0 : Int) ≤ (i 36 55).toInt ∧ (i 36 55).toInt ≤ 720 := hO 36 55
  have hw9 := hex.2 ((i 36 49).toInt - 1).toNat (by omega)
  have hw1 := hw9.1
  have hw2 := hw9.2.1
  have hw3 := hw9.2.2
  refine lv_aload_n hx hb dX12_takeOne_0 rfl (lv_at hl 1 rfl) ?_
  refine lv_aload_n hx hb dX12_takeOne_1 rfl (lv_at hl 0 rfl) ?_
  have bx_1 : (0 : Int) ≤ (i 36 54).toInt ∧ (i 36 54).toInt ≤ 720 := hO 36 54
  refine h_geti (ci := 12) (C := RX12) (F := TX12) (N := 86) hx hb hts in12 hown hK hH (by decide) (rfl : kd 36 = 12) (by decide) rfl 54 (by decide) wd0 (fun _ h9 => h9) (by decide) rfl dX12_takeOne_2 ?_
  have bx_2 : (0 : Int) ≤ (i 403 ((i 36 54).toInt).toNat).toInt ∧ (i 403 ((i 36 54).toInt).toNat).toInt ≤ 65535 := hO 403 ((i 36 54).toInt).toNat
  refine h_cald hx hb hK hH (by decide) (rfl : kd 403 = 14) (s_vin (N := 720) (rfl : (i 36 54).toInt = _) (rfl : ln 403 = 720) (by omega) (by omega)) dX12_takeOne_5 ?_
  have ek_3 : (i 36 54).toNatClampNeg = ((i 36 54).toInt).toNat := (s_cl (show (i 36 54).toInt = (i 36 54).toInt by omega))
  refine sj_i (y := (i 403 ((i 36 54).toInt).toNat)) (by rw [ek_3]) ?_
  refine lv_bipush (v := 92) hx hb dX12_takeOne_6 (by decide) ?_
  refine lv_icmp_ne (tgt := 21) hx hb dX12_takeOne_8 (by decide) (fun c_4 => ?_) (fun c_4 => ?_)
  · skip
    have h_5 := s_ne (rfl : (i 403 ((i 36 54).toInt).toNat).toInt = _) (show (92 : Int32).toInt = 92 from rfl) c_4
    refine lv_aload_n hx hb dX12_takeOne_21 rfl (lv_at hl 0 rfl) ?_
    refine h_geti (ci := 12) (C := RX12) (F := TX12) (N := 86) hx hb hts in12 hown hK hH (by decide) (rfl : kd 36 = 12) (by decide) rfl 54 (by decide) wd0 (fun _ h9 => h9) (by decide) rfl dX12_takeOne_22 ?_
    refine lv_aload_n hx hb dX12_takeOne_25 rfl (lv_at hl 0 rfl) ?_
    have bx_6 : (0 : Int) ≤ (i 36 55).toInt ∧ (i 36 55).toInt ≤ 720 := hO 36 55
    refine h_geti (ci := 12) (C := RX12) (F := TX12) (N := 86) hx hb hts in12 hown hK hH (by decide) (rfl : kd 36 = 12) (by decide) rfl 55 (by decide) wd1 (fun _ h9 => h9) (by decide) rfl dX12_takeOne_26 ?_
    refine lv_icmp_lt (tgt := 34) hx hb dX12_takeOne_29 (by decide) (fun c_7 => ?_) (fun c_7 => ?_)
    · skip
      have h_8 := s_lt (rfl : (i 36 54).toInt = _) (rfl : (i 36 55).toInt = _) c_7
      refine lv_aload_n hx hb dX12_takeOne_34 rfl (lv_at hl 0 rfl) ?_
      refine h_getr (ci := 12) (C := RX12) (F := TX12) (N := 86) hx hb hts in12 hown hK hH (by decide) (rfl : kd 36 = 12) (by decide) rfl 53 (by decide) wd2 (fun _ h9 => h9) (by decide) rfl (t := 411) (hR 36 53 rfl) (by decide) dX12_takeOne_35 ?_
      refine lv_aload_n hx hb dX12_takeOne_38 rfl (lv_at hl 0 rfl) ?_
      have bx_9 : (0 : Int) ≤ (i 36 52).toInt ∧ (i 36 52).toInt ≤ 64 := hO 36 52
      refine h_geti (ci := 12) (C := RX12) (F := TX12) (N := 86) hx hb hts in12 hown hK hH (by decide) (rfl : kd 36 = 12) (by decide) rfl 52 (by decide) wd3 (fun _ h9 => h9) (by decide) rfl dX12_takeOne_39 ?_
      refine lv_aload_n hx hb dX12_takeOne_42 rfl (lv_at hl 1 rfl) ?_
      refine lv_aload_n hx hb dX12_takeOne_43 rfl (lv_at hl 0 rfl) ?_
      refine h_geti (ci := 12) (C := RX12) (F := TX12) (N := 86) hx hb hts in12 hown hK hH (by decide) (rfl : kd 36 = 12) (by decide) rfl 54 (by decide) wd0 (fun _ h9 => h9) (by decide) rfl dX12_takeOne_44 ?_
      refine h_cald hx hb hK hH (by decide) (rfl : kd 403 = 14) (s_vin (N := 720) (rfl : (i 36 54).toInt = _) (rfl : ln 403 = 720) (by omega) (by omega)) dX12_takeOne_47 ?_
      have ek_10 : (i 36 54).toNatClampNeg = ((i 36 54).toInt).toNat := (s_cl (show (i 36 54).toInt = (i 36 54).toInt by omega))
      refine sj_i (y := (i 403 ((i 36 54).toInt).toNat)) (by rw [ek_10]) ?_
      obtain ⟨z_11, ez_11⟩ : ∃ z, vp_nar .char (i 403 ((i 36 54).toInt).toNat) = z := ⟨_, rfl⟩
      have hz_11 : z_11.toInt = (i 403 ((i 36 54).toInt).toNat).toInt := by rw [← ez_11, s_narc (rfl : (i 403 ((i 36 54).toInt).toNat).toInt = _) (by omega) (by omega)] <;> exact (rfl : (i 403 ((i 36 54).toInt).toNat).toInt = _)
      have hO_12 := okp hO (n := 411) (k := ((i 36 52).toInt).toNat) (v := z_11) (show (0 : Int) ≤ (z_11 : Int32).toInt ∧ (z_11 : Int32).toInt ≤ 65535 from ⟨by omega, by omega⟩)
      refine h_cast hx hb hK hH hS (by decide) (rfl : kd 411 = 14) (s_vin (N := 64) (rfl : (i 36 52).toInt = _) (rfl : ln 411 = 64) (by omega) (by omega)) dX12_takeOne_48 (fun H locs hH hS => ?_)
      rw [ez_11] at hH
      rw [s_cl (show (i 36 52).toInt = (i 36 52).toInt by omega)] at hH
      refine lv_aload_n hx hb dX12_takeOne_49 rfl (lv_at hl 0 rfl) ?_
      refine lv_dup hx hb dX12_takeOne_50 rfl ?_
      refine h_geti (ci := 12) (C := RX12) (F := TX12) (N := 86) hx hb hts in12 hown hK hH (by decide) (rfl : kd 36 = 12) (by decide) rfl 52 (by decide) wd3 (fun _ h9 => h9) (by decide) rfl dX12_takeOne_51 ?_
      refine sj_i (y := (i 36 52)) (congrFun (up2_n _ _ (by decide)) _) ?_
      refine lv_iconst (v := 1) hx hb dX12_takeOne_54 (by decide) ?_
      refine lv_iadd hx hb dX12_takeOne_55 ?_
      obtain ⟨z_13, ez_13, hz_13⟩ := s_add (rfl : (i 36 52).toInt = _) (show (1 : Int32).toInt = 1 from rfl) (by omega) (by omega)
      refine sj_i ez_13 ?_
      have hO_14 := okp hO_12 (n := 36) (k := 52) (v := z_13) (show (0 : Int) ≤ (z_13 : Int32).toInt ∧ (z_13 : Int32).toInt ≤ 64 from ⟨by omega, by omega⟩)
      refine h_puti (ty := .int) (ci := 12) (C := RX12) (F := TX12) (N := 86) hx hb hts in12 tyX12 tyX12_ok nmX12 hown hK hH hS (by decide) (rfl : kd 36 = 12) (by decide) rfl 52 (by decide) wd3 (fun _ h9 => h9) rfl (by decide +kernel) rfl rfl (by decide) rfl dX12_takeOne_56 (fun H locs hH hS => ?_)
      refine lv_aload_n hx hb dX12_takeOne_59 rfl (lv_at hl 0 rfl) ?_
      refine h_getr (ci := 12) (C := RX12) (F := TX12) (N := 86) hx hb hts in12 hown hK hH (by decide) (rfl : kd 36 = 12) (by decide) rfl 51 (by decide) wd4 (fun _ h9 => h9) (by decide) rfl (t := 410) (hR 36 51 rfl) (by decide) dX12_takeOne_60 ?_
      refine lv_aload_n hx hb dX12_takeOne_63 rfl (lv_at hl 0 rfl) ?_
      have bx_15 : (0 : Int) ≤ (i 36 49).toInt ∧ (i 36 49).toInt ≤ 64 := hO 36 49
      refine h_geti (ci := 12) (C := RX12) (F := TX12) (N := 86) hx hb hts in12 hown hK hH (by decide) (rfl : kd 36 = 12) (by decide) rfl 49 (by decide) wd5 (fun _ h9 => h9) (by decide) rfl dX12_takeOne_64 ?_
      refine sj_i (y := (i 36 49)) ((up2_k _ _ (by decide)).trans (congrFun (up2_n _ _ (by decide)) _)) ?_
      refine lv_iconst (v := 1) hx hb dX12_takeOne_67 (by decide) ?_
      refine lv_isub hx hb dX12_takeOne_68 ?_
      obtain ⟨z_16, ez_16, hz_16⟩ := s_sub (rfl : (i 36 49).toInt = _) (show (1 : Int32).toInt = 1 from rfl) (by omega) (by omega)
      refine sj_i ez_16 ?_
      refine lv_dup2_11 hx hb dX12_takeOne_69 rfl rfl ?_
      refine h_iald hx hb hK hH (by decide) (rfl : kd 410 = 13) (s_vin (N := 64) (rfl : z_16.toInt = _) (rfl : ln 410 = 64) (by omega) (by omega)) dX12_takeOne_70 ?_
      have ek_17 : z_16.toNatClampNeg = ((i 36 49).toInt - 1).toNat := (s_cl (show z_16.toInt = (i 36 49).toInt - 1 by omega))
      refine sj_i (y := (i 410 ((i 36 49).toInt - 1).toNat)) (by rw [ek_17]; exact ((congrFun (up2_n _ _ (by decide)) _).trans (congrFun (up2_n _ _ (by decide)) _))) ?_
      refine lv_iconst (v := 1) hx hb dX12_takeOne_71 (by decide) ?_
      refine lv_iadd hx hb dX12_takeOne_72 ?_
      obtain ⟨z_18, ez_18, hz_18⟩ := s_add (rfl : (i 410 ((i 36 49).toInt - 1).toNat).toInt = _) (show (1 : Int32).toInt = 1 from rfl) (by omega) (by omega)
      refine sj_i ez_18 ?_
      have hO_19 := okp hO_14 (n := 410) (k := ((i 36 49).toInt - 1).toNat) (v := z_18) (show (-2147483648 : Int) ≤ (z_18 : Int32).toInt ∧ (z_18 : Int32).toInt ≤ 2147483647 from s_rng z_18)
      refine h_iast hx hb hK hH hS (by decide) (rfl : kd 410 = 13) (s_vin (N := 64) (rfl : z_16.toInt = _) (rfl : ln 410 = 64) (by omega) (by omega)) dX12_takeOne_73 (fun H locs hH hS => ?_)
      rw [s_cl (show z_16.toInt = (i 36 49).toInt - 1 by omega)] at hH
      refine lv_aload_n hx hb dX12_takeOne_74 rfl (lv_at hl 0 rfl) ?_
      refine lv_dup hx hb dX12_takeOne_75 rfl ?_
      refine h_geti (ci := 12) (C := RX12) (F := TX12) (N := 86) hx hb hts in12 hown hK hH (by decide) (rfl : kd 36 = 12) (by decide) rfl 54 (by decide) wd0 (fun _ h9 => h9) (by decide) rfl dX12_takeOne_76 ?_
      refine sj_i (y := (i 36 54)) ((congrFun (up2_n _ _ (by decide)) _).trans ((up2_k _ _ (by decide)).trans (congrFun (up2_n _ _ (by decide)) _))) ?_
      refine lv_iconst (v := 1) hx hb dX12_takeOne_79 (by decide) ?_
      refine lv_iadd hx hb dX12_takeOne_80 ?_
      obtain ⟨z_20, ez_20, hz_20⟩ := s_add (rfl : (i 36 54).toInt = _) (show (1 : Int32).toInt = 1 from rfl) (by omega) (by omega)
      refine sj_i ez_20 ?_
      have hO_21 := okp hO_19 (n := 36) (k := 54) (v := z_20) (show (0 : Int) ≤ (z_20 : Int32).toInt ∧ (z_20 : Int32).toInt ≤ 720 from ⟨by omega, by omega⟩)
      refine h_puti (ty := .int) (ci := 12) (C := RX12) (F := TX12) (N := 86) hx hb hts in12 tyX12 tyX12_ok nmX12 hown hK hH hS (by decide) (rfl : kd 36 = 12) (by decide) rfl 54 (by decide) wd0 (fun _ h9 => h9) rfl (by decide +kernel) rfl rfl (by decide) rfl dX12_takeOne_81 (fun H locs hH hS => ?_)
      refine lv_iconst (v := 1) hx hb dX12_takeOne_84 (by decide) ?_
      have hp_22 : ((up2 (up2 (up2 (up2 i 411 ((i 36 52).toInt).toNat z_11) 36 52 z_13) 410 ((i 36 49).toInt - 1).toNat z_18) 36 54 z_20) 36 52).toInt = (z_13 : Int32).toInt := congrArg Int32.toInt (((up2_k _ _ (by decide)).trans ((congrFun (up2_n _ _ (by decide)) _).trans (up2_at _ _ _ _))))
      have hp_23 : ((up2 (up2 (up2 (up2 i 411 ((i 36 52).toInt).toNat z_11) 36 52 z_13) 410 ((i 36 49).toInt - 1).toNat z_18) 36 54 z_20) 36 54).toInt = (z_20 : Int32).toInt := congrArg Int32.toInt ((up2_at _ _ _ _))
      have hq9 : ((up2 (up2 (up2 (up2 i 411 ((i 36 52).toInt).toNat z_11) 36 52 z_13) 410 ((i 36 49).toInt - 1).toNat z_18) 36 54 z_20) 410 ((i 36 49).toInt - 1).toNat).toInt = (z_18 : Int32).toInt := congrArg Int32.toInt (((congrFun (up2_n _ _ (by decide)) _).trans (up2_at _ _ _ _)))
      have hoth : ∀ k : Nat, k ≠ ((i 36 49).toInt - 1).toNat → (up2 (up2 (up2 (up2 i 411 ((i 36 52).toInt).toNat z_11) 36 52 z_13) 410 ((i 36 49).toInt - 1).toNat z_18) 36 54 z_20) 410 k = i 410 k := fun k hk => ((up2_o _ _ (by omega)).trans ((up2_o _ _ (by omega)).trans ((up2_o _ _ (by omega)).trans (up2_o _ _ (by omega)))))
      have hV_24 : ((1 : Int32).toInt = 1 ∧ (((i 403 (i 36 54).toInt.toNat).toInt ≠ 92 ∧ ((up2 (up2 (up2 (up2 i 411 ((i 36 52).toInt).toNat z_11) 36 52 z_13) 410 ((i 36 49).toInt - 1).toNat z_18) 36 54 z_20) 36 54).toInt = (i 36 54).toInt + 1) ∨ ((i 403 (i 36 54).toInt.toNat).toInt = 92 ∧ (i 36 54).toInt + 1 < (i 36 55).toInt ∧ ((up2 (up2 (up2 (up2 i 411 ((i 36 52).toInt).toNat z_11) 36 52 z_13) 410 ((i 36 49).toInt - 1).toNat z_18) 36 54 z_20) 36 54).toInt = (i 36 54).toInt + 2)) ∧ ((up2 (up2 (up2 (up2 i 411 ((i 36 52).toInt).toNat z_11) 36 52 z_13) 410 ((i 36 49).toInt - 1).toNat z_18) 36 54 z_20) 36 52).toInt = (i 36 52).toInt + 1 ∧ lsz (up2 (up2 (up2 (up2 i 411 ((i 36 52).toInt).toNat z_11) 36 52 z_13) 410 ((i 36 49).toInt - 1).toNat z_18) 36 54 z_20) = lsz i + 1 ∧ (∀ k : Nat, k ≠ ((i 36 49).toInt - 1).toNat → (up2 (up2 (up2 (up2 i 411 ((i 36 52).toInt).toNat z_11) 36 52 z_13) 410 ((i 36 49).toInt - 1).toNat z_18) 36 54 z_20) 410 k = i 410 k) ∧ exI (up2 (up2 (up2 (up2 i 411 ((i 36 52).toInt).toNat z_11) 36 52 z_13) 410 ((i 36 49).toInt - 1).toNat z_18) 36 54 z_20)) ∨ ((1 : Int32).toInt = 0 ∧ (i 403 (i 36 54).toInt.toNat).toInt = 92 ∧ (i 36 55).toInt ≤ (i 36 54).toInt + 1) := (Or.inl ⟨by rfl, by omega, by omega, (by unfold lsz; rw [show (up2 (up2 (up2 (up2 i 411 ((i 36 52).toInt).toNat z_11) 36 52 z_13) 410 ((i 36 49).toInt - 1).toNat z_18) 36 54 z_20) 36 49 = i 36 49 from ((up2_o _ _ (by omega)).trans ((up2_o _ _ (by omega)).trans ((up2_o _ _ (by omega)).trans (up2_o _ _ (by omega)))))]; omega), hoth, (exI_take hex (by omega) ((up2_o _ _ (by omega)).trans ((up2_o _ _ (by omega)).trans ((up2_o _ _ (by omega)).trans (up2_o _ _ (by omega))))) ((up2_o _ _ (by omega)).trans ((up2_o _ _ (by omega)).trans ((up2_o _ _ (by omega)).trans (up2_o _ _ (by omega))))) (by omega) (funext fun b => ((up2_o _ _ (by omega)).trans ((up2_o _ _ (by omega)).trans ((up2_o _ _ (by omega)).trans (up2_o _ _ (by omega)))))) (funext fun b => ((up2_o _ _ (by omega)).trans ((up2_o _ _ (by omega)).trans ((up2_o _ _ (by omega)).trans (up2_o _ _ (by omega)))))) (funext fun b => ((up2_o _ _ (by omega)).trans ((up2_o _ _ (by omega)).trans ((up2_o _ _ (by omega)).trans (up2_o _ _ (by omega)))))) (funext fun b => ((up2_o _ _ (by omega)).trans ((up2_o _ _ (by omega)).trans ((up2_o _ _ (by omega)).trans (up2_o _ _ (by omega)))))) (by omega) hoth)⟩)
      exact sj_zret hx hb hr hlocks (by decide +kernel) hS (up2 (up2 (up2 (up2 i 411 ((i 36 52).toInt).toNat z_11) 36 52 z_13) 410 ((i 36 49).toInt - 1).toNat z_18) 36 54 z_20) ⟨hO_21, (fun a b ha => ((up2_o _ _ (by omega)).trans ((up2_o _ _ (by omega)).trans ((up2_o _ _ (by omega)).trans (up2_o _ _ (by omega)))))), ⟨by decide, by decide⟩, hV_24⟩ hH (sj_Knil hK) (Nat.le_of_ble_eq_true rfl) (Nat.le_of_ble_eq_true rfl) dX12_takeOne_85
    · skip
      have h_25 := s_nlt (rfl : (i 36 54).toInt = _) (rfl : (i 36 55).toInt = _) c_7
      refine lv_iconst (v := 0) hx hb dX12_takeOne_32 (by decide) ?_
      have hV_26 : ((0 : Int32).toInt = 1 ∧ (((i 403 (i 36 54).toInt.toNat).toInt ≠ 92 ∧ (i 36 54).toInt = (i 36 54).toInt + 1) ∨ ((i 403 (i 36 54).toInt.toNat).toInt = 92 ∧ (i 36 54).toInt + 1 < (i 36 55).toInt ∧ (i 36 54).toInt = (i 36 54).toInt + 2)) ∧ (i 36 52).toInt = (i 36 52).toInt + 1 ∧ lsz i = lsz i + 1 ∧ (∀ k : Nat, k ≠ ((i 36 49).toInt - 1).toNat → i 410 k = i 410 k) ∧ exI i) ∨ ((0 : Int32).toInt = 0 ∧ (i 403 (i 36 54).toInt.toNat).toInt = 92 ∧ (i 36 55).toInt ≤ (i 36 54).toInt + 1) := (Or.inr ⟨by rfl, by omega, by omega⟩)
      exact sj_zret hx hb hr hlocks (by decide +kernel) hS i ⟨hO, (fun a b ha => rfl), ⟨by decide, by decide⟩, hV_26⟩ hH (sj_Knil hK) (Nat.le_of_ble_eq_true rfl) (Nat.le_of_ble_eq_true rfl) dX12_takeOne_33
  · skip
    have h_27 := s_eq (rfl : (i 403 ((i 36 54).toInt).toNat).toInt = _) (show (92 : Int32).toInt = 92 from rfl) c_4
    refine lv_aload_n hx hb dX12_takeOne_11 rfl (lv_at hl 0 rfl) ?_
    refine lv_dup hx hb dX12_takeOne_12 rfl ?_
    refine h_geti (ci := 12) (C := RX12) (F := TX12) (N := 86) hx hb hts in12 hown hK hH (by decide) (rfl : kd 36 = 12) (by decide) rfl 54 (by decide) wd0 (fun _ h9 => h9) (by decide) rfl dX12_takeOne_13 ?_
    refine lv_iconst (v := 1) hx hb dX12_takeOne_16 (by decide) ?_
    refine lv_iadd hx hb dX12_takeOne_17 ?_
    obtain ⟨z_28, ez_28, hz_28⟩ := s_add (rfl : (i 36 54).toInt = _) (show (1 : Int32).toInt = 1 from rfl) (by omega) (by omega)
    refine sj_i ez_28 ?_
    have hO_29 := okp hO (n := 36) (k := 54) (v := z_28) (show (0 : Int) ≤ (z_28 : Int32).toInt ∧ (z_28 : Int32).toInt ≤ 720 from ⟨by omega, by omega⟩)
    refine h_puti (ty := .int) (ci := 12) (C := RX12) (F := TX12) (N := 86) hx hb hts in12 tyX12 tyX12_ok nmX12 hown hK hH hS (by decide) (rfl : kd 36 = 12) (by decide) rfl 54 (by decide) wd0 (fun _ h9 => h9) rfl (by decide +kernel) rfl rfl (by decide) rfl dX12_takeOne_18 (fun H locs hH hS => ?_)
    refine lv_aload_n hx hb dX12_takeOne_21 rfl (lv_at hl 0 rfl) ?_
    refine h_geti (ci := 12) (C := RX12) (F := TX12) (N := 86) hx hb hts in12 hown hK hH (by decide) (rfl : kd 36 = 12) (by decide) rfl 54 (by decide) wd0 (fun _ h9 => h9) (by decide) rfl dX12_takeOne_22 ?_
    refine sj_i (y := z_28) (up2_at _ _ _ _) ?_
    refine lv_aload_n hx hb dX12_takeOne_25 rfl (lv_at hl 0 rfl) ?_
    have bx_30 : (0 : Int) ≤ (i 36 55).toInt ∧ (i 36 55).toInt ≤ 720 := hO 36 55
    refine h_geti (ci := 12) (C := RX12) (F := TX12) (N := 86) hx hb hts in12 hown hK hH (by decide) (rfl : kd 36 = 12) (by decide) rfl 55 (by decide) wd1 (fun _ h9 => h9) (by decide) rfl dX12_takeOne_26 ?_
    refine sj_i (y := (i 36 55)) (up2_k _ _ (by decide)) ?_
    refine lv_icmp_lt (tgt := 34) hx hb dX12_takeOne_29 (by decide) (fun c_31 => ?_) (fun c_31 => ?_)
    · skip
      have h_32 := s_lt (rfl : z_28.toInt = _) (rfl : (i 36 55).toInt = _) c_31
      refine lv_aload_n hx hb dX12_takeOne_34 rfl (lv_at hl 0 rfl) ?_
      refine h_getr (ci := 12) (C := RX12) (F := TX12) (N := 86) hx hb hts in12 hown hK hH (by decide) (rfl : kd 36 = 12) (by decide) rfl 53 (by decide) wd2 (fun _ h9 => h9) (by decide) rfl (t := 411) (hR 36 53 rfl) (by decide) dX12_takeOne_35 ?_
      refine lv_aload_n hx hb dX12_takeOne_38 rfl (lv_at hl 0 rfl) ?_
      have bx_33 : (0 : Int) ≤ (i 36 52).toInt ∧ (i 36 52).toInt ≤ 64 := hO 36 52
      refine h_geti (ci := 12) (C := RX12) (F := TX12) (N := 86) hx hb hts in12 hown hK hH (by decide) (rfl : kd 36 = 12) (by decide) rfl 52 (by decide) wd3 (fun _ h9 => h9) (by decide) rfl dX12_takeOne_39 ?_
      refine sj_i (y := (i 36 52)) (up2_k _ _ (by decide)) ?_
      refine lv_aload_n hx hb dX12_takeOne_42 rfl (lv_at hl 1 rfl) ?_
      refine lv_aload_n hx hb dX12_takeOne_43 rfl (lv_at hl 0 rfl) ?_
      refine h_geti (ci := 12) (C := RX12) (F := TX12) (N := 86) hx hb hts in12 hown hK hH (by decide) (rfl : kd 36 = 12) (by decide) rfl 54 (by decide) wd0 (fun _ h9 => h9) (by decide) rfl dX12_takeOne_44 ?_
      refine sj_i (y := z_28) (up2_at _ _ _ _) ?_
      have bx_34 : (0 : Int) ≤ (i 403 ((i 36 54).toInt + 1).toNat).toInt ∧ (i 403 ((i 36 54).toInt + 1).toNat).toInt ≤ 65535 := hO 403 ((i 36 54).toInt + 1).toNat
      refine h_cald hx hb hK hH (by decide) (rfl : kd 403 = 14) (s_vin (N := 720) (rfl : z_28.toInt = _) (rfl : ln 403 = 720) (by omega) (by omega)) dX12_takeOne_47 ?_
      have ek_35 : z_28.toNatClampNeg = ((i 36 54).toInt + 1).toNat := (s_cl (show z_28.toInt = (i 36 54).toInt + 1 by omega))
      refine sj_i (y := (i 403 ((i 36 54).toInt + 1).toNat)) (by rw [ek_35]; exact (congrFun (up2_n _ _ (by decide)) _)) ?_
      obtain ⟨z_36, ez_36⟩ : ∃ z, vp_nar .char (i 403 ((i 36 54).toInt + 1).toNat) = z := ⟨_, rfl⟩
      have hz_36 : z_36.toInt = (i 403 ((i 36 54).toInt + 1).toNat).toInt := by rw [← ez_36, s_narc (rfl : (i 403 ((i 36 54).toInt + 1).toNat).toInt = _) (by omega) (by omega)] <;> exact (rfl : (i 403 ((i 36 54).toInt + 1).toNat).toInt = _)
      have hO_37 := okp hO_29 (n := 411) (k := ((i 36 52).toInt).toNat) (v := z_36) (show (0 : Int) ≤ (z_36 : Int32).toInt ∧ (z_36 : Int32).toInt ≤ 65535 from ⟨by omega, by omega⟩)
      refine h_cast hx hb hK hH hS (by decide) (rfl : kd 411 = 14) (s_vin (N := 64) (rfl : (i 36 52).toInt = _) (rfl : ln 411 = 64) (by omega) (by omega)) dX12_takeOne_48 (fun H locs hH hS => ?_)
      rw [ez_36] at hH
      rw [s_cl (show (i 36 52).toInt = (i 36 52).toInt by omega)] at hH
      refine lv_aload_n hx hb dX12_takeOne_49 rfl (lv_at hl 0 rfl) ?_
      refine lv_dup hx hb dX12_takeOne_50 rfl ?_
      refine h_geti (ci := 12) (C := RX12) (F := TX12) (N := 86) hx hb hts in12 hown hK hH (by decide) (rfl : kd 36 = 12) (by decide) rfl 52 (by decide) wd3 (fun _ h9 => h9) (by decide) rfl dX12_takeOne_51 ?_
      refine sj_i (y := (i 36 52)) ((congrFun (up2_n _ _ (by decide)) _).trans (up2_k _ _ (by decide))) ?_
      refine lv_iconst (v := 1) hx hb dX12_takeOne_54 (by decide) ?_
      refine lv_iadd hx hb dX12_takeOne_55 ?_
      obtain ⟨z_38, ez_38, hz_38⟩ := s_add (rfl : (i 36 52).toInt = _) (show (1 : Int32).toInt = 1 from rfl) (by omega) (by omega)
      refine sj_i ez_38 ?_
      have hO_39 := okp hO_37 (n := 36) (k := 52) (v := z_38) (show (0 : Int) ≤ (z_38 : Int32).toInt ∧ (z_38 : Int32).toInt ≤ 64 from ⟨by omega, by omega⟩)
      refine h_puti (ty := .int) (ci := 12) (C := RX12) (F := TX12) (N := 86) hx hb hts in12 tyX12 tyX12_ok nmX12 hown hK hH hS (by decide) (rfl : kd 36 = 12) (by decide) rfl 52 (by decide) wd3 (fun _ h9 => h9) rfl (by decide +kernel) rfl rfl (by decide) rfl dX12_takeOne_56 (fun H locs hH hS => ?_)
      refine lv_aload_n hx hb dX12_takeOne_59 rfl (lv_at hl 0 rfl) ?_
      refine h_getr (ci := 12) (C := RX12) (F := TX12) (N := 86) hx hb hts in12 hown hK hH (by decide) (rfl : kd 36 = 12) (by decide) rfl 51 (by decide) wd4 (fun _ h9 => h9) (by decide) rfl (t := 410) (hR 36 51 rfl) (by decide) dX12_takeOne_60 ?_
      refine lv_aload_n hx hb dX12_takeOne_63 rfl (lv_at hl 0 rfl) ?_
      have bx_40 : (0 : Int) ≤ (i 36 49).toInt ∧ (i 36 49).toInt ≤ 64 := hO 36 49
      refine h_geti (ci := 12) (C := RX12) (F := TX12) (N := 86) hx hb hts in12 hown hK hH (by decide) (rfl : kd 36 = 12) (by decide) rfl 49 (by decide) wd5 (fun _ h9 => h9) (by decide) rfl dX12_takeOne_64 ?_
      refine sj_i (y := (i 36 49)) ((up2_k _ _ (by decide)).trans ((congrFun (up2_n _ _ (by decide)) _).trans (up2_k _ _ (by decide)))) ?_
      refine lv_iconst (v := 1) hx hb dX12_takeOne_67 (by decide) ?_
      refine lv_isub hx hb dX12_takeOne_68 ?_
      obtain ⟨z_41, ez_41, hz_41⟩ := s_sub (rfl : (i 36 49).toInt = _) (show (1 : Int32).toInt = 1 from rfl) (by omega) (by omega)
      refine sj_i ez_41 ?_
      refine lv_dup2_11 hx hb dX12_takeOne_69 rfl rfl ?_
      refine h_iald hx hb hK hH (by decide) (rfl : kd 410 = 13) (s_vin (N := 64) (rfl : z_41.toInt = _) (rfl : ln 410 = 64) (by omega) (by omega)) dX12_takeOne_70 ?_
      have ek_42 : z_41.toNatClampNeg = ((i 36 49).toInt - 1).toNat := (s_cl (show z_41.toInt = (i 36 49).toInt - 1 by omega))
      refine sj_i (y := (i 410 ((i 36 49).toInt - 1).toNat)) (by rw [ek_42]; exact ((congrFun (up2_n _ _ (by decide)) _).trans ((congrFun (up2_n _ _ (by decide)) _).trans (congrFun (up2_n _ _ (by decide)) _)))) ?_
      refine lv_iconst (v := 1) hx hb dX12_takeOne_71 (by decide) ?_
      refine lv_iadd hx hb dX12_takeOne_72 ?_
      obtain ⟨z_43, ez_43, hz_43⟩ := s_add (rfl : (i 410 ((i 36 49).toInt - 1).toNat).toInt = _) (show (1 : Int32).toInt = 1 from rfl) (by omega) (by omega)
      refine sj_i ez_43 ?_
      have hO_44 := okp hO_39 (n := 410) (k := ((i 36 49).toInt - 1).toNat) (v := z_43) (show (-2147483648 : Int) ≤ (z_43 : Int32).toInt ∧ (z_43 : Int32).toInt ≤ 2147483647 from s_rng z_43)
      refine h_iast hx hb hK hH hS (by decide) (rfl : kd 410 = 13) (s_vin (N := 64) (rfl : z_41.toInt = _) (rfl : ln 410 = 64) (by omega) (by omega)) dX12_takeOne_73 (fun H locs hH hS => ?_)
      rw [s_cl (show z_41.toInt = (i 36 49).toInt - 1 by omega)] at hH
      refine lv_aload_n hx hb dX12_takeOne_74 rfl (lv_at hl 0 rfl) ?_
      refine lv_dup hx hb dX12_takeOne_75 rfl ?_
      refine h_geti (ci := 12) (C := RX12) (F := TX12) (N := 86) hx hb hts in12 hown hK hH (by decide) (rfl : kd 36 = 12) (by decide) rfl 54 (by decide) wd0 (fun _ h9 => h9) (by decide) rfl dX12_takeOne_76 ?_
      refine sj_i (y := z_28) ((congrFun (up2_n _ _ (by decide)) _).trans ((up2_k _ _ (by decide)).trans ((congrFun (up2_n _ _ (by decide)) _).trans (up2_at _ _ _ _)))) ?_
      refine lv_iconst (v := 1) hx hb dX12_takeOne_79 (by decide) ?_
      refine lv_iadd hx hb dX12_takeOne_80 ?_
      obtain ⟨z_45, ez_45, hz_45⟩ := s_add (rfl : z_28.toInt = _) (show (1 : Int32).toInt = 1 from rfl) (by omega) (by omega)
      refine sj_i ez_45 ?_
      have hO_46 := okp hO_44 (n := 36) (k := 54) (v := z_45) (show (0 : Int) ≤ (z_45 : Int32).toInt ∧ (z_45 : Int32).toInt ≤ 720 from ⟨by omega, by omega⟩)
      refine h_puti (ty := .int) (ci := 12) (C := RX12) (F := TX12) (N := 86) hx hb hts in12 tyX12 tyX12_ok nmX12 hown hK hH hS (by decide) (rfl : kd 36 = 12) (by decide) rfl 54 (by decide) wd0 (fun _ h9 => h9) rfl (by decide +kernel) rfl rfl (by decide) rfl dX12_takeOne_81 (fun H locs hH hS => ?_)
      refine lv_iconst (v := 1) hx hb dX12_takeOne_84 (by decide) ?_
      have hp_47 : ((up2 (up2 (up2 (up2 (up2 i 36 54 z_28) 411 ((i 36 52).toInt).toNat z_36) 36 52 z_38) 410 ((i 36 49).toInt - 1).toNat z_43) 36 54 z_45) 36 52).toInt = (z_38 : Int32).toInt := congrArg Int32.toInt (((up2_k _ _ (by decide)).trans ((congrFun (up2_n _ _ (by decide)) _).trans (up2_at _ _ _ _))))
      have hp_48 : ((up2 (up2 (up2 (up2 (up2 i 36 54 z_28) 411 ((i 36 52).toInt).toNat z_36) 36 52 z_38) 410 ((i 36 49).toInt - 1).toNat z_43) 36 54 z_45) 36 54).toInt = (z_45 : Int32).toInt := congrArg Int32.toInt ((up2_at _ _ _ _))
      have hq9 : ((up2 (up2 (up2 (up2 (up2 i 36 54 z_28) 411 ((i 36 52).toInt).toNat z_36) 36 52 z_38) 410 ((i 36 49).toInt - 1).toNat z_43) 36 54 z_45) 410 ((i 36 49).toInt - 1).toNat).toInt = (z_43 : Int32).toInt := congrArg Int32.toInt (((congrFun (up2_n _ _ (by decide)) _).trans (up2_at _ _ _ _)))
      have hoth : ∀ k : Nat, k ≠ ((i 36 49).toInt - 1).toNat → (up2 (up2 (up2 (up2 (up2 i 36 54 z_28) 411 ((i 36 52).toInt).toNat z_36) 36 52 z_38) 410 ((i 36 49).toInt - 1).toNat z_43) 36 54 z_45) 410 k = i 410 k := fun k hk => ((up2_o _ _ (by omega)).trans ((up2_o _ _ (by omega)).trans ((up2_o _ _ (by omega)).trans ((up2_o _ _ (by omega)).trans (up2_o _ _ (by omega))))))
      have hV_49 : ((1 : Int32).toInt = 1 ∧ (((i 403 (i 36 54).toInt.toNat).toInt ≠ 92 ∧ ((up2 (up2 (up2 (up2 (up2 i 36 54 z_28) 411 ((i 36 52).toInt).toNat z_36) 36 52 z_38) 410 ((i 36 49).toInt - 1).toNat z_43) 36 54 z_45) 36 54).toInt = (i 36 54).toInt + 1) ∨ ((i 403 (i 36 54).toInt.toNat).toInt = 92 ∧ (i 36 54).toInt + 1 < (i 36 55).toInt ∧ ((up2 (up2 (up2 (up2 (up2 i 36 54 z_28) 411 ((i 36 52).toInt).toNat z_36) 36 52 z_38) 410 ((i 36 49).toInt - 1).toNat z_43) 36 54 z_45) 36 54).toInt = (i 36 54).toInt + 2)) ∧ ((up2 (up2 (up2 (up2 (up2 i 36 54 z_28) 411 ((i 36 52).toInt).toNat z_36) 36 52 z_38) 410 ((i 36 49).toInt - 1).toNat z_43) 36 54 z_45) 36 52).toInt = (i 36 52).toInt + 1 ∧ lsz (up2 (up2 (up2 (up2 (up2 i 36 54 z_28) 411 ((i 36 52).toInt).toNat z_36) 36 52 z_38) 410 ((i 36 49).toInt - 1).toNat z_43) 36 54 z_45) = lsz i + 1 ∧ (∀ k : Nat, k ≠ ((i 36 49).toInt - 1).toNat → (up2 (up2 (up2 (up2 (up2 i 36 54 z_28) 411 ((i 36 52).toInt).toNat z_36) 36 52 z_38) 410 ((i 36 49).toInt - 1).toNat z_43) 36 54 z_45) 410 k = i 410 k) ∧ exI (up2 (up2 (up2 (up2 (up2 i 36 54 z_28) 411 ((i 36 52).toInt).toNat z_36) 36 52 z_38) 410 ((i 36 49).toInt - 1).toNat z_43) 36 54 z_45)) ∨ ((1 : Int32).toInt = 0 ∧ (i 403 (i 36 54).toInt.toNat).toInt = 92 ∧ (i 36 55).toInt ≤ (i 36 54).toInt + 1) := (Or.inl ⟨by rfl, by omega, by omega, (by unfold lsz; rw [show (up2 (up2 (up2 (up2 (up2 i 36 54 z_28) 411 ((i 36 52).toInt).toNat z_36) 36 52 z_38) 410 ((i 36 49).toInt - 1).toNat z_43) 36 54 z_45) 36 49 = i 36 49 from ((up2_o _ _ (by omega)).trans ((up2_o _ _ (by omega)).trans ((up2_o _ _ (by omega)).trans ((up2_o _ _ (by omega)).trans (up2_o _ _ (by omega))))))]; omega), hoth, (exI_take hex (by omega) ((up2_o _ _ (by omega)).trans ((up2_o _ _ (by omega)).trans ((up2_o _ _ (by omega)).trans ((up2_o _ _ (by omega)).trans (up2_o _ _ (by omega)))))) ((up2_o _ _ (by omega)).trans ((up2_o _ _ (by omega)).trans ((up2_o _ _ (by omega)).trans ((up2_o _ _ (by omega)).trans (up2_o _ _ (by omega)))))) (by omega) (funext fun b => ((up2_o _ _ (by omega)).trans ((up2_o _ _ (by omega)).trans ((up2_o _ _ (by omega)).trans ((up2_o _ _ (by omega)).trans (up2_o _ _ (by omega))))))) (funext fun b => ((up2_o _ _ (by omega)).trans ((up2_o _ _ (by omega)).trans ((up2_o _ _ (by omega)).trans ((up2_o _ _ (by omega)).trans (up2_o _ _ (by omega))))))) (funext fun b => ((up2_o _ _ (by omega)).trans ((up2_o _ _ (by omega)).trans ((up2_o _ _ (by omega)).trans ((up2_o _ _ (by omega)).trans (up2_o _ _ (by omega))))))) (funext fun b => ((up2_o _ _ (by omega)).trans ((up2_o _ _ (by omega)).trans ((up2_o _ _ (by omega)).trans ((up2_o _ _ (by omega)).trans (up2_o _ _ (by omega))))))) (by omega) hoth)⟩)
      exact sj_zret hx hb hr hlocks (by decide +kernel) hS (up2 (up2 (up2 (up2 (up2 i 36 54 z_28) 411 ((i 36 52).toInt).toNat z_36) 36 52 z_38) 410 ((i 36 49).toInt - 1).toNat z_43) 36 54 z_45) ⟨hO_46, (fun a b ha => ((up2_o _ _ (by omega)).trans ((up2_o _ _ (by omega)).trans ((up2_o _ _ (by omega)).trans ((up2_o _ _ (by omega)).trans (up2_o _ _ (by omega))))))), ⟨by decide, by decide⟩, hV_49⟩ hH (sj_Knil hK) (Nat.le_of_ble_eq_true rfl) (Nat.le_of_ble_eq_true rfl) dX12_takeOne_85
    · skip
      have h_50 := s_nlt (rfl : z_28.toInt = _) (rfl : (i 36 55).toInt = _) c_31
      refine lv_iconst (v := 0) hx hb dX12_takeOne_32 (by decide) ?_
      have hV_51 : ((0 : Int32).toInt = 1 ∧ (((i 403 (i 36 54).toInt.toNat).toInt ≠ 92 ∧ ((up2 i 36 54 z_28) 36 54).toInt = (i 36 54).toInt + 1) ∨ ((i 403 (i 36 54).toInt.toNat).toInt = 92 ∧ (i 36 54).toInt + 1 < (i 36 55).toInt ∧ ((up2 i 36 54 z_28) 36 54).toInt = (i 36 54).toInt + 2)) ∧ ((up2 i 36 54 z_28) 36 52).toInt = (i 36 52).toInt + 1 ∧ lsz (up2 i 36 54 z_28) = lsz i + 1 ∧ (∀ k : Nat, k ≠ ((i 36 49).toInt - 1).toNat → (up2 i 36 54 z_28) 410 k = i 410 k) ∧ exI (up2 i 36 54 z_28)) ∨ ((0 : Int32).toInt = 0 ∧ (i 403 (i 36 54).toInt.toNat).toInt = 92 ∧ (i 36 55).toInt ≤ (i 36 54).toInt + 1) := (Or.inr ⟨by rfl, by omega, by omega⟩)
      exact sj_zret hx hb hr hlocks (by decide +kernel) hS (up2 i 36 54 z_28) ⟨hO_29, (fun a b ha => (up2_o _ _ (by omega))), ⟨by decide, by decide⟩, hV_51⟩ hH (sj_Knil hK) (Nat.le_of_ble_eq_true rfl) (Nat.le_of_ble_eq_true rfl) dX12_takeOne_33
